/-! The constructors (by program: wip/whole/src_ctor.py) -/
theorem df_Al : ∀ j, j < 3 → defaultValue (t_Al j) = vp_V [.null, .int 0, .int 0] j := by decide +kernel
theorem df_Fl : ∀ j, j < 8 → defaultValue (t_Fl j) = vp_V [.int 0, .int 0, .int 0, .int 0, .int 0, .null, .null, .int 0] j := by decide +kernel
theorem df_Ft : ∀ j, j < 2 → defaultValue (t_Ft j) = vp_V [.null, .int 0] j := by decide +kernel
theorem df_Mk : ∀ j, j < 3 → defaultValue (t_Mk j) = vp_V [.null, .null, .int 0] j := by decide +kernel
theorem df_Op : ∀ j, j < 7 → defaultValue (t_Op j) = vp_V [.int 0, .int 0, .int 0, .int 0, .int 0, .long 0, .int 0] j := by decide +kernel
theorem df_Pk : ∀ j, j < 8 → defaultValue (t_Pk j) = vp_V [.int 0, .int 0, .int 0, .int 0, .int 0, .int 0, .int 0, .int 0] j := by decide +kernel
theorem df_Ru : ∀ j, j < 4 → defaultValue (t_Ru j) = vp_V [.int 0, .int 0, .null, .int 0] j := by decide +kernel
theorem df_Se : ∀ j, j < 2 → defaultValue (t_Se j) = vp_V [.null, .null] j := by decide +kernel
theorem df_Sm : ∀ j, j < 8 → defaultValue (t_Sm j) = vp_V [.null, .null, .int 0, .int 0, .int 0, .int 0, .int 0, .int 0] j := by decide +kernel
theorem df_Wi : ∀ j, j < 2 → defaultValue (t_Wi j) = vp_V [.null, .int 0] j := by decide +kernel
theorem df_Sw : ∀ j, j < 8 → defaultValue (t_Sw j) = vp_V [.int 0, .null, .null, .null, .null, .null, .null, .int 0] j := by decide +kernel
theorem df_Md : ∀ j, j < 33 → defaultValue (t_Md j) = vp_V [.int 0, .int 0, .int 0, .null, .null, .null, .null, .null, .null, .null, .int 0, .null, .null, .null, .null, .null, .null, .null, .null, .int 0, .null, .null, .null, .null, .null, .null, .null, .null, .int 0, .null, .null, .int 0, .null] j := by decide +kernel
theorem iw_Wi_init : mj_IW zG m_Wi_init 0 := ⟨rfl, z1_30, z1_2, z1_31, rfl, by decide, by decide, by decide +kernel⟩
theorem iw_Pk_init : mj_IW zG m_Pk_init 0 := ⟨rfl, z1_44, z1_3, z1_45, rfl, by decide, by decide, by decide +kernel⟩
theorem iw_Mk_init : mj_IW zG m_Mk_init 0 := ⟨rfl, z1_175, z1_8, z1_176, rfl, by decide, by decide, by decide +kernel⟩
theorem iw_Se_init : mj_IW zG m_Se_init 0 := ⟨rfl, z1_169, z1_7, z1_170, rfl, by decide, by decide, by decide +kernel⟩
theorem iw_Al_init : mj_IW zG m_Al_init 0 := ⟨rfl, z1_199, z1_9, z1_200, rfl, by decide, by decide, by decide +kernel⟩
theorem iw_Sm_init : mj_IW zG m_Sm_init 0 := ⟨rfl, z1_95, z1_6, z1_96, rfl, by decide, by decide, by decide +kernel⟩
theorem iw_Fl_init : mj_IW zG m_Fl_init 0 := ⟨rfl, z1_89, z1_5, z1_90, rfl, by decide, by decide, by decide +kernel⟩
theorem iw_Ft_init : mj_IW zG m_Ft_init 0 := ⟨rfl, z1_82, z1_4, z1_83, rfl, by decide, by decide, by decide +kernel⟩
theorem iw_Ru_init : mj_IW zG m_Ru_init 2 := ⟨rfl, z3_231, z1_17, z3_232, rfl, by decide, by decide, by decide +kernel⟩
theorem iw_Op_init : mj_IW zG m_Op_init 5 := ⟨rfl, z4_25, z1_18, z4_26, rfl, by decide, by decide, by decide +kernel⟩
theorem iw_Sw_init : mj_IW zG m_Sw_init 1 := ⟨rfl, z1_22, z1_1, z1_23, rfl, by decide, by decide, by decide +kernel⟩
theorem iw_Md_init : mj_IW zG m_Md_init 1 := ⟨rfl, z4_62, z1_10, z4_63, rfl, by decide, by decide, by decide +kernel⟩
abbrev z0 : Nat → Int32 := fun _ => 0
abbrev Z_0 : mj_Zt := ([], [])
abbrev Z_Se : mj_Zt := ([("StreamWatch$Search", 9, ⟨"StreamWatch$Marks", "<init>", "()V"⟩, "StreamWatch")], [])
abbrev Z_Ft : mj_Zt := ([("StreamWatch$FlowTable", 21, ⟨"StreamWatch$Flow", "<init>", "()V"⟩, "StreamWatch")], ["StreamWatch$Flow"])
abbrev Z_Sw : mj_Zt := ([("StreamWatch", 9, ⟨"StreamWatch$Wire", "<init>", "()V"⟩, "StreamWatch"), ("StreamWatch", 18, ⟨"StreamWatch$Packet", "<init>", "()V"⟩, "StreamWatch"), ("StreamWatch", 38, ⟨"StreamWatch$Search", "<init>", "()V"⟩, "StreamWatch"), ("StreamWatch", 45, ⟨"StreamWatch$AlertLog", "<init>", "()V"⟩, "StreamWatch"), ("StreamWatch$FlowTable", 21, ⟨"StreamWatch$Flow", "<init>", "()V"⟩, "StreamWatch"), ("StreamWatch$Search", 9, ⟨"StreamWatch$Marks", "<init>", "()V"⟩, "StreamWatch")], ["StreamWatch$Flow", "StreamWatch$Rule"])
abbrev Z_Ru : mj_Zt := ([], ["StreamWatch$Option"])
set_option maxRecDepth 100000 in
set_option maxHeartbeats 8000000 in
theorem ev_Wi_init (l : Launch) (D : va_G) (cA : Nat → ClassId) : mj_EvZ zG l D cA m_Wi_init 1 40 1 100 [.ref 0] [(0, .inr (9, [.null, .int 0]))] [0] Z_0 (fun r1 w1 => r1 = none ∧ w1 = [(0, cWi 1 0)] ++ [(1, cIs 100 z0)]) := by
  refine mj_evZ (lv := [(0, .ref 0)]) (by decide +kernel) (Nat.le_of_ble_eq_true rfl) rfl (fun X h hZ => ?_)
  refine mj_blk h.1 b_Wi_init_0 rfl trivial ?_
  refine mj_objI h z1_32 z1_25 z1_26 d_Wi_init_1 (by decide) (by decide) (by decide) ?_
  refine mj_blk h.1 b_Wi_init_4 rfl trivial ?_
  refine mj_newa h.1 (mj_rm h) (atype := .int) (ty := .int) (t := 0) (f := .inl (fun _ => 0)) z1_40 rfl rfl (fun _ _ h => h) (fun _ => rfl) (by decide) rfl (by decide) d_Wi_init_7 (by decide) (by decide) 1 (mj_bl_no rfl) (mj_fb_ok rfl) rfl ?_
  refine mj_blk h.1 b_Wi_init_9 rfl trivial ?_
  exact mj_vret h rfl d_Wi_init_17 (by decide) (by decide) ⟨rfl, rfl⟩
set_option maxRecDepth 100000 in
set_option maxHeartbeats 8000000 in
theorem ev_Pk_init (l : Launch) (D : va_G) (cA : Nat → ClassId) : mj_EvZ zG l D cA m_Pk_init 1 40 0 0 [.ref 0] [(0, .inr (5, [.int 0, .int 0, .int 0, .int 0, .int 0, .int 0, .int 0, .int 0]))] [0] Z_0 (fun r1 w1 => r1 = none ∧ w1 = [(0, cPk 0 0 0 0 0 0 0 0)] ++ []) := by
  refine mj_evZ (lv := [(0, .ref 0)]) (by decide +kernel) (Nat.le_of_ble_eq_true rfl) rfl (fun X h hZ => ?_)
  refine mj_blk h.1 b_Pk_init_0 rfl trivial ?_
  refine mj_objI h z1_46 z1_25 z1_26 d_Pk_init_1 (by decide) (by decide) (by decide) ?_
  refine mj_blk h.1 b_Pk_init_4 rfl trivial ?_
  exact mj_vret h rfl d_Pk_init_44 (by decide) (by decide) ⟨rfl, rfl⟩
set_option maxRecDepth 100000 in
set_option maxHeartbeats 8000000 in
theorem ev_Mk_init (l : Launch) (D : va_G) (cA : Nat → ClassId) : mj_EvZ zG l D cA m_Mk_init 1 40 2 162 [.ref 0] [(0, .inr (3, [.null, .null, .int 0]))] [0] Z_0 (fun r1 w1 => r1 = none ∧ w1 = [(0, cMk 1 2 0)] ++ [(1, cBs z0), (2, cIs 81 z0)]) := by
  refine mj_evZ (lv := [(0, .ref 0)]) (by decide +kernel) (Nat.le_of_ble_eq_true rfl) rfl (fun X h hZ => ?_)
  refine mj_blk h.1 b_Mk_init_0 rfl trivial ?_
  refine mj_objI h z1_177 z1_25 z1_26 d_Mk_init_1 (by decide) (by decide) (by decide) ?_
  refine mj_blk h.1 b_Mk_init_4 rfl trivial ?_
  refine mj_newa h.1 (mj_rm h) (atype := .boolean) (ty := .boolean) (t := 1) (f := .inl (fun _ => 0)) z1_188 rfl rfl (fun _ _ h => h) (fun _ => rfl) (by decide) rfl (by decide) d_Mk_init_7 (by decide) (by decide) 1 (mj_bl_no rfl) (mj_fb_ok rfl) rfl ?_
  refine mj_blk h.1 b_Mk_init_9 rfl trivial ?_
  refine mj_newa h.1 (mj_rm h) (atype := .int) (ty := .int) (t := 0) (f := .inl (fun _ => 0)) z1_40 rfl rfl (fun _ _ h => h) (fun _ => rfl) (by decide) rfl (by decide) d_Mk_init_15 (by decide) (by decide) 2 (mj_bl_no rfl) (mj_fb_ok rfl) rfl ?_
  refine mj_blk h.1 b_Mk_init_17 rfl trivial ?_
  exact mj_vret h rfl d_Mk_init_25 (by decide) (by decide) ⟨rfl, rfl⟩
set_option maxRecDepth 100000 in
set_option maxHeartbeats 8000000 in
theorem ev_Se_init (l : Launch) (D : va_G) (cA : Nat → ClassId) : mj_EvZ zG l D cA m_Se_init 2 80 6 330 [.ref 0] [(0, .inr (7, [.null, .null]))] [0] Z_Se (fun r1 w1 => r1 = none ∧ w1 = [(0, cSe)] ++ [(1, cMk 3 4 0), (3, cBs z0), (4, cIs 81 z0), (2, cMk 5 6 0), (5, cBs z0), (6, cIs 81 z0)]) := by
  refine mj_evZ (lv := [(0, .ref 0)]) (by decide +kernel) (Nat.le_of_ble_eq_true rfl) rfl (fun X h hZ => ?_)
  refine mj_blk h.1 b_Se_init_0 rfl trivial ?_
  refine mj_objI h z1_171 z1_25 z1_26 d_Se_init_1 (by decide) (by decide) (by decide) ?_
  refine mj_blk h.1 b_Se_init_4 rfl trivial ?_
  refine mj_new h.1 (mj_rm h) (ci := 3) (fs := [.null, .null, .int 0]) rfl u_Mk t_Mk_ok z1_172 z1_173 z1_8 df_Mk (fun _ => rfl) d_Se_init_5 (by decide) (by decide) 1 (mj_bl_no rfl) (mj_fb_ok rfl) rfl ?_
  refine mj_blk h.1 b_Se_init_8 rfl trivial ?_
  refine mj_callI h zGood hZ (ev_Mk_init l D cA) iw_Mk_init (Or.inr ⟨"StreamWatch", List.mem_cons_self⟩) ⟨(fun _ h => nomatch h), (fun _ h => nomatch h)⟩ d_Se_init_9 rfl ⟨by decide, by decide⟩ ⟨by decide, by decide⟩ [(0, 1), (1, 3), (2, 4)] [(1, 3), (2, 4)] rfl rfl rfl rfl (Nat.le_of_ble_eq_true rfl) rfl ?_
  rintro _ _ ⟨rfl, rfl⟩
  refine mj_k9 rfl rfl rfl rfl rfl rfl rfl rfl ?_
  refine mj_blk h.1 b_Se_init_12 rfl trivial ?_
  refine mj_new h.1 (mj_rm h) (ci := 3) (fs := [.null, .null, .int 0]) rfl u_Mk t_Mk_ok z1_172 z1_173 z1_8 df_Mk (fun _ => rfl) d_Se_init_16 (by decide) (by decide) 2 (mj_bl_no rfl) (mj_fb_ok rfl) rfl ?_
  refine mj_blk h.1 b_Se_init_19 rfl trivial ?_
  refine mj_callI h zGood hZ (ev_Mk_init l D cA) iw_Mk_init (Or.inr ⟨"StreamWatch", List.mem_cons_self⟩) ⟨(fun _ h => nomatch h), (fun _ h => nomatch h)⟩ d_Se_init_20 rfl ⟨by decide, by decide⟩ ⟨by decide, by decide⟩ [(0, 2), (1, 5), (2, 6)] [(1, 5), (2, 6)] rfl rfl rfl rfl (Nat.le_of_ble_eq_true rfl) rfl ?_
  rintro _ _ ⟨rfl, rfl⟩
  refine mj_k9 rfl rfl rfl rfl rfl rfl rfl rfl ?_
  refine mj_blk h.1 b_Se_init_23 rfl trivial ?_
  exact mj_vret h rfl d_Se_init_26 (by decide) (by decide) ⟨rfl, rfl⟩
set_option maxRecDepth 100000 in
set_option maxHeartbeats 8000000 in
theorem ev_Al_init (l : Launch) (D : va_G) (cA : Nat → ClassId) : mj_EvZ zG l D cA m_Al_init 1 40 1 96 [.ref 0] [(0, .inr (0, [.null, .int 0, .int 0]))] [0] Z_0 (fun r1 w1 => r1 = none ∧ w1 = [(0, .inr (0, [.ref 1, .int 0, .int (-1)]))] ++ [(1, cIs 96 z0)]) := by
  refine mj_evZ (lv := [(0, .ref 0)]) (by decide +kernel) (Nat.le_of_ble_eq_true rfl) rfl (fun X h hZ => ?_)
  refine mj_blk h.1 b_Al_init_0 rfl trivial ?_
  refine mj_objI h z1_201 z1_25 z1_26 d_Al_init_1 (by decide) (by decide) (by decide) ?_
  refine mj_blk h.1 b_Al_init_4 rfl trivial ?_
  refine mj_newa h.1 (mj_rm h) (atype := .int) (ty := .int) (t := 0) (f := .inl (fun _ => 0)) z1_40 rfl rfl (fun _ _ h => h) (fun _ => rfl) (by decide) rfl (by decide) d_Al_init_7 (by decide) (by decide) 1 (mj_bl_no rfl) (mj_fb_ok rfl) rfl ?_
  refine mj_blk h.1 b_Al_init_9 rfl trivial ?_
  exact mj_vret h rfl d_Al_init_22 (by decide) (by decide) ⟨rfl, rfl⟩
set_option maxRecDepth 100000 in
set_option maxHeartbeats 8000000 in
theorem ev_Sm_init (l : Launch) (D : va_G) (cA : Nat → ClassId) : mj_EvZ zG l D cA m_Sm_init 1 40 2 112 [.ref 0] [(0, .inr (8, [.null, .null, .int 0, .int 0, .int 0, .int 0, .int 0, .int 0]))] [0] Z_0 (fun r1 w1 => r1 = none ∧ w1 = [(0, cSm 1 2 0 0 0 0 false false)] ++ [(1, cIs 80 z0), (2, cIs 32 (sFill 32 0 z0))]) := by
  refine mj_evZ (lv := [(0, .ref 0)]) (by decide +kernel) (Nat.le_of_ble_eq_true rfl) rfl (fun X h hZ => ?_)
  refine mj_blk h.1 b_Sm_init_0 rfl trivial ?_
  refine mj_objI h z1_97 z1_25 z1_26 d_Sm_init_1 (by decide) (by decide) (by decide) ?_
  refine mj_blk h.1 b_Sm_init_4 rfl trivial ?_
  refine mj_newa h.1 (mj_rm h) (atype := .int) (ty := .int) (t := 0) (f := .inl (fun _ => 0)) z1_40 rfl rfl (fun _ _ h => h) (fun _ => rfl) (by decide) rfl (by decide) d_Sm_init_7 (by decide) (by decide) 1 (mj_bl_no rfl) (mj_fb_ok rfl) rfl ?_
  refine mj_blk h.1 b_Sm_init_9 rfl trivial ?_
  refine mj_newa h.1 (mj_rm h) (atype := .int) (ty := .int) (t := 0) (f := .inl (fun _ => 0)) z1_40 rfl rfl (fun _ _ h => h) (fun _ => rfl) (by decide) rfl (by decide) d_Sm_init_15 (by decide) (by decide) 2 (mj_bl_no rfl) (mj_fb_ok rfl) rfl ?_
  refine mj_blk h.1 b_Sm_init_17 rfl ⟨Or.inl rfl, Or.inl rfl, trivial⟩ ?_
  refine mj_callV h zGood (ev_Sm_emptyWindow l D cA z0 z0 0 0 0 0 false false) v_Sm_emptyWindow l_Sm_init_51 d_Sm_init_51 rfl ⟨by decide, by decide⟩ ⟨by decide, by decide⟩ [] rfl rfl rfl rfl rfl rfl (Nat.le_of_ble_eq_true rfl) ?_
  rintro _ _ ⟨rfl, rfl⟩
  refine mj_k rfl rfl ?_
  exact mj_vret h rfl d_Sm_init_54 (by decide) (by decide) ⟨rfl, rfl⟩
set_option maxRecDepth 100000 in
set_option maxHeartbeats 8000000 in
theorem ev_Fl_init (l : Launch) (D : va_G) (cA : Nat → ClassId) : mj_EvZ zG l D cA m_Fl_init 2 80 6 240 [.ref 0] [(0, .inr (1, [.int 0, .int 0, .int 0, .int 0, .int 0, .null, .null, .int 0]))] [0] Z_0 (fun r1 w1 => r1 = none ∧ w1 = [(0, cFl 1 2 0 0 0 0 0 false)] ++ [(1, cSm 3 4 0 0 0 0 false false), (3, cIs 80 z0), (4, cIs 32 (sFill 32 0 z0)), (2, cSm 5 6 0 0 0 0 false false), (5, cIs 80 z0), (6, cIs 32 (sFill 32 0 z0))]) := by
  refine mj_evZ (lv := [(0, .ref 0)]) (by decide +kernel) (Nat.le_of_ble_eq_true rfl) rfl (fun X h hZ => ?_)
  refine mj_blk h.1 b_Fl_init_0 rfl trivial ?_
  refine mj_objI h z1_91 z1_25 z1_26 d_Fl_init_1 (by decide) (by decide) (by decide) ?_
  refine mj_blk h.1 b_Fl_init_4 rfl trivial ?_
  refine mj_new h.1 (mj_rm h) (ci := 8) (fs := [.null, .null, .int 0, .int 0, .int 0, .int 0, .int 0, .int 0]) rfl u_Sm t_Sm_ok z1_92 z1_93 z1_6 df_Sm (fun _ => rfl) d_Fl_init_30 (by decide) (by decide) 1 (mj_bl_no rfl) (mj_fb_ok rfl) rfl ?_
  refine mj_blk h.1 b_Fl_init_33 rfl trivial ?_
  refine mj_callI h zGood hZ (ev_Sm_init l D cA) iw_Sm_init (Or.inl z1_94) ⟨(fun _ h => nomatch h), (fun _ h => nomatch h)⟩ d_Fl_init_34 rfl ⟨by decide, by decide⟩ ⟨by decide, by decide⟩ [(0, 1), (1, 3), (2, 4)] [(1, 3), (2, 4)] rfl rfl rfl rfl (Nat.le_of_ble_eq_true rfl) rfl ?_
  rintro _ _ ⟨rfl, rfl⟩
  refine mj_k9 rfl rfl rfl rfl rfl rfl rfl rfl ?_
  refine mj_blk h.1 b_Fl_init_37 rfl trivial ?_
  refine mj_new h.1 (mj_rm h) (ci := 8) (fs := [.null, .null, .int 0, .int 0, .int 0, .int 0, .int 0, .int 0]) rfl u_Sm t_Sm_ok z1_92 z1_93 z1_6 df_Sm (fun _ => rfl) d_Fl_init_41 (by decide) (by decide) 2 (mj_bl_no rfl) (mj_fb_ok rfl) rfl ?_
  refine mj_blk h.1 b_Fl_init_44 rfl trivial ?_
  refine mj_callI h zGood hZ (ev_Sm_init l D cA) iw_Sm_init (Or.inl z1_94) ⟨(fun _ h => nomatch h), (fun _ h => nomatch h)⟩ d_Fl_init_45 rfl ⟨by decide, by decide⟩ ⟨by decide, by decide⟩ [(0, 2), (1, 5), (2, 6)] [(1, 5), (2, 6)] rfl rfl rfl rfl (Nat.le_of_ble_eq_true rfl) rfl ?_
  rintro _ _ ⟨rfl, rfl⟩
  refine mj_k9 rfl rfl rfl rfl rfl rfl rfl rfl ?_
  refine mj_blk h.1 b_Fl_init_48 rfl ⟨Or.inl rfl, trivial⟩ ?_
  exact mj_vret h rfl d_Fl_init_56 (by decide) (by decide) ⟨rfl, rfl⟩
set_option maxRecDepth 100000 in
set_option maxHeartbeats 8000000 in
theorem ev_Ft_init (l : Launch) (D : va_G) (cA : Nat → ClassId) : mj_EvZ zG l D cA m_Ft_init 3 120 29 996 [.ref 0] [(0, .inr (2, [.null, .int 0]))] [0] Z_Ft (fun r1 w1 => r1 = none ∧ w1 = [(0, .inr (2, [.ref 1, .int 0]))] ++ [(1, .inl (3, 4, .inr (.inr [some 2, some 3, some 4, some 5]))), (2, cFl 6 7 0 0 0 0 0 false), (6, cSm 14 15 0 0 0 0 false false), (14, cIs 80 z0), (15, cIs 32 (sFill 32 0 z0)), (7, cSm 16 17 0 0 0 0 false false), (16, cIs 80 z0), (17, cIs 32 (sFill 32 0 z0)), (3, cFl 8 9 0 0 0 0 0 false), (8, cSm 18 19 0 0 0 0 false false), (18, cIs 80 z0), (19, cIs 32 (sFill 32 0 z0)), (9, cSm 20 21 0 0 0 0 false false), (20, cIs 80 z0), (21, cIs 32 (sFill 32 0 z0)), (4, cFl 10 11 0 0 0 0 0 false), (10, cSm 22 23 0 0 0 0 false false), (22, cIs 80 z0), (23, cIs 32 (sFill 32 0 z0)), (11, cSm 24 25 0 0 0 0 false false), (24, cIs 80 z0), (25, cIs 32 (sFill 32 0 z0)), (5, cFl 12 13 0 0 0 0 0 false), (12, cSm 26 27 0 0 0 0 false false), (26, cIs 80 z0), (27, cIs 32 (sFill 32 0 z0)), (13, cSm 28 29 0 0 0 0 false false), (28, cIs 80 z0), (29, cIs 32 (sFill 32 0 z0))]) := by
  refine mj_evZ (lv := [(0, .ref 0)]) (by decide +kernel) (Nat.le_of_ble_eq_true rfl) rfl (fun X h hZ => ?_)
  refine mj_blk h.1 b_Ft_init_0 rfl trivial ?_
  refine mj_objI h z1_84 z1_25 z1_26 d_Ft_init_1 (by decide) (by decide) (by decide) ?_
  refine mj_blk h.1 b_Ft_init_4 rfl trivial ?_
  refine mj_newr h.1 (mj_rm h) hZ (C := "StreamWatch$Flow") (t := 3) (List.mem_cons_self) z1_85 rfl (by decide) rfl (by decide) d_Ft_init_6 (by decide) (by decide) 1 (mj_bl_no rfl) (mj_fb_ok rfl) (f := [none, none, none, none]) (by intro x hx; simpa using hx) rfl ?_
  refine mj_blk h.1 b_Ft_init_9 rfl trivial ?_
  refine mj_blk h.1 b_Ft_init_19 rfl trivial ?_
  refine mj_icge h.1 (tgt := 43) d_Ft_init_21 (by decide) (fun hz => ?_) (fun hz => ?_)
  · exact absurd hz (by decide)
  · refine mj_blk h.1 b_Ft_init_24 rfl trivial ?_
    refine mj_new h.1 (mj_rm h) (ci := 1) (fs := [.int 0, .int 0, .int 0, .int 0, .int 0, .null, .null, .int 0]) rfl u_Fl t_Fl_ok z1_85 z1_87 z1_5 df_Fl (fun _ => rfl) d_Ft_init_29 (by decide) (by decide) 2 (mj_bl_no rfl) (mj_fb_ok rfl) rfl ?_
    refine mj_blk h.1 b_Ft_init_32 rfl trivial ?_
    refine mj_callI h zGood hZ (ev_Fl_init l D cA) iw_Fl_init (Or.inr ⟨"StreamWatch", List.mem_cons_self⟩) ⟨(fun _ h => nomatch h), (fun _ h => nomatch h)⟩ d_Ft_init_33 rfl ⟨by decide, by decide⟩ ⟨by decide, by decide⟩ [(0, 2), (1, 6), (2, 7), (3, 14), (4, 15), (5, 16), (6, 17)] [(1, 6), (3, 14), (4, 15), (2, 7), (5, 16), (6, 17)] rfl rfl rfl rfl (Nat.le_of_ble_eq_true rfl) rfl ?_
    rintro _ _ ⟨rfl, rfl⟩
    refine mj_k9 rfl rfl rfl rfl rfl rfl rfl rfl ?_
    refine mj_aast h.1 (r := (R_Fl, T_Fl, 8)) rfl rfl rfl rfl (show vp_in (nI 0) 4 from vp_in_nI (by decide) (by decide)) rfl d_Ft_init_36 rfl ?_
    refine mj_blk h.1 b_Ft_init_37 rfl trivial ?_
    rw [show (0 : Int32) + 1 = 1 from rfl]
    refine mj_blk h.1 b_Ft_init_19 rfl trivial ?_
    refine mj_icge h.1 (tgt := 43) d_Ft_init_21 (by decide) (fun hz => ?_) (fun hz => ?_)
    · exact absurd hz (by decide)
    · refine mj_blk h.1 b_Ft_init_24 rfl trivial ?_
      refine mj_new h.1 (mj_rm h) (ci := 1) (fs := [.int 0, .int 0, .int 0, .int 0, .int 0, .null, .null, .int 0]) rfl u_Fl t_Fl_ok z1_85 z1_87 z1_5 df_Fl (fun _ => rfl) d_Ft_init_29 (by decide) (by decide) 3 (mj_bl_no rfl) (mj_fb_ok rfl) rfl ?_
      refine mj_blk h.1 b_Ft_init_32 rfl trivial ?_
      refine mj_callI h zGood hZ (ev_Fl_init l D cA) iw_Fl_init (Or.inr ⟨"StreamWatch", List.mem_cons_self⟩) ⟨(fun _ h => nomatch h), (fun _ h => nomatch h)⟩ d_Ft_init_33 rfl ⟨by decide, by decide⟩ ⟨by decide, by decide⟩ [(0, 3), (1, 8), (2, 9), (3, 18), (4, 19), (5, 20), (6, 21)] [(1, 8), (3, 18), (4, 19), (2, 9), (5, 20), (6, 21)] rfl rfl rfl rfl (Nat.le_of_ble_eq_true rfl) rfl ?_
      rintro _ _ ⟨rfl, rfl⟩
      refine mj_k9 rfl rfl rfl rfl rfl rfl rfl rfl ?_
      refine mj_aast h.1 (r := (R_Fl, T_Fl, 8)) rfl rfl rfl rfl (show vp_in (nI 1) 4 from vp_in_nI (by decide) (by decide)) rfl d_Ft_init_36 rfl ?_
      refine mj_blk h.1 b_Ft_init_37 rfl trivial ?_
      rw [show (1 : Int32) + 1 = 2 from rfl]
      refine mj_blk h.1 b_Ft_init_19 rfl trivial ?_
      refine mj_icge h.1 (tgt := 43) d_Ft_init_21 (by decide) (fun hz => ?_) (fun hz => ?_)
      · exact absurd hz (by decide)
      · refine mj_blk h.1 b_Ft_init_24 rfl trivial ?_
        refine mj_new h.1 (mj_rm h) (ci := 1) (fs := [.int 0, .int 0, .int 0, .int 0, .int 0, .null, .null, .int 0]) rfl u_Fl t_Fl_ok z1_85 z1_87 z1_5 df_Fl (fun _ => rfl) d_Ft_init_29 (by decide) (by decide) 4 (mj_bl_no rfl) (mj_fb_ok rfl) rfl ?_
        refine mj_blk h.1 b_Ft_init_32 rfl trivial ?_
        refine mj_callI h zGood hZ (ev_Fl_init l D cA) iw_Fl_init (Or.inr ⟨"StreamWatch", List.mem_cons_self⟩) ⟨(fun _ h => nomatch h), (fun _ h => nomatch h)⟩ d_Ft_init_33 rfl ⟨by decide, by decide⟩ ⟨by decide, by decide⟩ [(0, 4), (1, 10), (2, 11), (3, 22), (4, 23), (5, 24), (6, 25)] [(1, 10), (3, 22), (4, 23), (2, 11), (5, 24), (6, 25)] rfl rfl rfl rfl (Nat.le_of_ble_eq_true rfl) rfl ?_
        rintro _ _ ⟨rfl, rfl⟩
        refine mj_k9 rfl rfl rfl rfl rfl rfl rfl rfl ?_
        refine mj_aast h.1 (r := (R_Fl, T_Fl, 8)) rfl rfl rfl rfl (show vp_in (nI 2) 4 from vp_in_nI (by decide) (by decide)) rfl d_Ft_init_36 rfl ?_
        refine mj_blk h.1 b_Ft_init_37 rfl trivial ?_
        rw [show (2 : Int32) + 1 = 3 from rfl]
        refine mj_blk h.1 b_Ft_init_19 rfl trivial ?_
        refine mj_icge h.1 (tgt := 43) d_Ft_init_21 (by decide) (fun hz => ?_) (fun hz => ?_)
        · exact absurd hz (by decide)
        · refine mj_blk h.1 b_Ft_init_24 rfl trivial ?_
          refine mj_new h.1 (mj_rm h) (ci := 1) (fs := [.int 0, .int 0, .int 0, .int 0, .int 0, .null, .null, .int 0]) rfl u_Fl t_Fl_ok z1_85 z1_87 z1_5 df_Fl (fun _ => rfl) d_Ft_init_29 (by decide) (by decide) 5 (mj_bl_no rfl) (mj_fb_ok rfl) rfl ?_
          refine mj_blk h.1 b_Ft_init_32 rfl trivial ?_
          refine mj_callI h zGood hZ (ev_Fl_init l D cA) iw_Fl_init (Or.inr ⟨"StreamWatch", List.mem_cons_self⟩) ⟨(fun _ h => nomatch h), (fun _ h => nomatch h)⟩ d_Ft_init_33 rfl ⟨by decide, by decide⟩ ⟨by decide, by decide⟩ [(0, 5), (1, 12), (2, 13), (3, 26), (4, 27), (5, 28), (6, 29)] [(1, 12), (3, 26), (4, 27), (2, 13), (5, 28), (6, 29)] rfl rfl rfl rfl (Nat.le_of_ble_eq_true rfl) rfl ?_
          rintro _ _ ⟨rfl, rfl⟩
          refine mj_k9 rfl rfl rfl rfl rfl rfl rfl rfl ?_
          refine mj_aast h.1 (r := (R_Fl, T_Fl, 8)) rfl rfl rfl rfl (show vp_in (nI 3) 4 from vp_in_nI (by decide) (by decide)) rfl d_Ft_init_36 rfl ?_
          refine mj_blk h.1 b_Ft_init_37 rfl trivial ?_
          rw [show (3 : Int32) + 1 = 4 from rfl]
          refine mj_blk h.1 b_Ft_init_19 rfl trivial ?_
          refine mj_icge h.1 (tgt := 43) d_Ft_init_21 (by decide) (fun hz => ?_) (fun hz => ?_)
          · exact mj_vret h rfl d_Ft_init_43 (by decide) (by decide) ⟨rfl, rfl⟩
          · exact absurd (by decide) hz
set_option maxRecDepth 100000 in
set_option maxHeartbeats 8000000 in
theorem ev_Ru_init (l : Launch) (D : va_G) (cA : Nat → ClassId) (wy pt : Int32) : mj_EvZ zG l D cA m_Ru_init 1 40 1 3 [.ref 0, .int wy, .int pt] [(0, .inr (6, [.int 0, .int 0, .null, .int 0]))] [0] Z_Ru (fun r1 w1 => r1 = none ∧ w1 = [(0, cRu 1 wy pt 0)] ++ [(1, cOs [none, none, none])]) := by
  refine mj_evZ (lv := [(0, .ref 0), (1, .int wy), (2, .int pt)]) (by decide +kernel) (Nat.le_of_ble_eq_true rfl) rfl (fun X h hZ => ?_)
  refine mj_blk h.1 b_Ru_init_0 rfl trivial ?_
  refine mj_objI h z3_233 z1_25 z1_26 d_Ru_init_1 (by decide) (by decide) (by decide) ?_
  refine mj_blk h.1 b_Ru_init_4 rfl trivial ?_
  refine mj_newr h.1 (mj_rm h) hZ (C := "StreamWatch$Option") (t := 5) (List.mem_cons_self) z3_234 rfl (by decide) rfl (by decide) d_Ru_init_6 (by decide) (by decide) 1 (mj_bl_no rfl) (mj_fb_ok rfl) (f := [none, none, none]) (by intro x hx; simpa using hx) rfl ?_
  refine mj_blk h.1 b_Ru_init_9 rfl trivial ?_
  exact mj_vret h rfl d_Ru_init_27 (by decide) (by decide) ⟨rfl, rfl⟩
set_option maxRecDepth 100000 in
set_option maxHeartbeats 8000000 in
theorem ev_Op_init (l : Launch) (D : va_G) (cA : Nat → ClassId) (c : Nat) (v : Int64) (m a b : Int32) : mj_EvZ zG l D cA m_Op_init 1 40 0 0 [.ref 0, .int (nI c), .long v, .int m, .int a, .int b] [(0, .inr (4, [.int 0, .int 0, .int 0, .int 0, .int 0, .long 0, .int 0]))] [0] Z_0 (fun r1 w1 => r1 = none ∧ w1 = [(0, cOp (decide (¬ m &&& 2 = 0)) (decide (¬ m &&& 4 = 0)) a (if b = 0 then 80 else a + b - nI c) (nI c) v (decide (¬ m &&& 1 = 0)))] ++ []) := by
  refine mj_evZ (lv := [(0, .ref 0), (1, .int (nI c)), (2, .long v), (4, .int m), (5, .int a), (6, .int b)]) (by decide +kernel) (Nat.le_of_ble_eq_true rfl) rfl (fun X h hZ => ?_)
  refine mj_blk h.1 b_Op_init_0 rfl trivial ?_
  refine mj_objI h z4_27 z1_25 z1_26 d_Op_init_1 (by decide) (by decide) (by decide) ?_
  refine mj_blk h.1 b_Op_init_4 rfl trivial ?_
  first | refine mj_ifeqB h.1 (tgt := 26) d_Op_init_19 (by decide) (fun h1 => ?_) (fun h1 => ?_) | refine mj_ifeq h.1 (tgt := 26) d_Op_init_19 (by decide) (fun h1 => ?_) (fun h1 => ?_)
  · refine mj_blk h.1 b_Op_init_26 rfl trivial ?_
    refine mj_blk h.1 b_Op_init_27 rfl ⟨by first | exact Or.inl rfl | exact Or.inr rfl, trivial⟩ ?_
    first | refine mj_ifeqB h.1 (tgt := 42) d_Op_init_35 (by decide) (fun h2 => ?_) (fun h2 => ?_) | refine mj_ifeq h.1 (tgt := 42) d_Op_init_35 (by decide) (fun h2 => ?_) (fun h2 => ?_)
    · refine mj_blk h.1 b_Op_init_42 rfl trivial ?_
      refine mj_blk h.1 b_Op_init_43 rfl ⟨by first | exact Or.inl rfl | exact Or.inr rfl, trivial⟩ ?_
      first | refine mj_ifeqB h.1 (tgt := 58) d_Op_init_51 (by decide) (fun h3 => ?_) (fun h3 => ?_) | refine mj_ifeq h.1 (tgt := 58) d_Op_init_51 (by decide) (fun h3 => ?_) (fun h3 => ?_)
      · refine mj_blk h.1 b_Op_init_58 rfl trivial ?_
        refine mj_blk h.1 b_Op_init_59 rfl ⟨by first | exact Or.inl rfl | exact Or.inr rfl, trivial⟩ ?_
        first | refine mj_ifneB h.1 (tgt := 79) d_Op_init_71 (by decide) (fun h4 => ?_) (fun h4 => ?_) | refine mj_ifne h.1 (tgt := 79) d_Op_init_71 (by decide) (fun h4 => ?_) (fun h4 => ?_)
        · refine mj_blk h.1 b_Op_init_79 rfl trivial ?_
          refine mj_blk h.1 b_Op_init_86 rfl trivial ?_
          exact mj_vret h rfl d_Op_init_89 (by decide) (by decide) ⟨rfl, by rw [(show decide (¬ m &&& 1 = 0) = false from decide_eq_false (fun z => z h1)), (show decide (¬ m &&& 2 = 0) = false from decide_eq_false (fun z => z h2)), (show decide (¬ m &&& 4 = 0) = false from decide_eq_false (fun z => z h3)), if_neg h4]; rfl⟩
        · refine mj_blk h.1 b_Op_init_74 rfl trivial ?_
          refine mj_blk h.1 b_Op_init_86 rfl trivial ?_
          exact mj_vret h rfl d_Op_init_89 (by decide) (by decide) ⟨rfl, by rw [(show decide (¬ m &&& 1 = 0) = false from decide_eq_false (fun z => z h1)), (show decide (¬ m &&& 2 = 0) = false from decide_eq_false (fun z => z h2)), (show decide (¬ m &&& 4 = 0) = false from decide_eq_false (fun z => z h3)), if_pos h4]; rfl⟩
      · refine mj_blk h.1 b_Op_init_54 rfl trivial ?_
        refine mj_blk h.1 b_Op_init_59 rfl ⟨by first | exact Or.inl rfl | exact Or.inr rfl, trivial⟩ ?_
        first | refine mj_ifneB h.1 (tgt := 79) d_Op_init_71 (by decide) (fun h5 => ?_) (fun h5 => ?_) | refine mj_ifne h.1 (tgt := 79) d_Op_init_71 (by decide) (fun h5 => ?_) (fun h5 => ?_)
        · refine mj_blk h.1 b_Op_init_79 rfl trivial ?_
          refine mj_blk h.1 b_Op_init_86 rfl trivial ?_
          exact mj_vret h rfl d_Op_init_89 (by decide) (by decide) ⟨rfl, by rw [(show decide (¬ m &&& 1 = 0) = false from decide_eq_false (fun z => z h1)), (show decide (¬ m &&& 2 = 0) = false from decide_eq_false (fun z => z h2)), (show decide (¬ m &&& 4 = 0) = true from decide_eq_true h3), if_neg h5]; rfl⟩
        · refine mj_blk h.1 b_Op_init_74 rfl trivial ?_
          refine mj_blk h.1 b_Op_init_86 rfl trivial ?_
          exact mj_vret h rfl d_Op_init_89 (by decide) (by decide) ⟨rfl, by rw [(show decide (¬ m &&& 1 = 0) = false from decide_eq_false (fun z => z h1)), (show decide (¬ m &&& 2 = 0) = false from decide_eq_false (fun z => z h2)), (show decide (¬ m &&& 4 = 0) = true from decide_eq_true h3), if_pos h5]; rfl⟩
    · refine mj_blk h.1 b_Op_init_38 rfl trivial ?_
      refine mj_blk h.1 b_Op_init_43 rfl ⟨by first | exact Or.inl rfl | exact Or.inr rfl, trivial⟩ ?_
      first | refine mj_ifeqB h.1 (tgt := 58) d_Op_init_51 (by decide) (fun h6 => ?_) (fun h6 => ?_) | refine mj_ifeq h.1 (tgt := 58) d_Op_init_51 (by decide) (fun h6 => ?_) (fun h6 => ?_)
      · refine mj_blk h.1 b_Op_init_58 rfl trivial ?_
        refine mj_blk h.1 b_Op_init_59 rfl ⟨by first | exact Or.inl rfl | exact Or.inr rfl, trivial⟩ ?_
        first | refine mj_ifneB h.1 (tgt := 79) d_Op_init_71 (by decide) (fun h7 => ?_) (fun h7 => ?_) | refine mj_ifne h.1 (tgt := 79) d_Op_init_71 (by decide) (fun h7 => ?_) (fun h7 => ?_)
        · refine mj_blk h.1 b_Op_init_79 rfl trivial ?_
          refine mj_blk h.1 b_Op_init_86 rfl trivial ?_
          exact mj_vret h rfl d_Op_init_89 (by decide) (by decide) ⟨rfl, by rw [(show decide (¬ m &&& 1 = 0) = false from decide_eq_false (fun z => z h1)), (show decide (¬ m &&& 2 = 0) = true from decide_eq_true h2), (show decide (¬ m &&& 4 = 0) = false from decide_eq_false (fun z => z h6)), if_neg h7]; rfl⟩
        · refine mj_blk h.1 b_Op_init_74 rfl trivial ?_
          refine mj_blk h.1 b_Op_init_86 rfl trivial ?_
          exact mj_vret h rfl d_Op_init_89 (by decide) (by decide) ⟨rfl, by rw [(show decide (¬ m &&& 1 = 0) = false from decide_eq_false (fun z => z h1)), (show decide (¬ m &&& 2 = 0) = true from decide_eq_true h2), (show decide (¬ m &&& 4 = 0) = false from decide_eq_false (fun z => z h6)), if_pos h7]; rfl⟩
      · refine mj_blk h.1 b_Op_init_54 rfl trivial ?_
        refine mj_blk h.1 b_Op_init_59 rfl ⟨by first | exact Or.inl rfl | exact Or.inr rfl, trivial⟩ ?_
        first | refine mj_ifneB h.1 (tgt := 79) d_Op_init_71 (by decide) (fun h8 => ?_) (fun h8 => ?_) | refine mj_ifne h.1 (tgt := 79) d_Op_init_71 (by decide) (fun h8 => ?_) (fun h8 => ?_)
        · refine mj_blk h.1 b_Op_init_79 rfl trivial ?_
          refine mj_blk h.1 b_Op_init_86 rfl trivial ?_
          exact mj_vret h rfl d_Op_init_89 (by decide) (by decide) ⟨rfl, by rw [(show decide (¬ m &&& 1 = 0) = false from decide_eq_false (fun z => z h1)), (show decide (¬ m &&& 2 = 0) = true from decide_eq_true h2), (show decide (¬ m &&& 4 = 0) = true from decide_eq_true h6), if_neg h8]; rfl⟩
        · refine mj_blk h.1 b_Op_init_74 rfl trivial ?_
          refine mj_blk h.1 b_Op_init_86 rfl trivial ?_
          exact mj_vret h rfl d_Op_init_89 (by decide) (by decide) ⟨rfl, by rw [(show decide (¬ m &&& 1 = 0) = false from decide_eq_false (fun z => z h1)), (show decide (¬ m &&& 2 = 0) = true from decide_eq_true h2), (show decide (¬ m &&& 4 = 0) = true from decide_eq_true h6), if_pos h8]; rfl⟩
  · refine mj_blk h.1 b_Op_init_22 rfl trivial ?_
    refine mj_blk h.1 b_Op_init_27 rfl ⟨by first | exact Or.inl rfl | exact Or.inr rfl, trivial⟩ ?_
    first | refine mj_ifeqB h.1 (tgt := 42) d_Op_init_35 (by decide) (fun h9 => ?_) (fun h9 => ?_) | refine mj_ifeq h.1 (tgt := 42) d_Op_init_35 (by decide) (fun h9 => ?_) (fun h9 => ?_)
    · refine mj_blk h.1 b_Op_init_42 rfl trivial ?_
      refine mj_blk h.1 b_Op_init_43 rfl ⟨by first | exact Or.inl rfl | exact Or.inr rfl, trivial⟩ ?_
      first | refine mj_ifeqB h.1 (tgt := 58) d_Op_init_51 (by decide) (fun h10 => ?_) (fun h10 => ?_) | refine mj_ifeq h.1 (tgt := 58) d_Op_init_51 (by decide) (fun h10 => ?_) (fun h10 => ?_)
      · refine mj_blk h.1 b_Op_init_58 rfl trivial ?_
        refine mj_blk h.1 b_Op_init_59 rfl ⟨by first | exact Or.inl rfl | exact Or.inr rfl, trivial⟩ ?_
        first | refine mj_ifneB h.1 (tgt := 79) d_Op_init_71 (by decide) (fun h11 => ?_) (fun h11 => ?_) | refine mj_ifne h.1 (tgt := 79) d_Op_init_71 (by decide) (fun h11 => ?_) (fun h11 => ?_)
        · refine mj_blk h.1 b_Op_init_79 rfl trivial ?_
          refine mj_blk h.1 b_Op_init_86 rfl trivial ?_
          exact mj_vret h rfl d_Op_init_89 (by decide) (by decide) ⟨rfl, by rw [(show decide (¬ m &&& 1 = 0) = true from decide_eq_true h1), (show decide (¬ m &&& 2 = 0) = false from decide_eq_false (fun z => z h9)), (show decide (¬ m &&& 4 = 0) = false from decide_eq_false (fun z => z h10)), if_neg h11]; rfl⟩
        · refine mj_blk h.1 b_Op_init_74 rfl trivial ?_
          refine mj_blk h.1 b_Op_init_86 rfl trivial ?_
          exact mj_vret h rfl d_Op_init_89 (by decide) (by decide) ⟨rfl, by rw [(show decide (¬ m &&& 1 = 0) = true from decide_eq_true h1), (show decide (¬ m &&& 2 = 0) = false from decide_eq_false (fun z => z h9)), (show decide (¬ m &&& 4 = 0) = false from decide_eq_false (fun z => z h10)), if_pos h11]; rfl⟩
      · refine mj_blk h.1 b_Op_init_54 rfl trivial ?_
        refine mj_blk h.1 b_Op_init_59 rfl ⟨by first | exact Or.inl rfl | exact Or.inr rfl, trivial⟩ ?_
        first | refine mj_ifneB h.1 (tgt := 79) d_Op_init_71 (by decide) (fun h12 => ?_) (fun h12 => ?_) | refine mj_ifne h.1 (tgt := 79) d_Op_init_71 (by decide) (fun h12 => ?_) (fun h12 => ?_)
        · refine mj_blk h.1 b_Op_init_79 rfl trivial ?_
          refine mj_blk h.1 b_Op_init_86 rfl trivial ?_
          exact mj_vret h rfl d_Op_init_89 (by decide) (by decide) ⟨rfl, by rw [(show decide (¬ m &&& 1 = 0) = true from decide_eq_true h1), (show decide (¬ m &&& 2 = 0) = false from decide_eq_false (fun z => z h9)), (show decide (¬ m &&& 4 = 0) = true from decide_eq_true h10), if_neg h12]; rfl⟩
        · refine mj_blk h.1 b_Op_init_74 rfl trivial ?_
          refine mj_blk h.1 b_Op_init_86 rfl trivial ?_
          exact mj_vret h rfl d_Op_init_89 (by decide) (by decide) ⟨rfl, by rw [(show decide (¬ m &&& 1 = 0) = true from decide_eq_true h1), (show decide (¬ m &&& 2 = 0) = false from decide_eq_false (fun z => z h9)), (show decide (¬ m &&& 4 = 0) = true from decide_eq_true h10), if_pos h12]; rfl⟩
    · refine mj_blk h.1 b_Op_init_38 rfl trivial ?_
      refine mj_blk h.1 b_Op_init_43 rfl ⟨by first | exact Or.inl rfl | exact Or.inr rfl, trivial⟩ ?_
      first | refine mj_ifeqB h.1 (tgt := 58) d_Op_init_51 (by decide) (fun h13 => ?_) (fun h13 => ?_) | refine mj_ifeq h.1 (tgt := 58) d_Op_init_51 (by decide) (fun h13 => ?_) (fun h13 => ?_)
      · refine mj_blk h.1 b_Op_init_58 rfl trivial ?_
        refine mj_blk h.1 b_Op_init_59 rfl ⟨by first | exact Or.inl rfl | exact Or.inr rfl, trivial⟩ ?_
        first | refine mj_ifneB h.1 (tgt := 79) d_Op_init_71 (by decide) (fun h14 => ?_) (fun h14 => ?_) | refine mj_ifne h.1 (tgt := 79) d_Op_init_71 (by decide) (fun h14 => ?_) (fun h14 => ?_)
        · refine mj_blk h.1 b_Op_init_79 rfl trivial ?_
          refine mj_blk h.1 b_Op_init_86 rfl trivial ?_
          exact mj_vret h rfl d_Op_init_89 (by decide) (by decide) ⟨rfl, by rw [(show decide (¬ m &&& 1 = 0) = true from decide_eq_true h1), (show decide (¬ m &&& 2 = 0) = true from decide_eq_true h9), (show decide (¬ m &&& 4 = 0) = false from decide_eq_false (fun z => z h13)), if_neg h14]; rfl⟩
        · refine mj_blk h.1 b_Op_init_74 rfl trivial ?_
          refine mj_blk h.1 b_Op_init_86 rfl trivial ?_
          exact mj_vret h rfl d_Op_init_89 (by decide) (by decide) ⟨rfl, by rw [(show decide (¬ m &&& 1 = 0) = true from decide_eq_true h1), (show decide (¬ m &&& 2 = 0) = true from decide_eq_true h9), (show decide (¬ m &&& 4 = 0) = false from decide_eq_false (fun z => z h13)), if_pos h14]; rfl⟩
      · refine mj_blk h.1 b_Op_init_54 rfl trivial ?_
        refine mj_blk h.1 b_Op_init_59 rfl ⟨by first | exact Or.inl rfl | exact Or.inr rfl, trivial⟩ ?_
        first | refine mj_ifneB h.1 (tgt := 79) d_Op_init_71 (by decide) (fun h15 => ?_) (fun h15 => ?_) | refine mj_ifne h.1 (tgt := 79) d_Op_init_71 (by decide) (fun h15 => ?_) (fun h15 => ?_)
        · refine mj_blk h.1 b_Op_init_79 rfl trivial ?_
          refine mj_blk h.1 b_Op_init_86 rfl trivial ?_
          exact mj_vret h rfl d_Op_init_89 (by decide) (by decide) ⟨rfl, by rw [(show decide (¬ m &&& 1 = 0) = true from decide_eq_true h1), (show decide (¬ m &&& 2 = 0) = true from decide_eq_true h9), (show decide (¬ m &&& 4 = 0) = true from decide_eq_true h13), if_neg h15]; rfl⟩
        · refine mj_blk h.1 b_Op_init_74 rfl trivial ?_
          refine mj_blk h.1 b_Op_init_86 rfl trivial ?_
          exact mj_vret h rfl d_Op_init_89 (by decide) (by decide) ⟨rfl, by rw [(show decide (¬ m &&& 1 = 0) = true from decide_eq_true h1), (show decide (¬ m &&& 2 = 0) = true from decide_eq_true h9), (show decide (¬ m &&& 4 = 0) = true from decide_eq_true h13), if_pos h15]; rfl⟩
set_option maxRecDepth 100000 in
set_option maxHeartbeats 8000000 in
theorem ev_Sw_init (l : Launch) (D : va_G) (cA : Nat → ClassId) (v : Int32) : mj_EvZ zG l D cA m_Sw_init 4 160 43 1545 [.ref 50, .int v] [(50, .inr (10, [.int 0, .null, .null, .null, .null, .null, .null, .int 0]))] [50] Z_Sw (fun r1 w1 => r1 = none ∧ w1 = [(50, cSw (decide (¬ v = 0)) 0)] ++ [(51, cWi 52 0), (52, cIs 100 z0), (40, cPk 0 0 0 0 0 0 0 0), (0, .inr (2, [.ref 1, .int 0])), (1, .inl (3, 4, .inr (.inr [some 2, some 3, some 4, some 5]))), (2, cFl 6 7 0 0 0 0 0 false), (6, cSm 14 15 0 0 0 0 false false), (14, cIs 80 z0), (15, cIs 32 (sFill 32 0 z0)), (7, cSm 16 17 0 0 0 0 false false), (16, cIs 80 z0), (17, cIs 32 (sFill 32 0 z0)), (3, cFl 8 9 0 0 0 0 0 false), (8, cSm 18 19 0 0 0 0 false false), (18, cIs 80 z0), (19, cIs 32 (sFill 32 0 z0)), (9, cSm 20 21 0 0 0 0 false false), (20, cIs 80 z0), (21, cIs 32 (sFill 32 0 z0)), (4, cFl 10 11 0 0 0 0 0 false), (10, cSm 22 23 0 0 0 0 false false), (22, cIs 80 z0), (23, cIs 32 (sFill 32 0 z0)), (11, cSm 24 25 0 0 0 0 false false), (24, cIs 80 z0), (25, cIs 32 (sFill 32 0 z0)), (5, cFl 12 13 0 0 0 0 0 false), (12, cSm 26 27 0 0 0 0 false false), (26, cIs 80 z0), (27, cIs 32 (sFill 32 0 z0)), (13, cSm 28 29 0 0 0 0 false false), (28, cIs 80 z0), (29, cIs 32 (sFill 32 0 z0)), (53, cRs [none, none, none, none, none, none]), (60, .inr (7, [.ref 61, .ref 62])), (61, cMk 63 64 0), (63, cBs z0), (64, cIs 81 z0), (62, cMk 65 66 0), (65, cBs z0), (66, cIs 81 z0), (70, .inr (0, [.ref 71, .int 0, .int (-1)])), (71, cIs 96 z0)]) := by
  refine mj_evZ (lv := [(0, .ref 50), (1, .int v)]) (by decide +kernel) (Nat.le_of_ble_eq_true rfl) rfl (fun X h hZ => ?_)
  refine mj_blk h.1 b_Sw_init_0 rfl trivial ?_
  refine mj_objI h z1_24 z1_25 z1_26 d_Sw_init_1 (by decide) (by decide) (by decide) ?_
  refine mj_blk h.1 b_Sw_init_4 rfl trivial ?_
  refine mj_new h.1 (mj_rm h) (ci := 9) (fs := [.null, .int 0]) rfl u_Wi t_Wi_ok z1_27 z1_28 z1_2 df_Wi (fun _ => rfl) d_Sw_init_5 (by decide) (by decide) 51 (mj_bl_no rfl) (mj_fb_ok rfl) rfl ?_
  refine mj_blk h.1 b_Sw_init_8 rfl trivial ?_
  refine mj_callI h zGood hZ (ev_Wi_init l D cA) iw_Wi_init (Or.inr ⟨"StreamWatch", List.mem_cons_self⟩) ⟨(fun _ h => nomatch h), (fun _ h => nomatch h)⟩ d_Sw_init_9 rfl ⟨by decide, by decide⟩ ⟨by decide, by decide⟩ [(0, 51), (1, 52)] [(1, 52)] rfl rfl rfl rfl (Nat.le_of_ble_eq_true rfl) rfl ?_
  rintro _ _ ⟨rfl, rfl⟩
  refine mj_k9 rfl rfl rfl rfl rfl rfl rfl rfl ?_
  refine mj_blk h.1 b_Sw_init_12 rfl trivial ?_
  refine mj_new h.1 (mj_rm h) (ci := 5) (fs := [.int 0, .int 0, .int 0, .int 0, .int 0, .int 0, .int 0, .int 0]) rfl u_Pk t_Pk_ok z1_41 z1_42 z1_3 df_Pk (fun _ => rfl) d_Sw_init_16 (by decide) (by decide) 40 (mj_bl_no rfl) (mj_fb_ok rfl) rfl ?_
  refine mj_blk h.1 b_Sw_init_19 rfl trivial ?_
  refine mj_callI h zGood hZ (ev_Pk_init l D cA) iw_Pk_init (Or.inr ⟨"StreamWatch", List.mem_cons_of_mem _ (List.mem_cons_self)⟩) ⟨(fun _ h => nomatch h), (fun _ h => nomatch h)⟩ d_Sw_init_20 rfl ⟨by decide, by decide⟩ ⟨by decide, by decide⟩ [(0, 40)] [] rfl rfl rfl rfl (Nat.le_of_ble_eq_true rfl) rfl ?_
  rintro _ _ ⟨rfl, rfl⟩
  refine mj_k9 rfl rfl rfl rfl rfl rfl rfl rfl ?_
  refine mj_blk h.1 b_Sw_init_23 rfl trivial ?_
  refine mj_new h.1 (mj_rm h) (ci := 2) (fs := [.null, .int 0]) rfl u_Ft t_Ft_ok z1_79 z1_80 z1_4 df_Ft (fun _ => rfl) d_Sw_init_27 (by decide) (by decide) 0 (mj_bl_no rfl) (mj_fb_ok rfl) rfl ?_
  refine mj_blk h.1 b_Sw_init_30 rfl trivial ?_
  refine mj_callI h zGood hZ (ev_Ft_init l D cA) iw_Ft_init (Or.inl z1_81) ⟨List.forall_mem_cons.mpr ⟨(List.mem_cons_of_mem _ (List.mem_cons_of_mem _ (List.mem_cons_of_mem _ (List.mem_cons_of_mem _ (List.mem_cons_self))))), (fun _ h => nomatch h)⟩, List.forall_mem_cons.mpr ⟨(List.mem_cons_self), (fun _ h => nomatch h)⟩⟩ d_Sw_init_31 rfl ⟨by decide, by decide⟩ ⟨by decide, by decide⟩ [] [(1, 1), (2, 2), (6, 6), (14, 14), (15, 15), (7, 7), (16, 16), (17, 17), (3, 3), (8, 8), (18, 18), (19, 19), (9, 9), (20, 20), (21, 21), (4, 4), (10, 10), (22, 22), (23, 23), (11, 11), (24, 24), (25, 25), (5, 5), (12, 12), (26, 26), (27, 27), (13, 13), (28, 28), (29, 29)] rfl rfl rfl rfl (Nat.le_of_ble_eq_true rfl) rfl ?_
  rintro _ _ ⟨rfl, rfl⟩
  refine mj_k9 rfl rfl rfl rfl rfl rfl rfl rfl ?_
  refine mj_blk h.1 b_Sw_init_34 rfl trivial ?_
  refine mj_newr h.1 (mj_rm h) hZ (C := "StreamWatch$Rule") (t := 4) (List.mem_cons_of_mem _ (List.mem_cons_self)) z1_164 rfl (by decide) rfl (by decide) d_Sw_init_40 (by decide) (by decide) 53 (mj_bl_no rfl) (mj_fb_ok rfl) (f := [none, none, none, none, none, none]) (by intro x hx; simpa using hx) rfl ?_
  refine mj_blk h.1 b_Sw_init_43 rfl trivial ?_
  refine mj_new h.1 (mj_rm h) (ci := 7) (fs := [.null, .null]) rfl u_Se t_Se_ok z1_166 z1_167 z1_7 df_Se (fun _ => rfl) d_Sw_init_47 (by decide) (by decide) 60 (mj_bl_no rfl) (mj_fb_ok rfl) rfl ?_
  refine mj_blk h.1 b_Sw_init_50 rfl trivial ?_
  refine mj_callI h zGood hZ (ev_Se_init l D cA) iw_Se_init (Or.inr ⟨"StreamWatch", List.mem_cons_of_mem _ (List.mem_cons_of_mem _ (List.mem_cons_self))⟩) ⟨List.forall_mem_cons.mpr ⟨(List.mem_cons_of_mem _ (List.mem_cons_of_mem _ (List.mem_cons_of_mem _ (List.mem_cons_of_mem _ (List.mem_cons_of_mem _ (List.mem_cons_self)))))), (fun _ h => nomatch h)⟩, (fun _ h => nomatch h)⟩ d_Sw_init_51 rfl ⟨by decide, by decide⟩ ⟨by decide, by decide⟩ [(0, 60), (1, 61), (2, 62), (3, 63), (4, 64), (5, 65), (6, 66)] [(1, 61), (3, 63), (4, 64), (2, 62), (5, 65), (6, 66)] rfl rfl rfl rfl (Nat.le_of_ble_eq_true rfl) rfl ?_
  rintro _ _ ⟨rfl, rfl⟩
  refine mj_k9 rfl rfl rfl rfl rfl rfl rfl rfl ?_
  refine mj_blk h.1 b_Sw_init_54 rfl trivial ?_
  refine mj_new h.1 (mj_rm h) (ci := 0) (fs := [.null, .int 0, .int 0]) rfl u_Al t_Al_ok z1_196 z1_197 z1_9 df_Al (fun _ => rfl) d_Sw_init_58 (by decide) (by decide) 70 (mj_bl_no rfl) (mj_fb_ok rfl) rfl ?_
  refine mj_blk h.1 b_Sw_init_61 rfl trivial ?_
  refine mj_callI h zGood hZ (ev_Al_init l D cA) iw_Al_init (Or.inr ⟨"StreamWatch", List.mem_cons_of_mem _ (List.mem_cons_of_mem _ (List.mem_cons_of_mem _ (List.mem_cons_self)))⟩) ⟨(fun _ h => nomatch h), (fun _ h => nomatch h)⟩ d_Sw_init_62 rfl ⟨by decide, by decide⟩ ⟨by decide, by decide⟩ [(0, 70), (1, 71)] [(1, 71)] rfl rfl rfl rfl (Nat.le_of_ble_eq_true rfl) rfl ?_
  rintro _ _ ⟨rfl, rfl⟩
  refine mj_k9 rfl rfl rfl rfl rfl rfl rfl rfl ?_
  refine mj_blk h.1 b_Sw_init_65 rfl trivial ?_
  first | refine mj_ifeqB h.1 (tgt := 82) d_Sw_init_75 (by decide) (fun h1 => ?_) (fun h1 => ?_) | refine mj_ifeq h.1 (tgt := 82) d_Sw_init_75 (by decide) (fun h1 => ?_) (fun h1 => ?_)
  · refine mj_blk h.1 b_Sw_init_82 rfl trivial ?_
    refine mj_blk h.1 b_Sw_init_83 rfl ⟨by first | exact Or.inl rfl | exact Or.inr rfl, trivial⟩ ?_
    exact mj_vret h rfl d_Sw_init_86 (by decide) (by decide) ⟨rfl, by rw [show decide (¬ v = 0) = false from decide_eq_false (fun z => z h1)]; rfl⟩
  · refine mj_blk h.1 b_Sw_init_78 rfl trivial ?_
    refine mj_blk h.1 b_Sw_init_83 rfl ⟨by first | exact Or.inl rfl | exact Or.inr rfl, trivial⟩ ?_
    exact mj_vret h rfl d_Sw_init_86 (by decide) (by decide) ⟨rfl, by rw [show decide (¬ v = 0) = true from decide_eq_true h1]; rfl⟩
set_option maxRecDepth 100000 in
set_option maxHeartbeats 8000000 in
theorem ev_Md_init (l : Launch) (D : va_G) (cA : Nat → ClassId) (v : Int32) : mj_EvZ zG l D cA m_Md_init 1 40 26 1656 [.ref 199, .int v] [(199, .inr (11, [.int 0, .int 0, .int 0, .null, .null, .null, .null, .null, .null, .null, .int 0, .null, .null, .null, .null, .null, .null, .null, .null, .int 0, .null, .null, .null, .null, .null, .null, .null, .null, .int 0, .null, .null, .int 0, .null]))] [199] Z_0 (fun r1 w1 => r1 = none ∧ w1 = [(199, cMd 0 (decide (¬ v = 0)) 0 0 0 0 0)] ++ [(203, cIs 100 z0), (204, cZs 4 z0), (205, cIs 4 z0), (206, cIs 4 z0), (207, cIs 4 z0), (208, cIs 4 z0), (209, cIs 4 z0), (211, cZs 8 z0), (212, cIs 8 z0), (213, cZs 8 z0), (214, cIs 8 z0), (215, cIs 640 z0), (216, cZs 256 z0), (217, cIs 256 z0), (218, cZs 48 z0), (220, cIs 6 z0), (221, cIs 6 z0), (222, cIs 6 z0), (223, cIs 18 z0), (224, cIs 108 z0), (225, cIs 18 z0), (226, cIs 18 z0), (227, cIs 18 z0), (229, cIs 3 z0), (230, cIs 3 z0), (232, cIs 96 z0)]) := by
  refine mj_evZ (lv := [(0, .ref 199), (1, .int v)]) (by decide +kernel) (Nat.le_of_ble_eq_true rfl) rfl (fun X h hZ => ?_)
  refine mj_blk h.1 b_Md_init_0 rfl trivial ?_
  refine mj_objI h z4_64 z1_25 z1_26 d_Md_init_1 (by decide) (by decide) (by decide) ?_
  refine mj_blk h.1 b_Md_init_4 rfl trivial ?_
  refine mj_newa h.1 (mj_rm h) (atype := .int) (ty := .int) (t := 0) (f := .inl (fun _ => 0)) z1_40 rfl rfl (fun _ _ h => h) (fun _ => rfl) (by decide) rfl (by decide) d_Md_init_7 (by decide) (by decide) 203 (mj_bl_no rfl) (mj_fb_ok rfl) rfl ?_
  refine mj_blk h.1 b_Md_init_9 rfl trivial ?_
  refine mj_newa h.1 (mj_rm h) (atype := .boolean) (ty := .boolean) (t := 1) (f := .inl (fun _ => 0)) z1_188 rfl rfl (fun _ _ h => h) (fun _ => rfl) (by decide) rfl (by decide) d_Md_init_14 (by decide) (by decide) 204 (mj_bl_no rfl) (mj_fb_ok rfl) rfl ?_
  refine mj_blk h.1 b_Md_init_16 rfl trivial ?_
  refine mj_newa h.1 (mj_rm h) (atype := .int) (ty := .int) (t := 0) (f := .inl (fun _ => 0)) z1_40 rfl rfl (fun _ _ h => h) (fun _ => rfl) (by decide) rfl (by decide) d_Md_init_21 (by decide) (by decide) 205 (mj_bl_no rfl) (mj_fb_ok rfl) rfl ?_
  refine mj_blk h.1 b_Md_init_23 rfl trivial ?_
  refine mj_newa h.1 (mj_rm h) (atype := .int) (ty := .int) (t := 0) (f := .inl (fun _ => 0)) z1_40 rfl rfl (fun _ _ h => h) (fun _ => rfl) (by decide) rfl (by decide) d_Md_init_28 (by decide) (by decide) 206 (mj_bl_no rfl) (mj_fb_ok rfl) rfl ?_
  refine mj_blk h.1 b_Md_init_30 rfl trivial ?_
  refine mj_newa h.1 (mj_rm h) (atype := .int) (ty := .int) (t := 0) (f := .inl (fun _ => 0)) z1_40 rfl rfl (fun _ _ h => h) (fun _ => rfl) (by decide) rfl (by decide) d_Md_init_35 (by decide) (by decide) 207 (mj_bl_no rfl) (mj_fb_ok rfl) rfl ?_
  refine mj_blk h.1 b_Md_init_37 rfl trivial ?_
  refine mj_newa h.1 (mj_rm h) (atype := .int) (ty := .int) (t := 0) (f := .inl (fun _ => 0)) z1_40 rfl rfl (fun _ _ h => h) (fun _ => rfl) (by decide) rfl (by decide) d_Md_init_42 (by decide) (by decide) 208 (mj_bl_no rfl) (mj_fb_ok rfl) rfl ?_
  refine mj_blk h.1 b_Md_init_44 rfl trivial ?_
  refine mj_newa h.1 (mj_rm h) (atype := .int) (ty := .int) (t := 0) (f := .inl (fun _ => 0)) z1_40 rfl rfl (fun _ _ h => h) (fun _ => rfl) (by decide) rfl (by decide) d_Md_init_49 (by decide) (by decide) 209 (mj_bl_no rfl) (mj_fb_ok rfl) rfl ?_
  refine mj_blk h.1 b_Md_init_51 rfl trivial ?_
  refine mj_newa h.1 (mj_rm h) (atype := .boolean) (ty := .boolean) (t := 1) (f := .inl (fun _ => 0)) z1_188 rfl rfl (fun _ _ h => h) (fun _ => rfl) (by decide) rfl (by decide) d_Md_init_57 (by decide) (by decide) 211 (mj_bl_no rfl) (mj_fb_ok rfl) rfl ?_
  refine mj_blk h.1 b_Md_init_59 rfl trivial ?_
  refine mj_newa h.1 (mj_rm h) (atype := .int) (ty := .int) (t := 0) (f := .inl (fun _ => 0)) z1_40 rfl rfl (fun _ _ h => h) (fun _ => rfl) (by decide) rfl (by decide) d_Md_init_65 (by decide) (by decide) 212 (mj_bl_no rfl) (mj_fb_ok rfl) rfl ?_
  refine mj_blk h.1 b_Md_init_67 rfl trivial ?_
  refine mj_newa h.1 (mj_rm h) (atype := .boolean) (ty := .boolean) (t := 1) (f := .inl (fun _ => 0)) z1_188 rfl rfl (fun _ _ h => h) (fun _ => rfl) (by decide) rfl (by decide) d_Md_init_73 (by decide) (by decide) 213 (mj_bl_no rfl) (mj_fb_ok rfl) rfl ?_
  refine mj_blk h.1 b_Md_init_75 rfl trivial ?_
  refine mj_newa h.1 (mj_rm h) (atype := .int) (ty := .int) (t := 0) (f := .inl (fun _ => 0)) z1_40 rfl rfl (fun _ _ h => h) (fun _ => rfl) (by decide) rfl (by decide) d_Md_init_81 (by decide) (by decide) 214 (mj_bl_no rfl) (mj_fb_ok rfl) rfl ?_
  refine mj_blk h.1 b_Md_init_83 rfl trivial ?_
  refine mj_newa h.1 (mj_rm h) (atype := .int) (ty := .int) (t := 0) (f := .inl (fun _ => 0)) z1_40 rfl rfl (fun _ _ h => h) (fun _ => rfl) (by decide) rfl (by decide) d_Md_init_90 (by decide) (by decide) 215 (mj_bl_no rfl) (mj_fb_ok rfl) rfl ?_
  refine mj_blk h.1 b_Md_init_92 rfl trivial ?_
  refine mj_newa h.1 (mj_rm h) (atype := .boolean) (ty := .boolean) (t := 1) (f := .inl (fun _ => 0)) z1_188 rfl rfl (fun _ _ h => h) (fun _ => rfl) (by decide) rfl (by decide) d_Md_init_99 (by decide) (by decide) 216 (mj_bl_no rfl) (mj_fb_ok rfl) rfl ?_
  refine mj_blk h.1 b_Md_init_101 rfl trivial ?_
  refine mj_newa h.1 (mj_rm h) (atype := .int) (ty := .int) (t := 0) (f := .inl (fun _ => 0)) z1_40 rfl rfl (fun _ _ h => h) (fun _ => rfl) (by decide) rfl (by decide) d_Md_init_108 (by decide) (by decide) 217 (mj_bl_no rfl) (mj_fb_ok rfl) rfl ?_
  refine mj_blk h.1 b_Md_init_110 rfl trivial ?_
  refine mj_newa h.1 (mj_rm h) (atype := .boolean) (ty := .boolean) (t := 1) (f := .inl (fun _ => 0)) z1_188 rfl rfl (fun _ _ h => h) (fun _ => rfl) (by decide) rfl (by decide) d_Md_init_116 (by decide) (by decide) 218 (mj_bl_no rfl) (mj_fb_ok rfl) rfl ?_
  refine mj_blk h.1 b_Md_init_118 rfl trivial ?_
  refine mj_newa h.1 (mj_rm h) (atype := .int) (ty := .int) (t := 0) (f := .inl (fun _ => 0)) z1_40 rfl rfl (fun _ _ h => h) (fun _ => rfl) (by decide) rfl (by decide) d_Md_init_124 (by decide) (by decide) 220 (mj_bl_no rfl) (mj_fb_ok rfl) rfl ?_
  refine mj_blk h.1 b_Md_init_126 rfl trivial ?_
  refine mj_newa h.1 (mj_rm h) (atype := .int) (ty := .int) (t := 0) (f := .inl (fun _ => 0)) z1_40 rfl rfl (fun _ _ h => h) (fun _ => rfl) (by decide) rfl (by decide) d_Md_init_132 (by decide) (by decide) 221 (mj_bl_no rfl) (mj_fb_ok rfl) rfl ?_
  refine mj_blk h.1 b_Md_init_134 rfl trivial ?_
  refine mj_newa h.1 (mj_rm h) (atype := .int) (ty := .int) (t := 0) (f := .inl (fun _ => 0)) z1_40 rfl rfl (fun _ _ h => h) (fun _ => rfl) (by decide) rfl (by decide) d_Md_init_140 (by decide) (by decide) 222 (mj_bl_no rfl) (mj_fb_ok rfl) rfl ?_
  refine mj_blk h.1 b_Md_init_142 rfl trivial ?_
  refine mj_newa h.1 (mj_rm h) (atype := .int) (ty := .int) (t := 0) (f := .inl (fun _ => 0)) z1_40 rfl rfl (fun _ _ h => h) (fun _ => rfl) (by decide) rfl (by decide) d_Md_init_148 (by decide) (by decide) 223 (mj_bl_no rfl) (mj_fb_ok rfl) rfl ?_
  refine mj_blk h.1 b_Md_init_150 rfl trivial ?_
  refine mj_newa h.1 (mj_rm h) (atype := .int) (ty := .int) (t := 0) (f := .inl (fun _ => 0)) z1_40 rfl rfl (fun _ _ h => h) (fun _ => rfl) (by decide) rfl (by decide) d_Md_init_156 (by decide) (by decide) 224 (mj_bl_no rfl) (mj_fb_ok rfl) rfl ?_
  refine mj_blk h.1 b_Md_init_158 rfl trivial ?_
  refine mj_newa h.1 (mj_rm h) (atype := .int) (ty := .int) (t := 0) (f := .inl (fun _ => 0)) z1_40 rfl rfl (fun _ _ h => h) (fun _ => rfl) (by decide) rfl (by decide) d_Md_init_164 (by decide) (by decide) 225 (mj_bl_no rfl) (mj_fb_ok rfl) rfl ?_
  refine mj_blk h.1 b_Md_init_166 rfl trivial ?_
  refine mj_newa h.1 (mj_rm h) (atype := .int) (ty := .int) (t := 0) (f := .inl (fun _ => 0)) z1_40 rfl rfl (fun _ _ h => h) (fun _ => rfl) (by decide) rfl (by decide) d_Md_init_172 (by decide) (by decide) 226 (mj_bl_no rfl) (mj_fb_ok rfl) rfl ?_
  refine mj_blk h.1 b_Md_init_174 rfl trivial ?_
  refine mj_newa h.1 (mj_rm h) (atype := .int) (ty := .int) (t := 0) (f := .inl (fun _ => 0)) z1_40 rfl rfl (fun _ _ h => h) (fun _ => rfl) (by decide) rfl (by decide) d_Md_init_180 (by decide) (by decide) 227 (mj_bl_no rfl) (mj_fb_ok rfl) rfl ?_
  refine mj_blk h.1 b_Md_init_182 rfl trivial ?_
  refine mj_newa h.1 (mj_rm h) (atype := .int) (ty := .int) (t := 0) (f := .inl (fun _ => 0)) z1_40 rfl rfl (fun _ _ h => h) (fun _ => rfl) (by decide) rfl (by decide) d_Md_init_187 (by decide) (by decide) 229 (mj_bl_no rfl) (mj_fb_ok rfl) rfl ?_
  refine mj_blk h.1 b_Md_init_189 rfl trivial ?_
  refine mj_newa h.1 (mj_rm h) (atype := .int) (ty := .int) (t := 0) (f := .inl (fun _ => 0)) z1_40 rfl rfl (fun _ _ h => h) (fun _ => rfl) (by decide) rfl (by decide) d_Md_init_194 (by decide) (by decide) 230 (mj_bl_no rfl) (mj_fb_ok rfl) rfl ?_
  refine mj_blk h.1 b_Md_init_196 rfl trivial ?_
  refine mj_newa h.1 (mj_rm h) (atype := .int) (ty := .int) (t := 0) (f := .inl (fun _ => 0)) z1_40 rfl rfl (fun _ _ h => h) (fun _ => rfl) (by decide) rfl (by decide) d_Md_init_202 (by decide) (by decide) 232 (mj_bl_no rfl) (mj_fb_ok rfl) rfl ?_
  refine mj_blk h.1 b_Md_init_204 rfl trivial ?_
  first | refine mj_ifeqB h.1 (tgt := 216) d_Md_init_209 (by decide) (fun h1 => ?_) (fun h1 => ?_) | refine mj_ifeq h.1 (tgt := 216) d_Md_init_209 (by decide) (fun h1 => ?_) (fun h1 => ?_)
  · refine mj_blk h.1 b_Md_init_216 rfl trivial ?_
    refine mj_blk h.1 b_Md_init_217 rfl ⟨by first | exact Or.inl rfl | exact Or.inr rfl, trivial⟩ ?_
    exact mj_vret h rfl d_Md_init_220 (by decide) (by decide) ⟨rfl, by rw [show decide (¬ v = 0) = false from decide_eq_false (fun z => z h1)]; rfl⟩
  · refine mj_blk h.1 b_Md_init_212 rfl trivial ?_
    refine mj_blk h.1 b_Md_init_217 rfl ⟨by first | exact Or.inl rfl | exact Or.inr rfl, trivial⟩ ?_
    exact mj_vret h rfl d_Md_init_220 (by decide) (by decide) ⟨rfl, by rw [show decide (¬ v = 0) = true from decide_eq_true h1]; rfl⟩
