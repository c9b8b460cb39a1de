/-! The law's start: both objects (by program: wip/whole/src_lws.py) -/
abbrev lwZ0 : lwT := ((0, 0, z0, 0, z0, z0, z0, z0, z0, (fun _ => false)), ((fun _ => z0), (fun _ => sFill 32 0 z0), (fun _ => 0), z0, z0, z0, (fun _ => false), (fun _ => false), z0, 0, 0), (0, 0, 0, 0, 0, 0, 0, 0, z0, z0, 0, z0, z0, 0), (0, 0, z0, z0, z0, z0, z0, z0), (z0, z0, z0, z0, z0, z0, z0, 0, 0, z0, z0, z0, z0), ((z0, z0, z0, z0, z0, z0, z0, z0, z0, z0, z0, z0, (fun _ => 0), (fun _ => 0)), z0, z0, (fun _ => []), 0, [], (fun _ => 0)))
theorem lwJ0 : lwI lwZ0 := by
  have hby : uByt z0 := fun j => ⟨rfl, by show (0 : Int32).toNatClampNeg < 256; decide⟩
  refine ⟨Nat.zero_le _, hby, ⟨rfl, fun j hj => ⟨rfl, rfl, rfl, rfl, rfl, ⟨fun h => (nomatch h), fun h => absurd rfl h⟩, fun h => (nomatch h)⟩, fun t ht => ?_, fun t => Nat.zero_le _, ⟨Or.inl rfl, Nat.zero_le _, fun k _ h => absurd h (Nat.not_lt_zero k)⟩, rfl, rfl⟩, ⟨Nat.zero_le _, fun r hr => absurd hr (Nat.not_lt_zero r)⟩, fun i _ => rfl, fun i _ => Nat.zero_le _, rF_zero _ _ _⟩
  exact u_stm0 z0 (sFill 32 0 z0) (fun p hp => by rw [u_fill]; exact if_pos ⟨Nat.zero_le _, by omega⟩) rfl rfl rfl rfl (fun k _ => rfl) (fun r _ => rfl)
set_option maxRecDepth 100000 in
set_option maxHeartbeats 16000000 in
theorem lw_start {X : mj_X} {l : Launch} {D : va_G} {cA : Nat → ClassId} {L n0 : Nat} {xs : Nat → Int32} (E : lwE X l D cA L xs n0) : mj_W zG X 0 0 0 [(0, .ref 301)] [] [] := by
  have hL := E.hL
  have k1 : lwG (decide (¬ (if 0 < L then xs 0 else 0) = 0)) X 1 := lw_loop E 4097 1 (by omega) (by omega)
  refine mj_new E.h.1 (mj_rm E.h) (ci := 10) (fs := [.int 0, .null, .null, .null, .null, .null, .null, .int 0]) rfl u_Sw t_Sw_ok z1_19 z1_20 z1_1 df_Sw (fun _ => rfl) d_Lw_law_0 (by decide) (by decide) 50 (mj_bl_no rfl) (mj_fb_ok rfl) rfl ?_
  refine mj_blk E.h.1 b_Lw_law_3 rfl trivial ?_
  refine mj_callX E.h zGood E.sp (ev_Lw_cell l D cA L E.hL xs) v_Lw_cell rfl l_Lw_law_6 d_Lw_law_6 rfl ⟨by decide, by decide⟩ ⟨by decide, by decide⟩ (rest := [.ref 50, .ref 50]) rfl (Nat.le_of_ble_eq_true rfl) ?_
  refine mj_callI E.h zGood E.z (ev_Sw_init l D cA (if 0 < L then xs 0 else 0)) iw_Sw_init (Or.inl l_Lw_law_9) ⟨(fun _ h => h), List.forall_mem_cons.mpr ⟨List.mem_cons_self, List.forall_mem_cons.mpr ⟨List.mem_cons_of_mem _ List.mem_cons_self, (fun _ h => nomatch h)⟩⟩⟩ d_Lw_law_9 rfl ⟨by decide, by decide⟩ ⟨by decide, by decide⟩ [] [(51, 51), (52, 52), (40, 40), (0, 0), (1, 1), (2, 2), (6, 6), (14, 14), (15, 15), (7, 7), (16, 16), (17, 17), (3, 3), (8, 8), (18, 18), (19, 19), (9, 9), (20, 20), (21, 21), (4, 4), (10, 10), (22, 22), (23, 23), (11, 11), (24, 24), (25, 25), (5, 5), (12, 12), (26, 26), (27, 27), (13, 13), (28, 28), (29, 29), (53, 53), (60, 60), (61, 61), (63, 63), (64, 64), (62, 62), (65, 65), (66, 66), (70, 70), (71, 71)] rfl rfl rfl rfl (Nat.le_of_ble_eq_true rfl) rfl ?_
  rintro _ _ ⟨rfl, rfl⟩
  refine mj_k9 rfl rfl rfl rfl rfl rfl rfl rfl ?_
  refine mj_blk E.h.1 b_Lw_law_12 rfl trivial ?_
  refine mj_new E.h.1 (mj_rm E.h) (ci := 11) (fs := [.int 0, .int 0, .int 0, .null, .null, .null, .null, .null, .null, .null, .int 0, .null, .null, .null, .null, .null, .null, .null, .null, .int 0, .null, .null, .null, .null, .null, .null, .null, .null, .int 0, .null, .null, .int 0, .null]) rfl u_Md t_Md_ok z4_59 z4_60 z1_10 df_Md (fun _ => rfl) d_Lw_law_13 (by decide) (by decide) 199 (mj_bl_no rfl) (mj_fb_ok rfl) rfl ?_
  refine mj_blk E.h.1 b_Lw_law_16 rfl trivial ?_
  refine mj_callX E.h zGood E.sp (ev_Lw_cell l D cA L E.hL xs) v_Lw_cell rfl l_Lw_law_19 d_Lw_law_19 rfl ⟨by decide, by decide⟩ ⟨by decide, by decide⟩ (rest := [.ref 199, .ref 199]) rfl (Nat.le_of_ble_eq_true rfl) ?_
  refine mj_callI E.h zGood E.z (ev_Md_init l D cA (if 0 < L then xs 0 else 0)) iw_Md_init (Or.inl l_Lw_law_22) ⟨(fun _ h => nomatch h), (fun _ h => nomatch h)⟩ d_Lw_law_22 rfl ⟨by decide, by decide⟩ ⟨by decide, by decide⟩ [] [(203, 203), (204, 204), (205, 205), (206, 206), (207, 207), (208, 208), (209, 209), (211, 211), (212, 212), (213, 213), (214, 214), (215, 215), (216, 216), (217, 217), (218, 218), (220, 220), (221, 221), (222, 222), (223, 223), (224, 224), (225, 225), (226, 226), (227, 227), (229, 229), (230, 230), (232, 232)] rfl rfl rfl rfl (Nat.le_of_ble_eq_true rfl) rfl ?_
  rintro _ _ ⟨rfl, rfl⟩
  refine mj_k9 rfl rfl rfl rfl rfl rfl rfl rfl ?_
  refine mj_blk E.h.1 b_Lw_law_25 rfl trivial ?_
  refine mj_newa E.h.1 (mj_rm E.h) (atype := .long) (ty := .long) (t := 2) (f := .inr (fun _ => 0)) (zin5 (List.mem_of_getElem? (i := 79) rfl) rfl) rfl rfl (fun _ _ h => h) (fun _ => rfl) (by decide) rfl (by decide) d_Lw_law_27 (by decide) (by decide) 300 (mj_bl_no rfl) (mj_fb_ok rfl) rfl ?_
  refine mj_blk E.h.1 b_Lw_law_29 rfl trivial ?_
  refine mj_widen (k := 101) (n := 4001) (by decide) (by decide) ?_
  refine mj_wsub (w' := lwF (decide (¬ (if 0 < L then xs 0 else 0) = 0)) lwZ0 ++ lwR lwZ0) [0, 3, 1, 2, 4, 5, 6, 13, 20, 27, 7, 8, 9, 10, 11, 12, 14, 15, 16, 17, 18, 19, 21, 22, 23, 24, 25, 26, 28, 29, 30, 31, 32, 33, 35, 36, 37, 38, 39, 40, 41, 42, 43, 44, 45, 46, 47, 48, 49, 50, 51, 52, 53, 54, 55, 56, 57, 58, 59, 60, 61, 62, 63, 64, 65, 66, 67, 68, 69, 70, 71, 34] rfl rfl ?_
  have k2 := k1 lwZ0 lwJ0
  refine mj_lsub (fun q hq => ?_) k2
  simp only [List.mem_cons, List.not_mem_nil, or_false] at hq ⊢
  rcases hq with rfl | rfl | rfl | rfl | rfl <;> simp [nI]
