abbrev E_Al_init (l : Launch) (D : va_G) (cA : Nat → ClassId) (mc ms : Nat) (args : List Value) (w : mj_M) (kp : Nat → Prop) (post : mj_R) : Prop := mj_Ev zG l D cA m_Al_init 1 40 mc ms args w kp post
abbrev E0_Al_init (l : Launch) (D : va_G) (cA : Nat → ClassId) (args : List Value) (w : mj_M) (r : Option Value) (w' : mj_M) : Prop := mj_Ev zG l D cA m_Al_init 1 40 0 0 args w (fun _ => True) (fun r1 w1 => r1 = r ∧ w1 = w')
abbrev E_Al_total (l : Launch) (D : va_G) (cA : Nat → ClassId) (mc ms : Nat) (args : List Value) (w : mj_M) (kp : Nat → Prop) (post : mj_R) : Prop := mj_Ev zG l D cA m_Al_total 0 0 mc ms args w kp post
abbrev E0_Al_total (l : Launch) (D : va_G) (cA : Nat → ClassId) (args : List Value) (w : mj_M) (r : Option Value) (w' : mj_M) : Prop := mj_Ev zG l D cA m_Al_total 0 0 0 0 args w (fun _ => True) (fun r1 w1 => r1 = r ∧ w1 = w')
theorem v_Al_total : mj_VW zG m_Al_total 0 := ⟨z2_158, z2_159, z1_9, z2_160, by decide, by decide, by decide +kernel⟩
abbrev E_Al_add (l : Launch) (D : va_G) (cA : Nat → ClassId) (mc ms : Nat) (args : List Value) (w : mj_M) (kp : Nat → Prop) (post : mj_R) : Prop := mj_Ev zG l D cA m_Al_add 0 0 mc ms args w kp post
abbrev E0_Al_add (l : Launch) (D : va_G) (cA : Nat → ClassId) (args : List Value) (w : mj_M) (r : Option Value) (w' : mj_M) : Prop := mj_Ev zG l D cA m_Al_add 0 0 0 0 args w (fun _ => True) (fun r1 w1 => r1 = r ∧ w1 = w')
theorem v_Al_add : mj_VW zG m_Al_add 4 := ⟨z3_49, z3_50, z1_9, z3_51, by decide, by decide, by decide +kernel⟩
abbrev E_Al_read (l : Launch) (D : va_G) (cA : Nat → ClassId) (mc ms : Nat) (args : List Value) (w : mj_M) (kp : Nat → Prop) (post : mj_R) : Prop := mj_Ev zG l D cA m_Al_read 1 40 mc ms args w kp post
abbrev E0_Al_read (l : Launch) (D : va_G) (cA : Nat → ClassId) (args : List Value) (w : mj_M) (r : Option Value) (w' : mj_M) : Prop := mj_Ev zG l D cA m_Al_read 1 40 0 0 args w (fun _ => True) (fun r1 w1 => r1 = r ∧ w1 = w')
theorem v_Al_read : mj_VW zG m_Al_read 2 := ⟨z3_105, z3_106, z1_9, z3_107, by decide, by decide, by decide +kernel⟩
abbrev E_Fl_init (l : Launch) (D : va_G) (cA : Nat → ClassId) (mc ms : Nat) (args : List Value) (w : mj_M) (kp : Nat → Prop) (post : mj_R) : Prop := mj_Ev zG l D cA m_Fl_init 2 80 mc ms args w kp post
abbrev E0_Fl_init (l : Launch) (D : va_G) (cA : Nat → ClassId) (args : List Value) (w : mj_M) (r : Option Value) (w' : mj_M) : Prop := mj_Ev zG l D cA m_Fl_init 2 80 0 0 args w (fun _ => True) (fun r1 w1 => r1 = r ∧ w1 = w')
abbrev E_Fl_isLive (l : Launch) (D : va_G) (cA : Nat → ClassId) (mc ms : Nat) (args : List Value) (w : mj_M) (kp : Nat → Prop) (post : mj_R) : Prop := mj_Ev zG l D cA m_Fl_isLive 0 0 mc ms args w kp post
abbrev E0_Fl_isLive (l : Launch) (D : va_G) (cA : Nat → ClassId) (args : List Value) (w : mj_M) (r : Option Value) (w' : mj_M) : Prop := mj_Ev zG l D cA m_Fl_isLive 0 0 0 0 args w (fun _ => True) (fun r1 w1 => r1 = r ∧ w1 = w')
theorem v_Fl_isLive : mj_VW zG m_Fl_isLive 0 := ⟨z2_125, z2_126, z1_5, z2_127, by decide, by decide, by decide +kernel⟩
abbrev E_Fl_open (l : Launch) (D : va_G) (cA : Nat → ClassId) (mc ms : Nat) (args : List Value) (w : mj_M) (kp : Nat → Prop) (post : mj_R) : Prop := mj_Ev zG l D cA m_Fl_open 2 80 mc ms args w kp post
abbrev E0_Fl_open (l : Launch) (D : va_G) (cA : Nat → ClassId) (args : List Value) (w : mj_M) (r : Option Value) (w' : mj_M) : Prop := mj_Ev zG l D cA m_Fl_open 2 80 0 0 args w (fun _ => True) (fun r1 w1 => r1 = r ∧ w1 = w')
theorem v_Fl_open : mj_VW zG m_Fl_open 1 := ⟨z2_146, z2_147, z1_5, z2_148, by decide, by decide, by decide +kernel⟩
abbrev E_Fl_free (l : Launch) (D : va_G) (cA : Nat → ClassId) (mc ms : Nat) (args : List Value) (w : mj_M) (kp : Nat → Prop) (post : mj_R) : Prop := mj_Ev zG l D cA m_Fl_free 0 0 mc ms args w kp post
abbrev E0_Fl_free (l : Launch) (D : va_G) (cA : Nat → ClassId) (args : List Value) (w : mj_M) (r : Option Value) (w' : mj_M) : Prop := mj_Ev zG l D cA m_Fl_free 0 0 0 0 args w (fun _ => True) (fun r1 w1 => r1 = r ∧ w1 = w')
theorem v_Fl_free : mj_VW zG m_Fl_free 0 := ⟨z2_162, z2_163, z1_5, z2_164, by decide, by decide, by decide +kernel⟩
abbrev E_Fl_freeIfBothEnded (l : Launch) (D : va_G) (cA : Nat → ClassId) (mc ms : Nat) (args : List Value) (w : mj_M) (kp : Nat → Prop) (post : mj_R) : Prop := mj_Ev zG l D cA m_Fl_freeIfBothEnded 1 40 mc ms args w kp post
abbrev E0_Fl_freeIfBothEnded (l : Launch) (D : va_G) (cA : Nat → ClassId) (args : List Value) (w : mj_M) (r : Option Value) (w' : mj_M) : Prop := mj_Ev zG l D cA m_Fl_freeIfBothEnded 1 40 0 0 args w (fun _ => True) (fun r1 w1 => r1 = r ∧ w1 = w')
theorem v_Fl_freeIfBothEnded : mj_VW zG m_Fl_freeIfBothEnded 0 := ⟨z3_61, z3_62, z1_5, z3_63, by decide, by decide, by decide +kernel⟩
abbrev E_Fl_wayOf (l : Launch) (D : va_G) (cA : Nat → ClassId) (mc ms : Nat) (args : List Value) (w : mj_M) (kp : Nat → Prop) (post : mj_R) : Prop := mj_Ev zG l D cA m_Fl_wayOf 1 40 mc ms args w kp post
abbrev E0_Fl_wayOf (l : Launch) (D : va_G) (cA : Nat → ClassId) (args : List Value) (w : mj_M) (r : Option Value) (w' : mj_M) : Prop := mj_Ev zG l D cA m_Fl_wayOf 1 40 0 0 args w (fun _ => True) (fun r1 w1 => r1 = r ∧ w1 = w')
theorem v_Fl_wayOf : mj_VW zG m_Fl_wayOf 1 := ⟨z2_129, z2_130, z1_5, z2_131, by decide, by decide, by decide +kernel⟩
abbrev E_Fl_streamOf (l : Launch) (D : va_G) (cA : Nat → ClassId) (mc ms : Nat) (args : List Value) (w : mj_M) (kp : Nat → Prop) (post : mj_R) : Prop := mj_Ev zG l D cA m_Fl_streamOf 0 0 mc ms args w kp post
abbrev E0_Fl_streamOf (l : Launch) (D : va_G) (cA : Nat → ClassId) (args : List Value) (w : mj_M) (r : Option Value) (w' : mj_M) : Prop := mj_Ev zG l D cA m_Fl_streamOf 0 0 0 0 args w (fun _ => True) (fun r1 w1 => r1 = r ∧ w1 = w')
theorem v_Fl_streamOf : mj_VW zG m_Fl_streamOf 1 := ⟨z2_171, z2_172, z1_5, z2_173, by decide, by decide, by decide +kernel⟩
abbrev E_Fl_isClient (l : Launch) (D : va_G) (cA : Nat → ClassId) (mc ms : Nat) (args : List Value) (w : mj_M) (kp : Nat → Prop) (post : mj_R) : Prop := mj_Ev zG l D cA m_Fl_isClient 0 0 mc ms args w kp post
abbrev E0_Fl_isClient (l : Launch) (D : va_G) (cA : Nat → ClassId) (args : List Value) (w : mj_M) (r : Option Value) (w' : mj_M) : Prop := mj_Ev zG l D cA m_Fl_isClient 0 0 0 0 args w (fun _ => True) (fun r1 w1 => r1 = r ∧ w1 = w')
theorem v_Fl_isClient : mj_VW zG m_Fl_isClient 2 := ⟨z2_134, zinP (q := (⟨"StreamWatch$Flow", "isClient", "(II)Z"⟩, 8)) (by decide +kernel), z1_5, z2_135, by decide, by decide, by decide +kernel⟩
abbrev E_Fl_isServer (l : Launch) (D : va_G) (cA : Nat → ClassId) (mc ms : Nat) (args : List Value) (w : mj_M) (kp : Nat → Prop) (post : mj_R) : Prop := mj_Ev zG l D cA m_Fl_isServer 0 0 mc ms args w kp post
abbrev E0_Fl_isServer (l : Launch) (D : va_G) (cA : Nat → ClassId) (args : List Value) (w : mj_M) (r : Option Value) (w' : mj_M) : Prop := mj_Ev zG l D cA m_Fl_isServer 0 0 0 0 args w (fun _ => True) (fun r1 w1 => r1 = r ∧ w1 = w')
theorem v_Fl_isServer : mj_VW zG m_Fl_isServer 2 := ⟨z2_138, zinP (q := (⟨"StreamWatch$Flow", "isServer", "(II)Z"⟩, 8)) (by decide +kernel), z1_5, z2_139, by decide, by decide, by decide +kernel⟩
abbrev E_Ft_init (l : Launch) (D : va_G) (cA : Nat → ClassId) (mc ms : Nat) (args : List Value) (w : mj_M) (kp : Nat → Prop) (post : mj_R) : Prop := mj_Ev zG l D cA m_Ft_init 3 120 mc ms args w kp post
abbrev E0_Ft_init (l : Launch) (D : va_G) (cA : Nat → ClassId) (args : List Value) (w : mj_M) (r : Option Value) (w' : mj_M) : Prop := mj_Ev zG l D cA m_Ft_init 3 120 0 0 args w (fun _ => True) (fun r1 w1 => r1 = r ∧ w1 = w')
abbrev E_Ft_at (l : Launch) (D : va_G) (cA : Nat → ClassId) (mc ms : Nat) (args : List Value) (w : mj_M) (kp : Nat → Prop) (post : mj_R) : Prop := mj_Ev zG l D cA m_Ft_at 1 40 mc ms args w kp post
abbrev E0_Ft_at (l : Launch) (D : va_G) (cA : Nat → ClassId) (args : List Value) (w : mj_M) (r : Option Value) (w' : mj_M) : Prop := mj_Ev zG l D cA m_Ft_at 1 40 0 0 args w (fun _ => True) (fun r1 w1 => r1 = r ∧ w1 = w')
theorem v_Ft_at : mj_VW zG m_Ft_at 1 := ⟨z2_121, z2_122, z1_4, z2_123, by decide, by decide, by decide +kernel⟩
abbrev E_Ft_of (l : Launch) (D : va_G) (cA : Nat → ClassId) (mc ms : Nat) (args : List Value) (w : mj_M) (kp : Nat → Prop) (post : mj_R) : Prop := mj_Ev zG l D cA m_Ft_of 2 80 mc ms args w kp post
abbrev E0_Ft_of (l : Launch) (D : va_G) (cA : Nat → ClassId) (args : List Value) (w : mj_M) (r : Option Value) (w' : mj_M) : Prop := mj_Ev zG l D cA m_Ft_of 2 80 0 0 args w (fun _ => True) (fun r1 w1 => r1 = r ∧ w1 = w')
theorem v_Ft_of : mj_VW zG m_Ft_of 1 := ⟨z2_117, z2_118, z1_4, z2_119, by decide, by decide, by decide +kernel⟩
abbrev E_Ft_open (l : Launch) (D : va_G) (cA : Nat → ClassId) (mc ms : Nat) (args : List Value) (w : mj_M) (kp : Nat → Prop) (post : mj_R) : Prop := mj_Ev zG l D cA m_Ft_open 3 120 mc ms args w kp post
abbrev E0_Ft_open (l : Launch) (D : va_G) (cA : Nat → ClassId) (args : List Value) (w : mj_M) (r : Option Value) (w' : mj_M) : Prop := mj_Ev zG l D cA m_Ft_open 3 120 0 0 args w (fun _ => True) (fun r1 w1 => r1 = r ∧ w1 = w')
theorem v_Ft_open : mj_VW zG m_Ft_open 1 := ⟨z2_142, z2_143, z1_4, z2_144, by decide, by decide, by decide +kernel⟩
abbrev E_Ft_hear (l : Launch) (D : va_G) (cA : Nat → ClassId) (mc ms : Nat) (args : List Value) (w : mj_M) (kp : Nat → Prop) (post : mj_R) : Prop := mj_Ev zG l D cA m_Ft_hear 0 0 mc ms args w kp post
abbrev E0_Ft_hear (l : Launch) (D : va_G) (cA : Nat → ClassId) (args : List Value) (w : mj_M) (r : Option Value) (w' : mj_M) : Prop := mj_Ev zG l D cA m_Ft_hear 0 0 0 0 args w (fun _ => True) (fun r1 w1 => r1 = r ∧ w1 = w')
theorem v_Ft_hear : mj_VW zG m_Ft_hear 1 := ⟨z2_154, z2_155, z1_4, z2_156, by decide, by decide, by decide +kernel⟩
abbrev E_Ft_heardAfter (l : Launch) (D : va_G) (cA : Nat → ClassId) (mc ms : Nat) (args : List Value) (w : mj_M) (kp : Nat → Prop) (post : mj_R) : Prop := mj_Ev zG l D cA m_Ft_heardAfter 2 80 mc ms args w kp post
abbrev E0_Ft_heardAfter (l : Launch) (D : va_G) (cA : Nat → ClassId) (args : List Value) (w : mj_M) (r : Option Value) (w' : mj_M) : Prop := mj_Ev zG l D cA m_Ft_heardAfter 2 80 0 0 args w (fun _ => True) (fun r1 w1 => r1 = r ∧ w1 = w')
theorem v_Ft_heardAfter : mj_VW zG m_Ft_heardAfter 1 := ⟨z3_75, z3_76, z1_4, z3_77, by decide, by decide, by decide +kernel⟩
abbrev E_Mk_init (l : Launch) (D : va_G) (cA : Nat → ClassId) (mc ms : Nat) (args : List Value) (w : mj_M) (kp : Nat → Prop) (post : mj_R) : Prop := mj_Ev zG l D cA m_Mk_init 1 40 mc ms args w kp post
abbrev E0_Mk_init (l : Launch) (D : va_G) (cA : Nat → ClassId) (args : List Value) (w : mj_M) (r : Option Value) (w' : mj_M) : Prop := mj_Ev zG l D cA m_Mk_init 1 40 0 0 args w (fun _ => True) (fun r1 w1 => r1 = r ∧ w1 = w')
abbrev E_Mk_markStartOnly (l : Launch) (D : va_G) (cA : Nat → ClassId) (mc ms : Nat) (args : List Value) (w : mj_M) (kp : Nat → Prop) (post : mj_R) : Prop := mj_Ev zG l D cA m_Mk_markStartOnly 1 40 mc ms args w kp post
abbrev E0_Mk_markStartOnly (l : Launch) (D : va_G) (cA : Nat → ClassId) (args : List Value) (w : mj_M) (r : Option Value) (w' : mj_M) : Prop := mj_Ev zG l D cA m_Mk_markStartOnly 1 40 0 0 args w (fun _ => True) (fun r1 w1 => r1 = r ∧ w1 = w')
theorem v_Mk_markStartOnly : mj_VW zG m_Mk_markStartOnly 1 := ⟨z2_222, z2_223, z1_8, z2_224, by decide, by decide, by decide +kernel⟩
abbrev E_Mk_set (l : Launch) (D : va_G) (cA : Nat → ClassId) (mc ms : Nat) (args : List Value) (w : mj_M) (kp : Nat → Prop) (post : mj_R) : Prop := mj_Ev zG l D cA m_Mk_set 0 0 mc ms args w kp post
abbrev E0_Mk_set (l : Launch) (D : va_G) (cA : Nat → ClassId) (args : List Value) (w : mj_M) (r : Option Value) (w' : mj_M) : Prop := mj_Ev zG l D cA m_Mk_set 0 0 0 0 args w (fun _ => True) (fun r1 w1 => r1 = r ∧ w1 = w')
theorem v_Mk_set : mj_VW zG m_Mk_set 2 := ⟨z2_226, z2_227, z1_8, z2_228, by decide, by decide, by decide +kernel⟩
abbrev E_Mk_has (l : Launch) (D : va_G) (cA : Nat → ClassId) (mc ms : Nat) (args : List Value) (w : mj_M) (kp : Nat → Prop) (post : mj_R) : Prop := mj_Ev zG l D cA m_Mk_has 0 0 mc ms args w kp post
abbrev E0_Mk_has (l : Launch) (D : va_G) (cA : Nat → ClassId) (args : List Value) (w : mj_M) (r : Option Value) (w' : mj_M) : Prop := mj_Ev zG l D cA m_Mk_has 0 0 0 0 args w (fun _ => True) (fun r1 w1 => r1 = r ∧ w1 = w')
theorem v_Mk_has : mj_VW zG m_Mk_has 1 := ⟨z3_40, z3_41, z1_8, z3_42, by decide, by decide, by decide +kernel⟩
abbrev E_Mk_settle (l : Launch) (D : va_G) (cA : Nat → ClassId) (mc ms : Nat) (args : List Value) (w : mj_M) (kp : Nat → Prop) (post : mj_R) : Prop := mj_Ev zG l D cA m_Mk_settle 0 0 mc ms args w kp post
abbrev E0_Mk_settle (l : Launch) (D : va_G) (cA : Nat → ClassId) (args : List Value) (w : mj_M) (r : Option Value) (w' : mj_M) : Prop := mj_Ev zG l D cA m_Mk_settle 0 0 0 0 args w (fun _ => True) (fun r1 w1 => r1 = r ∧ w1 = w')
theorem v_Mk_settle : mj_VW zG m_Mk_settle 1 := ⟨z2_230, z2_231, z1_8, z2_232, by decide, by decide, by decide +kernel⟩
abbrev E_Mk_isAnyIn (l : Launch) (D : va_G) (cA : Nat → ClassId) (mc ms : Nat) (args : List Value) (w : mj_M) (kp : Nat → Prop) (post : mj_R) : Prop := mj_Ev zG l D cA m_Mk_isAnyIn 1 40 mc ms args w kp post
abbrev E0_Mk_isAnyIn (l : Launch) (D : va_G) (cA : Nat → ClassId) (args : List Value) (w : mj_M) (r : Option Value) (w' : mj_M) : Prop := mj_Ev zG l D cA m_Mk_isAnyIn 1 40 0 0 args w (fun _ => True) (fun r1 w1 => r1 = r ∧ w1 = w')
theorem v_Mk_isAnyIn : mj_VW zG m_Mk_isAnyIn 2 := ⟨z3_26, z3_27, z1_8, z3_28, by decide, by decide, by decide +kernel⟩
abbrev E_Op_init (l : Launch) (D : va_G) (cA : Nat → ClassId) (mc ms : Nat) (args : List Value) (w : mj_M) (kp : Nat → Prop) (post : mj_R) : Prop := mj_Ev zG l D cA m_Op_init 1 40 mc ms args w kp post
abbrev E0_Op_init (l : Launch) (D : va_G) (cA : Nat → ClassId) (args : List Value) (w : mj_M) (r : Option Value) (w' : mj_M) : Prop := mj_Ev zG l D cA m_Op_init 1 40 0 0 args w (fun _ => True) (fun r1 w1 => r1 = r ∧ w1 = w')
abbrev E_Op_standsAt (l : Launch) (D : va_G) (cA : Nat → ClassId) (mc ms : Nat) (args : List Value) (w : mj_M) (kp : Nat → Prop) (post : mj_R) : Prop := mj_Ev zG l D cA m_Op_standsAt 1 40 mc ms args w kp post
abbrev E0_Op_standsAt (l : Launch) (D : va_G) (cA : Nat → ClassId) (args : List Value) (w : mj_M) (r : Option Value) (w' : mj_M) : Prop := mj_Ev zG l D cA m_Op_standsAt 1 40 0 0 args w (fun _ => True) (fun r1 w1 => r1 = r ∧ w1 = w')
theorem v_Op_standsAt : mj_VW zG m_Op_standsAt 2 := ⟨z3_6, z3_7, z1_18, z3_8, by decide, by decide, by decide +kernel⟩
abbrev E_Op_folded (l : Launch) (D : va_G) (cA : Nat → ClassId) (mc ms : Nat) (args : List Value) (w : mj_M) (kp : Nat → Prop) (post : mj_R) : Prop := mj_Ev zG l D cA m_Op_folded 0 0 mc ms args w kp post
abbrev E0_Op_folded (l : Launch) (D : va_G) (cA : Nat → ClassId) (args : List Value) (w : mj_M) (r : Option Value) (w' : mj_M) : Prop := mj_Ev zG l D cA m_Op_folded 0 0 0 0 args w (fun _ => True) (fun r1 w1 => r1 = r ∧ w1 = w')
theorem v_Op_folded : mj_VW zG m_Op_folded 1 := ⟨z3_16, zinP (q := (⟨"StreamWatch$Option", "folded", "(I)I"⟩, 7)) (by decide +kernel), z1_18, z3_18, by decide, by decide, by decide +kernel⟩
abbrev E_Pk_init (l : Launch) (D : va_G) (cA : Nat → ClassId) (mc ms : Nat) (args : List Value) (w : mj_M) (kp : Nat → Prop) (post : mj_R) : Prop := mj_Ev zG l D cA m_Pk_init 1 40 mc ms args w kp post
abbrev E0_Pk_init (l : Launch) (D : va_G) (cA : Nat → ClassId) (args : List Value) (w : mj_M) (r : Option Value) (w' : mj_M) : Prop := mj_Ev zG l D cA m_Pk_init 1 40 0 0 args w (fun _ => True) (fun r1 w1 => r1 = r ∧ w1 = w')
abbrev E_Pk_read (l : Launch) (D : va_G) (cA : Nat → ClassId) (mc ms : Nat) (args : List Value) (w : mj_M) (kp : Nat → Prop) (post : mj_R) : Prop := mj_Ev zG l D cA m_Pk_read 5 200 mc ms args w kp post
abbrev E0_Pk_read (l : Launch) (D : va_G) (cA : Nat → ClassId) (args : List Value) (w : mj_M) (r : Option Value) (w' : mj_M) : Prop := mj_Ev zG l D cA m_Pk_read 5 200 0 0 args w (fun _ => True) (fun r1 w1 => r1 = r ∧ w1 = w')
theorem v_Pk_read : mj_VW zG m_Pk_read 1 := ⟨z2_96, z2_97, z1_3, z2_98, by decide, by decide, by decide +kernel⟩
abbrev E_Pk_hasFlag (l : Launch) (D : va_G) (cA : Nat → ClassId) (mc ms : Nat) (args : List Value) (w : mj_M) (kp : Nat → Prop) (post : mj_R) : Prop := mj_Ev zG l D cA m_Pk_hasFlag 0 0 mc ms args w kp post
abbrev E0_Pk_hasFlag (l : Launch) (D : va_G) (cA : Nat → ClassId) (args : List Value) (w : mj_M) (r : Option Value) (w' : mj_M) : Prop := mj_Ev zG l D cA m_Pk_hasFlag 0 0 0 0 args w (fun _ => True) (fun r1 w1 => r1 = r ∧ w1 = w')
theorem v_Pk_hasFlag : mj_VW zG m_Pk_hasFlag 1 := ⟨z2_107, z2_108, z1_3, z2_109, by decide, by decide, by decide +kernel⟩
abbrev E_Ru_init (l : Launch) (D : va_G) (cA : Nat → ClassId) (mc ms : Nat) (args : List Value) (w : mj_M) (kp : Nat → Prop) (post : mj_R) : Prop := mj_Ev zG l D cA m_Ru_init 1 40 mc ms args w kp post
abbrev E0_Ru_init (l : Launch) (D : va_G) (cA : Nat → ClassId) (args : List Value) (w : mj_M) (r : Option Value) (w' : mj_M) : Prop := mj_Ev zG l D cA m_Ru_init 1 40 0 0 args w (fun _ => True) (fun r1 w1 => r1 = r ∧ w1 = w')
abbrev E_Ru_size (l : Launch) (D : va_G) (cA : Nat → ClassId) (mc ms : Nat) (args : List Value) (w : mj_M) (kp : Nat → Prop) (post : mj_R) : Prop := mj_Ev zG l D cA m_Ru_size 0 0 mc ms args w kp post
abbrev E0_Ru_size (l : Launch) (D : va_G) (cA : Nat → ClassId) (args : List Value) (w : mj_M) (r : Option Value) (w' : mj_M) : Prop := mj_Ev zG l D cA m_Ru_size 0 0 0 0 args w (fun _ => True) (fun r1 w1 => r1 = r ∧ w1 = w')
theorem v_Ru_size : mj_VW zG m_Ru_size 0 := ⟨z2_234, z2_235, z1_17, z2_236, by decide, by decide, by decide +kernel⟩
abbrev E_Ru_add (l : Launch) (D : va_G) (cA : Nat → ClassId) (mc ms : Nat) (args : List Value) (w : mj_M) (kp : Nat → Prop) (post : mj_R) : Prop := mj_Ev zG l D cA m_Ru_add 0 0 mc ms args w kp post
abbrev E0_Ru_add (l : Launch) (D : va_G) (cA : Nat → ClassId) (args : List Value) (w : mj_M) (r : Option Value) (w' : mj_M) : Prop := mj_Ev zG l D cA m_Ru_add 0 0 0 0 args w (fun _ => True) (fun r1 w1 => r1 = r ∧ w1 = w')
theorem v_Ru_add : mj_VW zG m_Ru_add 1 := ⟨z4_56, z4_57, z1_17, z4_58, by decide, by decide, by decide +kernel⟩
abbrev E_Ru_at (l : Launch) (D : va_G) (cA : Nat → ClassId) (mc ms : Nat) (args : List Value) (w : mj_M) (kp : Nat → Prop) (post : mj_R) : Prop := mj_Ev zG l D cA m_Ru_at 0 0 mc ms args w kp post
abbrev E0_Ru_at (l : Launch) (D : va_G) (cA : Nat → ClassId) (args : List Value) (w : mj_M) (r : Option Value) (w' : mj_M) : Prop := mj_Ev zG l D cA m_Ru_at 0 0 0 0 args w (fun _ => True) (fun r1 w1 => r1 = r ∧ w1 = w')
theorem v_Ru_at : mj_VW zG m_Ru_at 1 := ⟨z2_238, z2_239, z1_17, z3_0, by decide, by decide, by decide +kernel⟩
abbrev E_Ru_isFor (l : Launch) (D : va_G) (cA : Nat → ClassId) (mc ms : Nat) (args : List Value) (w : mj_M) (kp : Nat → Prop) (post : mj_R) : Prop := mj_Ev zG l D cA m_Ru_isFor 0 0 mc ms args w kp post
abbrev E0_Ru_isFor (l : Launch) (D : va_G) (cA : Nat → ClassId) (args : List Value) (w : mj_M) (r : Option Value) (w' : mj_M) : Prop := mj_Ev zG l D cA m_Ru_isFor 0 0 0 0 args w (fun _ => True) (fun r1 w1 => r1 = r ∧ w1 = w')
theorem v_Ru_isFor : mj_VW zG m_Ru_isFor 2 := ⟨z2_206, z2_207, z1_17, z2_208, by decide, by decide, by decide +kernel⟩
abbrev E_Se_init (l : Launch) (D : va_G) (cA : Nat → ClassId) (mc ms : Nat) (args : List Value) (w : mj_M) (kp : Nat → Prop) (post : mj_R) : Prop := mj_Ev zG l D cA m_Se_init 2 80 mc ms args w kp post
abbrev E0_Se_init (l : Launch) (D : va_G) (cA : Nat → ClassId) (args : List Value) (w : mj_M) (r : Option Value) (w' : mj_M) : Prop := mj_Ev zG l D cA m_Se_init 2 80 0 0 args w (fun _ => True) (fun r1 w1 => r1 = r ∧ w1 = w')
abbrev E_Se_holds (l : Launch) (D : va_G) (cA : Nat → ClassId) (mc ms : Nat) (args : List Value) (w : mj_M) (kp : Nat → Prop) (post : mj_R) : Prop := mj_Ev zG l D cA m_Se_holds 3 120 mc ms args w kp post
abbrev E0_Se_holds (l : Launch) (D : va_G) (cA : Nat → ClassId) (args : List Value) (w : mj_M) (r : Option Value) (w' : mj_M) : Prop := mj_Ev zG l D cA m_Se_holds 3 120 0 0 args w (fun _ => True) (fun r1 w1 => r1 = r ∧ w1 = w')
theorem v_Se_holds : mj_VW zG m_Se_holds 2 := ⟨z2_214, z2_215, z1_7, z2_216, by decide, by decide, by decide +kernel⟩
abbrev E_Se_find (l : Launch) (D : va_G) (cA : Nat → ClassId) (mc ms : Nat) (args : List Value) (w : mj_M) (kp : Nat → Prop) (post : mj_R) : Prop := mj_Ev zG l D cA m_Se_find 2 80 mc ms args w kp post
abbrev E0_Se_find (l : Launch) (D : va_G) (cA : Nat → ClassId) (args : List Value) (w : mj_M) (r : Option Value) (w' : mj_M) : Prop := mj_Ev zG l D cA m_Se_find 2 80 0 0 args w (fun _ => True) (fun r1 w1 => r1 = r ∧ w1 = w')
theorem v_Se_find : mj_VW zG m_Se_find 2 := ⟨z3_3, zinP (q := (⟨"StreamWatch$Search", "find", "(LStreamWatch$Option;LStreamWatch$Stream;)V"⟩, 2)) (by decide +kernel), z1_7, z3_4, by decide, by decide, by decide +kernel⟩
abbrev E_Se_dropBases (l : Launch) (D : va_G) (cA : Nat → ClassId) (mc ms : Nat) (args : List Value) (w : mj_M) (kp : Nat → Prop) (post : mj_R) : Prop := mj_Ev zG l D cA m_Se_dropBases 2 80 mc ms args w kp post
abbrev E0_Se_dropBases (l : Launch) (D : va_G) (cA : Nat → ClassId) (args : List Value) (w : mj_M) (r : Option Value) (w' : mj_M) : Prop := mj_Ev zG l D cA m_Se_dropBases 2 80 0 0 args w (fun _ => True) (fun r1 w1 => r1 = r ∧ w1 = w')
theorem v_Se_dropBases : mj_VW zG m_Se_dropBases 2 := ⟨z3_23, zinP (q := (⟨"StreamWatch$Search", "dropBases", "(LStreamWatch$Option;I)V"⟩, 2)) (by decide +kernel), z1_7, z3_24, by decide, by decide, by decide +kernel⟩
abbrev E_Se_moveBases (l : Launch) (D : va_G) (cA : Nat → ClassId) (mc ms : Nat) (args : List Value) (w : mj_M) (kp : Nat → Prop) (post : mj_R) : Prop := mj_Ev zG l D cA m_Se_moveBases 2 80 mc ms args w kp post
abbrev E0_Se_moveBases (l : Launch) (D : va_G) (cA : Nat → ClassId) (args : List Value) (w : mj_M) (r : Option Value) (w' : mj_M) : Prop := mj_Ev zG l D cA m_Se_moveBases 2 80 0 0 args w (fun _ => True) (fun r1 w1 => r1 = r ∧ w1 = w')
theorem v_Se_moveBases : mj_VW zG m_Se_moveBases 2 := ⟨z3_37, zinP (q := (⟨"StreamWatch$Search", "moveBases", "(LStreamWatch$Option;I)V"⟩, 2)) (by decide +kernel), z1_7, z3_38, by decide, by decide, by decide +kernel⟩
abbrev E_Sm_init (l : Launch) (D : va_G) (cA : Nat → ClassId) (mc ms : Nat) (args : List Value) (w : mj_M) (kp : Nat → Prop) (post : mj_R) : Prop := mj_Ev zG l D cA m_Sm_init 1 40 mc ms args w kp post
abbrev E0_Sm_init (l : Launch) (D : va_G) (cA : Nat → ClassId) (args : List Value) (w : mj_M) (r : Option Value) (w' : mj_M) : Prop := mj_Ev zG l D cA m_Sm_init 1 40 0 0 args w (fun _ => True) (fun r1 w1 => r1 = r ∧ w1 = w')
abbrev E_Sm_reset (l : Launch) (D : va_G) (cA : Nat → ClassId) (mc ms : Nat) (args : List Value) (w : mj_M) (kp : Nat → Prop) (post : mj_R) : Prop := mj_Ev zG l D cA m_Sm_reset 1 40 mc ms args w kp post
abbrev E0_Sm_reset (l : Launch) (D : va_G) (cA : Nat → ClassId) (args : List Value) (w : mj_M) (r : Option Value) (w' : mj_M) : Prop := mj_Ev zG l D cA m_Sm_reset 1 40 0 0 args w (fun _ => True) (fun r1 w1 => r1 = r ∧ w1 = w')
theorem v_Sm_reset : mj_VW zG m_Sm_reset 0 := ⟨z2_150, z2_151, z1_6, z2_152, by decide, by decide, by decide +kernel⟩
abbrev E_Sm_begin (l : Launch) (D : va_G) (cA : Nat → ClassId) (mc ms : Nat) (args : List Value) (w : mj_M) (kp : Nat → Prop) (post : mj_R) : Prop := mj_Ev zG l D cA m_Sm_begin 0 0 mc ms args w kp post
abbrev E0_Sm_begin (l : Launch) (D : va_G) (cA : Nat → ClassId) (args : List Value) (w : mj_M) (r : Option Value) (w' : mj_M) : Prop := mj_Ev zG l D cA m_Sm_begin 0 0 0 0 args w (fun _ => True) (fun r1 w1 => r1 = r ∧ w1 = w')
theorem v_Sm_begin : mj_VW zG m_Sm_begin 1 := ⟨z2_175, z2_176, z1_6, z2_177, by decide, by decide, by decide +kernel⟩
abbrev E_Sm_hold (l : Launch) (D : va_G) (cA : Nat → ClassId) (mc ms : Nat) (args : List Value) (w : mj_M) (kp : Nat → Prop) (post : mj_R) : Prop := mj_Ev zG l D cA m_Sm_hold 1 40 mc ms args w kp post
abbrev E0_Sm_hold (l : Launch) (D : va_G) (cA : Nat → ClassId) (args : List Value) (w : mj_M) (r : Option Value) (w' : mj_M) : Prop := mj_Ev zG l D cA m_Sm_hold 1 40 0 0 args w (fun _ => True) (fun r1 w1 => r1 = r ∧ w1 = w')
theorem v_Sm_hold : mj_VW zG m_Sm_hold 3 := ⟨z2_183, z2_184, z1_6, z2_185, by decide, by decide, by decide +kernel⟩
abbrev E_Sm_isNextHeld (l : Launch) (D : va_G) (cA : Nat → ClassId) (mc ms : Nat) (args : List Value) (w : mj_M) (kp : Nat → Prop) (post : mj_R) : Prop := mj_Ev zG l D cA m_Sm_isNextHeld 1 40 mc ms args w kp post
abbrev E0_Sm_isNextHeld (l : Launch) (D : va_G) (cA : Nat → ClassId) (args : List Value) (w : mj_M) (r : Option Value) (w' : mj_M) : Prop := mj_Ev zG l D cA m_Sm_isNextHeld 1 40 0 0 args w (fun _ => True) (fun r1 w1 => r1 = r ∧ w1 = w')
theorem v_Sm_isNextHeld : mj_VW zG m_Sm_isNextHeld 0 := ⟨z2_190, z2_191, z1_6, z2_192, by decide, by decide, by decide +kernel⟩
abbrev E_Sm_takeNext (l : Launch) (D : va_G) (cA : Nat → ClassId) (mc ms : Nat) (args : List Value) (w : mj_M) (kp : Nat → Prop) (post : mj_R) : Prop := mj_Ev zG l D cA m_Sm_takeNext 1 40 mc ms args w kp post
abbrev E0_Sm_takeNext (l : Launch) (D : va_G) (cA : Nat → ClassId) (args : List Value) (w : mj_M) (r : Option Value) (w' : mj_M) : Prop := mj_Ev zG l D cA m_Sm_takeNext 1 40 0 0 args w (fun _ => True) (fun r1 w1 => r1 = r ∧ w1 = w')
theorem v_Sm_takeNext : mj_VW zG m_Sm_takeNext 0 := ⟨z2_194, z2_195, z1_6, z2_196, by decide, by decide, by decide +kernel⟩
abbrev E_Sm_end (l : Launch) (D : va_G) (cA : Nat → ClassId) (mc ms : Nat) (args : List Value) (w : mj_M) (kp : Nat → Prop) (post : mj_R) : Prop := mj_Ev zG l D cA m_Sm_end 0 0 mc ms args w kp post
abbrev E0_Sm_end (l : Launch) (D : va_G) (cA : Nat → ClassId) (args : List Value) (w : mj_M) (r : Option Value) (w' : mj_M) : Prop := mj_Ev zG l D cA m_Sm_end 0 0 0 0 args w (fun _ => True) (fun r1 w1 => r1 = r ∧ w1 = w')
theorem v_Sm_end : mj_VW zG m_Sm_end 0 := ⟨z3_57, z3_58, z1_6, z3_59, by decide, by decide, by decide +kernel⟩
abbrev E_Sm_hasEnded (l : Launch) (D : va_G) (cA : Nat → ClassId) (mc ms : Nat) (args : List Value) (w : mj_M) (kp : Nat → Prop) (post : mj_R) : Prop := mj_Ev zG l D cA m_Sm_hasEnded 0 0 mc ms args w kp post
abbrev E0_Sm_hasEnded (l : Launch) (D : va_G) (cA : Nat → ClassId) (args : List Value) (w : mj_M) (r : Option Value) (w' : mj_M) : Prop := mj_Ev zG l D cA m_Sm_hasEnded 0 0 0 0 args w (fun _ => True) (fun r1 w1 => r1 = r ∧ w1 = w')
theorem v_Sm_hasEnded : mj_VW zG m_Sm_hasEnded 0 := ⟨z3_65, z3_66, z1_6, z3_67, by decide, by decide, by decide +kernel⟩
abbrev E_Sm_size (l : Launch) (D : va_G) (cA : Nat → ClassId) (mc ms : Nat) (args : List Value) (w : mj_M) (kp : Nat → Prop) (post : mj_R) : Prop := mj_Ev zG l D cA m_Sm_size 0 0 mc ms args w kp post
abbrev E0_Sm_size (l : Launch) (D : va_G) (cA : Nat → ClassId) (args : List Value) (w : mj_M) (r : Option Value) (w' : mj_M) : Prop := mj_Ev zG l D cA m_Sm_size 0 0 0 0 args w (fun _ => True) (fun r1 w1 => r1 = r ∧ w1 = w')
theorem v_Sm_size : mj_VW zG m_Sm_size 0 := ⟨z2_218, z2_219, z1_6, z2_220, by decide, by decide, by decide +kernel⟩
abbrev E_Sm_next (l : Launch) (D : va_G) (cA : Nat → ClassId) (mc ms : Nat) (args : List Value) (w : mj_M) (kp : Nat → Prop) (post : mj_R) : Prop := mj_Ev zG l D cA m_Sm_next 0 0 mc ms args w kp post
abbrev E0_Sm_next (l : Launch) (D : va_G) (cA : Nat → ClassId) (args : List Value) (w : mj_M) (r : Option Value) (w' : mj_M) : Prop := mj_Ev zG l D cA m_Sm_next 0 0 0 0 args w (fun _ => True) (fun r1 w1 => r1 = r ∧ w1 = w')
theorem v_Sm_next : mj_VW zG m_Sm_next 0 := ⟨z3_53, z3_54, z1_6, z3_55, by decide, by decide, by decide +kernel⟩
abbrev E_Sm_heldCount (l : Launch) (D : va_G) (cA : Nat → ClassId) (mc ms : Nat) (args : List Value) (w : mj_M) (kp : Nat → Prop) (post : mj_R) : Prop := mj_Ev zG l D cA m_Sm_heldCount 0 0 mc ms args w kp post
abbrev E0_Sm_heldCount (l : Launch) (D : va_G) (cA : Nat → ClassId) (args : List Value) (w : mj_M) (r : Option Value) (w' : mj_M) : Prop := mj_Ev zG l D cA m_Sm_heldCount 0 0 0 0 args w (fun _ => True) (fun r1 w1 => r1 = r ∧ w1 = w')
theorem v_Sm_heldCount : mj_VW zG m_Sm_heldCount 0 := ⟨z3_87, z3_88, z1_6, z3_89, by decide, by decide, by decide +kernel⟩
abbrev E_Sm_byteAt (l : Launch) (D : va_G) (cA : Nat → ClassId) (mc ms : Nat) (args : List Value) (w : mj_M) (kp : Nat → Prop) (post : mj_R) : Prop := mj_Ev zG l D cA m_Sm_byteAt 0 0 mc ms args w kp post
abbrev E0_Sm_byteAt (l : Launch) (D : va_G) (cA : Nat → ClassId) (args : List Value) (w : mj_M) (r : Option Value) (w' : mj_M) : Prop := mj_Ev zG l D cA m_Sm_byteAt 0 0 0 0 args w (fun _ => True) (fun r1 w1 => r1 = r ∧ w1 = w')
theorem v_Sm_byteAt : mj_VW zG m_Sm_byteAt 1 := ⟨z3_11, z3_12, z1_6, z3_13, by decide, by decide, by decide +kernel⟩
abbrev E_Sm_hasRaised (l : Launch) (D : va_G) (cA : Nat → ClassId) (mc ms : Nat) (args : List Value) (w : mj_M) (kp : Nat → Prop) (post : mj_R) : Prop := mj_Ev zG l D cA m_Sm_hasRaised 0 0 mc ms args w kp post
abbrev E0_Sm_hasRaised (l : Launch) (D : va_G) (cA : Nat → ClassId) (args : List Value) (w : mj_M) (r : Option Value) (w' : mj_M) : Prop := mj_Ev zG l D cA m_Sm_hasRaised 0 0 0 0 args w (fun _ => True) (fun r1 w1 => r1 = r ∧ w1 = w')
theorem v_Sm_hasRaised : mj_VW zG m_Sm_hasRaised 1 := ⟨z2_210, z2_211, z1_6, z2_212, by decide, by decide, by decide +kernel⟩
abbrev E_Sm_setRaised (l : Launch) (D : va_G) (cA : Nat → ClassId) (mc ms : Nat) (args : List Value) (w : mj_M) (kp : Nat → Prop) (post : mj_R) : Prop := mj_Ev zG l D cA m_Sm_setRaised 0 0 mc ms args w kp post
abbrev E0_Sm_setRaised (l : Launch) (D : va_G) (cA : Nat → ClassId) (args : List Value) (w : mj_M) (r : Option Value) (w' : mj_M) : Prop := mj_Ev zG l D cA m_Sm_setRaised 0 0 0 0 args w (fun _ => True) (fun r1 w1 => r1 = r ∧ w1 = w')
theorem v_Sm_setRaised : mj_VW zG m_Sm_setRaised 1 := ⟨z3_44, z3_45, z1_6, z3_46, by decide, by decide, by decide +kernel⟩
abbrev E_Sm_emptyWindow (l : Launch) (D : va_G) (cA : Nat → ClassId) (mc ms : Nat) (args : List Value) (w : mj_M) (kp : Nat → Prop) (post : mj_R) : Prop := mj_Ev zG l D cA m_Sm_emptyWindow 0 0 mc ms args w kp post
abbrev E0_Sm_emptyWindow (l : Launch) (D : va_G) (cA : Nat → ClassId) (args : List Value) (w : mj_M) (r : Option Value) (w' : mj_M) : Prop := mj_Ev zG l D cA m_Sm_emptyWindow 0 0 0 0 args w (fun _ => True) (fun r1 w1 => r1 = r ∧ w1 = w')
theorem v_Sm_emptyWindow : mj_VW zG m_Sm_emptyWindow 0 := ⟨z1_100, zinP (q := (⟨"StreamWatch$Stream", "emptyWindow", "()V"⟩, 8)) (by decide +kernel), z1_6, z1_101, by decide, by decide, by decide +kernel⟩
abbrev E_Sm_placeOf (l : Launch) (D : va_G) (cA : Nat → ClassId) (mc ms : Nat) (args : List Value) (w : mj_M) (kp : Nat → Prop) (post : mj_R) : Prop := mj_Ev zG l D cA m_Sm_placeOf 0 0 mc ms args w kp post
abbrev E0_Sm_placeOf (l : Launch) (D : va_G) (cA : Nat → ClassId) (args : List Value) (w : mj_M) (r : Option Value) (w' : mj_M) : Prop := mj_Ev zG l D cA m_Sm_placeOf 0 0 0 0 args w (fun _ => True) (fun r1 w1 => r1 = r ∧ w1 = w')
theorem v_Sm_placeOf : mj_SW zG m_Sm_placeOf 1 := ⟨z2_187, z1_6, z2_188, by decide, by decide, by decide +kernel⟩
abbrev E_Wi_init (l : Launch) (D : va_G) (cA : Nat → ClassId) (mc ms : Nat) (args : List Value) (w : mj_M) (kp : Nat → Prop) (post : mj_R) : Prop := mj_Ev zG l D cA m_Wi_init 1 40 mc ms args w kp post
abbrev E0_Wi_init (l : Launch) (D : va_G) (cA : Nat → ClassId) (args : List Value) (w : mj_M) (r : Option Value) (w' : mj_M) : Prop := mj_Ev zG l D cA m_Wi_init 1 40 0 0 args w (fun _ => True) (fun r1 w1 => r1 = r ∧ w1 = w')
abbrev E_Wi_size (l : Launch) (D : va_G) (cA : Nat → ClassId) (mc ms : Nat) (args : List Value) (w : mj_M) (kp : Nat → Prop) (post : mj_R) : Prop := mj_Ev zG l D cA m_Wi_size 0 0 mc ms args w kp post
abbrev E0_Wi_size (l : Launch) (D : va_G) (cA : Nat → ClassId) (args : List Value) (w : mj_M) (r : Option Value) (w' : mj_M) : Prop := mj_Ev zG l D cA m_Wi_size 0 0 0 0 args w (fun _ => True) (fun r1 w1 => r1 = r ∧ w1 = w')
theorem v_Wi_size : mj_VW zG m_Wi_size 0 := ⟨z2_86, z2_87, z1_2, z2_88, by decide, by decide, by decide +kernel⟩
abbrev E_Wi_has (l : Launch) (D : va_G) (cA : Nat → ClassId) (mc ms : Nat) (args : List Value) (w : mj_M) (kp : Nat → Prop) (post : mj_R) : Prop := mj_Ev zG l D cA m_Wi_has 0 0 mc ms args w kp post
abbrev E0_Wi_has (l : Launch) (D : va_G) (cA : Nat → ClassId) (args : List Value) (w : mj_M) (r : Option Value) (w' : mj_M) : Prop := mj_Ev zG l D cA m_Wi_has 0 0 0 0 args w (fun _ => True) (fun r1 w1 => r1 = r ∧ w1 = w')
theorem v_Wi_has : mj_VW zG m_Wi_has 1 := ⟨z2_6, z2_7, z1_2, z2_8, by decide, by decide, by decide +kernel⟩
abbrev E_Wi_at (l : Launch) (D : va_G) (cA : Nat → ClassId) (mc ms : Nat) (args : List Value) (w : mj_M) (kp : Nat → Prop) (post : mj_R) : Prop := mj_Ev zG l D cA m_Wi_at 1 40 mc ms args w kp post
abbrev E0_Wi_at (l : Launch) (D : va_G) (cA : Nat → ClassId) (args : List Value) (w : mj_M) (r : Option Value) (w' : mj_M) : Prop := mj_Ev zG l D cA m_Wi_at 1 40 0 0 args w (fun _ => True) (fun r1 w1 => r1 = r ∧ w1 = w')
theorem v_Wi_at : mj_VW zG m_Wi_at 1 := ⟨z2_34, z2_35, z1_2, z2_36, by decide, by decide, by decide +kernel⟩
abbrev E_Wi_clear (l : Launch) (D : va_G) (cA : Nat → ClassId) (mc ms : Nat) (args : List Value) (w : mj_M) (kp : Nat → Prop) (post : mj_R) : Prop := mj_Ev zG l D cA m_Wi_clear 0 0 mc ms args w kp post
abbrev E0_Wi_clear (l : Launch) (D : va_G) (cA : Nat → ClassId) (args : List Value) (w : mj_M) (r : Option Value) (w' : mj_M) : Prop := mj_Ev zG l D cA m_Wi_clear 0 0 0 0 args w (fun _ => True) (fun r1 w1 => r1 = r ∧ w1 = w')
theorem v_Wi_clear : mj_VW zG m_Wi_clear 0 := ⟨z2_14, z2_15, z1_2, z2_16, by decide, by decide, by decide +kernel⟩
abbrev E_Wi_flip (l : Launch) (D : va_G) (cA : Nat → ClassId) (mc ms : Nat) (args : List Value) (w : mj_M) (kp : Nat → Prop) (post : mj_R) : Prop := mj_Ev zG l D cA m_Wi_flip 1 40 mc ms args w kp post
abbrev E0_Wi_flip (l : Launch) (D : va_G) (cA : Nat → ClassId) (args : List Value) (w : mj_M) (r : Option Value) (w' : mj_M) : Prop := mj_Ev zG l D cA m_Wi_flip 1 40 0 0 args w (fun _ => True) (fun r1 w1 => r1 = r ∧ w1 = w')
theorem v_Wi_flip : mj_VW zG m_Wi_flip 2 := ⟨z2_2, z2_3, z1_2, z2_4, by decide, by decide, by decide +kernel⟩
abbrev E_Wi_append (l : Launch) (D : va_G) (cA : Nat → ClassId) (mc ms : Nat) (args : List Value) (w : mj_M) (kp : Nat → Prop) (post : mj_R) : Prop := mj_Ev zG l D cA m_Wi_append 0 0 mc ms args w kp post
abbrev E0_Wi_append (l : Launch) (D : va_G) (cA : Nat → ClassId) (args : List Value) (w : mj_M) (r : Option Value) (w' : mj_M) : Prop := mj_Ev zG l D cA m_Wi_append 0 0 0 0 args w (fun _ => True) (fun r1 w1 => r1 = r ∧ w1 = w')
theorem v_Wi_append : mj_VW zG m_Wi_append 2 := ⟨z2_22, z2_23, z1_2, z2_24, by decide, by decide, by decide +kernel⟩
abbrev E_Wi_fault (l : Launch) (D : va_G) (cA : Nat → ClassId) (mc ms : Nat) (args : List Value) (w : mj_M) (kp : Nat → Prop) (post : mj_R) : Prop := mj_Ev zG l D cA m_Wi_fault 5 200 mc ms args w kp post
abbrev E0_Wi_fault (l : Launch) (D : va_G) (cA : Nat → ClassId) (args : List Value) (w : mj_M) (r : Option Value) (w' : mj_M) : Prop := mj_Ev zG l D cA m_Wi_fault 5 200 0 0 args w (fun _ => True) (fun r1 w1 => r1 = r ∧ w1 = w')
theorem v_Wi_fault : mj_VW zG m_Wi_fault 1 := ⟨z2_30, z2_31, z1_2, z2_32, by decide, by decide, by decide +kernel⟩
abbrev E_Wi_makeSumsRight (l : Launch) (D : va_G) (cA : Nat → ClassId) (mc ms : Nat) (args : List Value) (w : mj_M) (kp : Nat → Prop) (post : mj_R) : Prop := mj_Ev zG l D cA m_Wi_makeSumsRight 5 200 mc ms args w kp post
abbrev E0_Wi_makeSumsRight (l : Launch) (D : va_G) (cA : Nat → ClassId) (args : List Value) (w : mj_M) (r : Option Value) (w' : mj_M) : Prop := mj_Ev zG l D cA m_Wi_makeSumsRight 5 200 0 0 args w (fun _ => True) (fun r1 w1 => r1 = r ∧ w1 = w')
theorem v_Wi_makeSumsRight : mj_VW zG m_Wi_makeSumsRight 0 := ⟨z2_74, z2_75, z1_2, z2_76, by decide, by decide, by decide +kernel⟩
abbrev E_Wi_ipSize (l : Launch) (D : va_G) (cA : Nat → ClassId) (mc ms : Nat) (args : List Value) (w : mj_M) (kp : Nat → Prop) (post : mj_R) : Prop := mj_Ev zG l D cA m_Wi_ipSize 2 80 mc ms args w kp post
abbrev E0_Wi_ipSize (l : Launch) (D : va_G) (cA : Nat → ClassId) (args : List Value) (w : mj_M) (r : Option Value) (w' : mj_M) : Prop := mj_Ev zG l D cA m_Wi_ipSize 2 80 0 0 args w (fun _ => True) (fun r1 w1 => r1 = r ∧ w1 = w')
theorem v_Wi_ipSize : mj_VW zG m_Wi_ipSize 0 := ⟨z2_46, z2_47, z1_2, z2_48, by decide, by decide, by decide +kernel⟩
abbrev E_Wi_length (l : Launch) (D : va_G) (cA : Nat → ClassId) (mc ms : Nat) (args : List Value) (w : mj_M) (kp : Nat → Prop) (post : mj_R) : Prop := mj_Ev zG l D cA m_Wi_length 3 120 mc ms args w kp post
abbrev E0_Wi_length (l : Launch) (D : va_G) (cA : Nat → ClassId) (args : List Value) (w : mj_M) (r : Option Value) (w' : mj_M) : Prop := mj_Ev zG l D cA m_Wi_length 3 120 0 0 args w (fun _ => True) (fun r1 w1 => r1 = r ∧ w1 = w')
theorem v_Wi_length : mj_VW zG m_Wi_length 0 := ⟨z2_38, z2_39, z1_2, z2_40, by decide, by decide, by decide +kernel⟩
abbrev E_Wi_dataStart (l : Launch) (D : va_G) (cA : Nat → ClassId) (mc ms : Nat) (args : List Value) (w : mj_M) (kp : Nat → Prop) (post : mj_R) : Prop := mj_Ev zG l D cA m_Wi_dataStart 4 160 mc ms args w kp post
abbrev E0_Wi_dataStart (l : Launch) (D : va_G) (cA : Nat → ClassId) (args : List Value) (w : mj_M) (r : Option Value) (w' : mj_M) : Prop := mj_Ev zG l D cA m_Wi_dataStart 4 160 0 0 args w (fun _ => True) (fun r1 w1 => r1 = r ∧ w1 = w')
theorem v_Wi_dataStart : mj_VW zG m_Wi_dataStart 0 := ⟨z2_66, z2_67, z1_2, z2_68, by decide, by decide, by decide +kernel⟩
abbrev E_Wi_pairAt (l : Launch) (D : va_G) (cA : Nat → ClassId) (mc ms : Nat) (args : List Value) (w : mj_M) (kp : Nat → Prop) (post : mj_R) : Prop := mj_Ev zG l D cA m_Wi_pairAt 2 80 mc ms args w kp post
abbrev E0_Wi_pairAt (l : Launch) (D : va_G) (cA : Nat → ClassId) (args : List Value) (w : mj_M) (r : Option Value) (w' : mj_M) : Prop := mj_Ev zG l D cA m_Wi_pairAt 2 80 0 0 args w (fun _ => True) (fun r1 w1 => r1 = r ∧ w1 = w')
theorem v_Wi_pairAt : mj_VW zG m_Wi_pairAt 1 := ⟨z2_42, z2_43, z1_2, z2_44, by decide, by decide, by decide +kernel⟩
abbrev E_Wi_quadAt (l : Launch) (D : va_G) (cA : Nat → ClassId) (mc ms : Nat) (args : List Value) (w : mj_M) (kp : Nat → Prop) (post : mj_R) : Prop := mj_Ev zG l D cA m_Wi_quadAt 3 120 mc ms args w kp post
abbrev E0_Wi_quadAt (l : Launch) (D : va_G) (cA : Nat → ClassId) (args : List Value) (w : mj_M) (r : Option Value) (w' : mj_M) : Prop := mj_Ev zG l D cA m_Wi_quadAt 3 120 0 0 args w (fun _ => True) (fun r1 w1 => r1 = r ∧ w1 = w')
theorem v_Wi_quadAt : mj_VW zG m_Wi_quadAt 1 := ⟨z2_101, z2_102, z1_2, z2_103, by decide, by decide, by decide +kernel⟩
abbrev E_Wi_tcpWords (l : Launch) (D : va_G) (cA : Nat → ClassId) (mc ms : Nat) (args : List Value) (w : mj_M) (kp : Nat → Prop) (post : mj_R) : Prop := mj_Ev zG l D cA m_Wi_tcpWords 3 120 mc ms args w kp post
abbrev E0_Wi_tcpWords (l : Launch) (D : va_G) (cA : Nat → ClassId) (args : List Value) (w : mj_M) (r : Option Value) (w' : mj_M) : Prop := mj_Ev zG l D cA m_Wi_tcpWords 3 120 0 0 args w (fun _ => True) (fun r1 w1 => r1 = r ∧ w1 = w')
theorem v_Wi_tcpWords : mj_VW zG m_Wi_tcpWords 0 := ⟨z2_63, zinP (q := (⟨"StreamWatch$Wire", "tcpWords", "()I"⟩, 2)) (by decide +kernel), z1_2, z2_64, by decide, by decide, by decide +kernel⟩
abbrev E_Wi_ipSum (l : Launch) (D : va_G) (cA : Nat → ClassId) (mc ms : Nat) (args : List Value) (w : mj_M) (kp : Nat → Prop) (post : mj_R) : Prop := mj_Ev zG l D cA m_Wi_ipSum 3 120 mc ms args w kp post
abbrev E0_Wi_ipSum (l : Launch) (D : va_G) (cA : Nat → ClassId) (args : List Value) (w : mj_M) (r : Option Value) (w' : mj_M) : Prop := mj_Ev zG l D cA m_Wi_ipSum 3 120 0 0 args w (fun _ => True) (fun r1 w1 => r1 = r ∧ w1 = w')
theorem v_Wi_ipSum : mj_VW zG m_Wi_ipSum 0 := ⟨z2_51, zinP (q := (⟨"StreamWatch$Wire", "ipSum", "()I"⟩, 2)) (by decide +kernel), z1_2, z2_52, by decide, by decide, by decide +kernel⟩
abbrev E_Wi_tcpSum (l : Launch) (D : va_G) (cA : Nat → ClassId) (mc ms : Nat) (args : List Value) (w : mj_M) (kp : Nat → Prop) (post : mj_R) : Prop := mj_Ev zG l D cA m_Wi_tcpSum 4 160 mc ms args w kp post
abbrev E0_Wi_tcpSum (l : Launch) (D : va_G) (cA : Nat → ClassId) (args : List Value) (w : mj_M) (r : Option Value) (w' : mj_M) : Prop := mj_Ev zG l D cA m_Wi_tcpSum 4 160 0 0 args w (fun _ => True) (fun r1 w1 => r1 = r ∧ w1 = w')
theorem v_Wi_tcpSum : mj_VW zG m_Wi_tcpSum 0 := ⟨z2_71, zinP (q := (⟨"StreamWatch$Wire", "tcpSum", "()I"⟩, 2)) (by decide +kernel), z1_2, z2_72, by decide, by decide, by decide +kernel⟩
abbrev E_Wi_sumOf (l : Launch) (D : va_G) (cA : Nat → ClassId) (mc ms : Nat) (args : List Value) (w : mj_M) (kp : Nat → Prop) (post : mj_R) : Prop := mj_Ev zG l D cA m_Wi_sumOf 2 80 mc ms args w kp post
abbrev E0_Wi_sumOf (l : Launch) (D : va_G) (cA : Nat → ClassId) (args : List Value) (w : mj_M) (r : Option Value) (w' : mj_M) : Prop := mj_Ev zG l D cA m_Wi_sumOf 2 80 0 0 args w (fun _ => True) (fun r1 w1 => r1 = r ∧ w1 = w')
theorem v_Wi_sumOf : mj_VW zG m_Wi_sumOf 3 := ⟨z2_55, zinP (q := (⟨"StreamWatch$Wire", "sumOf", "(III)I"⟩, 2)) (by decide +kernel), z1_2, z2_56, by decide, by decide, by decide +kernel⟩
abbrev E_Wi_addToSum (l : Launch) (D : va_G) (cA : Nat → ClassId) (mc ms : Nat) (args : List Value) (w : mj_M) (kp : Nat → Prop) (post : mj_R) : Prop := mj_Ev zG l D cA m_Wi_addToSum 0 0 mc ms args w kp post
abbrev E0_Wi_addToSum (l : Launch) (D : va_G) (cA : Nat → ClassId) (args : List Value) (w : mj_M) (r : Option Value) (w' : mj_M) : Prop := mj_Ev zG l D cA m_Wi_addToSum 0 0 0 0 args w (fun _ => True) (fun r1 w1 => r1 = r ∧ w1 = w')
theorem v_Wi_addToSum : mj_SW zG m_Wi_addToSum 2 := ⟨z2_58, z1_2, z2_59, by decide, by decide, by decide +kernel⟩
abbrev E_Wi_setPair (l : Launch) (D : va_G) (cA : Nat → ClassId) (mc ms : Nat) (args : List Value) (w : mj_M) (kp : Nat → Prop) (post : mj_R) : Prop := mj_Ev zG l D cA m_Wi_setPair 1 40 mc ms args w kp post
abbrev E0_Wi_setPair (l : Launch) (D : va_G) (cA : Nat → ClassId) (args : List Value) (w : mj_M) (r : Option Value) (w' : mj_M) : Prop := mj_Ev zG l D cA m_Wi_setPair 1 40 0 0 args w (fun _ => True) (fun r1 w1 => r1 = r ∧ w1 = w')
theorem v_Wi_setPair : mj_VW zG m_Wi_setPair 2 := ⟨z2_79, zinP (q := (⟨"StreamWatch$Wire", "setPair", "(II)V"⟩, 2)) (by decide +kernel), z1_2, z2_80, by decide, by decide, by decide +kernel⟩
abbrev E_Sw_init (l : Launch) (D : va_G) (cA : Nat → ClassId) (mc ms : Nat) (args : List Value) (w : mj_M) (kp : Nat → Prop) (post : mj_R) : Prop := mj_Ev zG l D cA m_Sw_init 4 160 mc ms args w kp post
abbrev E0_Sw_init (l : Launch) (D : va_G) (cA : Nat → ClassId) (args : List Value) (w : mj_M) (r : Option Value) (w' : mj_M) : Prop := mj_Ev zG l D cA m_Sw_init 4 160 0 0 args w (fun _ => True) (fun r1 w1 => r1 = r ∧ w1 = w')
abbrev E_Sw_craft (l : Launch) (D : va_G) (cA : Nat → ClassId) (mc ms : Nat) (args : List Value) (w : mj_M) (kp : Nat → Prop) (post : mj_R) : Prop := mj_Ev zG l D cA m_Sw_craft 6 240 mc ms args w kp post
abbrev E0_Sw_craft (l : Launch) (D : va_G) (cA : Nat → ClassId) (args : List Value) (w : mj_M) (r : Option Value) (w' : mj_M) : Prop := mj_Ev zG l D cA m_Sw_craft 6 240 0 0 args w (fun _ => True) (fun r1 w1 => r1 = r ∧ w1 = w')
theorem v_Sw_craft : mj_VW zG m_Sw_craft 6 := ⟨z3_117, z3_118, z1_1, z3_119, by decide, by decide, by decide +kernel⟩
abbrev E_Sw_alter (l : Launch) (D : va_G) (cA : Nat → ClassId) (mc ms : Nat) (args : List Value) (w : mj_M) (kp : Nat → Prop) (post : mj_R) : Prop := mj_Ev zG l D cA m_Sw_alter 2 80 mc ms args w kp post
abbrev E0_Sw_alter (l : Launch) (D : va_G) (cA : Nat → ClassId) (args : List Value) (w : mj_M) (r : Option Value) (w' : mj_M) : Prop := mj_Ev zG l D cA m_Sw_alter 2 80 0 0 args w (fun _ => True) (fun r1 w1 => r1 = r ∧ w1 = w')
theorem v_Sw_alter : mj_VW zG m_Sw_alter 2 := ⟨z1_238, z1_239, z1_1, z2_0, by decide, by decide, by decide +kernel⟩
abbrev E_Sw_wipe (l : Launch) (D : va_G) (cA : Nat → ClassId) (mc ms : Nat) (args : List Value) (w : mj_M) (kp : Nat → Prop) (post : mj_R) : Prop := mj_Ev zG l D cA m_Sw_wipe 1 40 mc ms args w kp post
abbrev E0_Sw_wipe (l : Launch) (D : va_G) (cA : Nat → ClassId) (args : List Value) (w : mj_M) (r : Option Value) (w' : mj_M) : Prop := mj_Ev zG l D cA m_Sw_wipe 1 40 0 0 args w (fun _ => True) (fun r1 w1 => r1 = r ∧ w1 = w')
theorem v_Sw_wipe : mj_VW zG m_Sw_wipe 0 := ⟨z2_10, z2_11, z1_1, z2_12, by decide, by decide, by decide +kernel⟩
abbrev E_Sw_put (l : Launch) (D : va_G) (cA : Nat → ClassId) (mc ms : Nat) (args : List Value) (w : mj_M) (kp : Nat → Prop) (post : mj_R) : Prop := mj_Ev zG l D cA m_Sw_put 1 40 mc ms args w kp post
abbrev E0_Sw_put (l : Launch) (D : va_G) (cA : Nat → ClassId) (args : List Value) (w : mj_M) (r : Option Value) (w' : mj_M) : Prop := mj_Ev zG l D cA m_Sw_put 1 40 0 0 args w (fun _ => True) (fun r1 w1 => r1 = r ∧ w1 = w')
theorem v_Sw_put : mj_VW zG m_Sw_put 2 := ⟨z2_18, z2_19, z1_1, z2_20, by decide, by decide, by decide +kernel⟩
abbrev E_Sw_seal (l : Launch) (D : va_G) (cA : Nat → ClassId) (mc ms : Nat) (args : List Value) (w : mj_M) (kp : Nat → Prop) (post : mj_R) : Prop := mj_Ev zG l D cA m_Sw_seal 6 240 mc ms args w kp post
abbrev E0_Sw_seal (l : Launch) (D : va_G) (cA : Nat → ClassId) (args : List Value) (w : mj_M) (r : Option Value) (w' : mj_M) : Prop := mj_Ev zG l D cA m_Sw_seal 6 240 0 0 args w (fun _ => True) (fun r1 w1 => r1 = r ∧ w1 = w')
theorem v_Sw_seal : mj_VW zG m_Sw_seal 0 := ⟨z2_26, z2_27, z1_1, z2_28, by decide, by decide, by decide +kernel⟩
abbrev E_Sw_wire (l : Launch) (D : va_G) (cA : Nat → ClassId) (mc ms : Nat) (args : List Value) (w : mj_M) (kp : Nat → Prop) (post : mj_R) : Prop := mj_Ev zG l D cA m_Sw_wire 2 80 mc ms args w kp post
abbrev E0_Sw_wire (l : Launch) (D : va_G) (cA : Nat → ClassId) (args : List Value) (w : mj_M) (r : Option Value) (w' : mj_M) : Prop := mj_Ev zG l D cA m_Sw_wire 2 80 0 0 args w (fun _ => True) (fun r1 w1 => r1 = r ∧ w1 = w')
theorem v_Sw_wire : mj_VW zG m_Sw_wire 1 := ⟨z2_82, z2_83, z1_1, z2_84, by decide, by decide, by decide +kernel⟩
abbrev E_Sw_watch (l : Launch) (D : va_G) (cA : Nat → ClassId) (mc ms : Nat) (args : List Value) (w : mj_M) (kp : Nat → Prop) (post : mj_R) : Prop := mj_Ev zG l D cA m_Sw_watch 6 240 mc ms args w kp post
abbrev E0_Sw_watch (l : Launch) (D : va_G) (cA : Nat → ClassId) (args : List Value) (w : mj_M) (r : Option Value) (w' : mj_M) : Prop := mj_Ev zG l D cA m_Sw_watch 6 240 0 0 args w (fun _ => True) (fun r1 w1 => r1 = r ∧ w1 = w')
theorem v_Sw_watch : mj_VW zG m_Sw_watch 0 := ⟨z2_92, z2_93, z1_1, z2_94, by decide, by decide, by decide +kernel⟩
abbrev E_Sw_rule (l : Launch) (D : va_G) (cA : Nat → ClassId) (mc ms : Nat) (args : List Value) (w : mj_M) (kp : Nat → Prop) (post : mj_R) : Prop := mj_Ev zG l D cA m_Sw_rule 2 80 mc ms args w kp post
abbrev E0_Sw_rule (l : Launch) (D : va_G) (cA : Nat → ClassId) (args : List Value) (w : mj_M) (r : Option Value) (w' : mj_M) : Prop := mj_Ev zG l D cA m_Sw_rule 2 80 0 0 args w (fun _ => True) (fun r1 w1 => r1 = r ∧ w1 = w')
theorem v_Sw_rule : mj_VW zG m_Sw_rule 2 := ⟨z3_207, z3_208, z1_1, z3_209, by decide, by decide, by decide +kernel⟩
abbrev E_Sw_option (l : Launch) (D : va_G) (cA : Nat → ClassId) (mc ms : Nat) (args : List Value) (w : mj_M) (kp : Nat → Prop) (post : mj_R) : Prop := mj_Ev zG l D cA m_Sw_option 2 80 mc ms args w kp post
abbrev E0_Sw_option (l : Launch) (D : va_G) (cA : Nat → ClassId) (args : List Value) (w : mj_M) (r : Option Value) (w' : mj_M) : Prop := mj_Ev zG l D cA m_Sw_option 2 80 0 0 args w (fun _ => True) (fun r1 w1 => r1 = r ∧ w1 = w')
theorem v_Sw_option : mj_VW zG m_Sw_option 5 := ⟨z4_13, z4_14, z1_1, z4_15, by decide, by decide, by decide +kernel⟩
abbrev E_Sw_flow (l : Launch) (D : va_G) (cA : Nat → ClassId) (mc ms : Nat) (args : List Value) (w : mj_M) (kp : Nat → Prop) (post : mj_R) : Prop := mj_Ev zG l D cA m_Sw_flow 3 120 mc ms args w kp post
abbrev E0_Sw_flow (l : Launch) (D : va_G) (cA : Nat → ClassId) (args : List Value) (w : mj_M) (r : Option Value) (w' : mj_M) : Prop := mj_Ev zG l D cA m_Sw_flow 3 120 0 0 args w (fun _ => True) (fun r1 w1 => r1 = r ∧ w1 = w')
theorem v_Sw_flow : mj_VW zG m_Sw_flow 2 := ⟨z3_70, z3_71, z1_1, z3_72, by decide, by decide, by decide +kernel⟩
abbrev E_Sw_stream (l : Launch) (D : va_G) (cA : Nat → ClassId) (mc ms : Nat) (args : List Value) (w : mj_M) (kp : Nat → Prop) (post : mj_R) : Prop := mj_Ev zG l D cA m_Sw_stream 3 120 mc ms args w kp post
abbrev E0_Sw_stream (l : Launch) (D : va_G) (cA : Nat → ClassId) (args : List Value) (w : mj_M) (r : Option Value) (w' : mj_M) : Prop := mj_Ev zG l D cA m_Sw_stream 3 120 0 0 args w (fun _ => True) (fun r1 w1 => r1 = r ∧ w1 = w')
theorem v_Sw_stream : mj_VW zG m_Sw_stream 3 := ⟨z3_79, z3_80, z1_1, z3_81, by decide, by decide, by decide +kernel⟩
abbrev E_Sw_text (l : Launch) (D : va_G) (cA : Nat → ClassId) (mc ms : Nat) (args : List Value) (w : mj_M) (kp : Nat → Prop) (post : mj_R) : Prop := mj_Ev zG l D cA m_Sw_text 3 120 mc ms args w kp post
abbrev E0_Sw_text (l : Launch) (D : va_G) (cA : Nat → ClassId) (args : List Value) (w : mj_M) (r : Option Value) (w' : mj_M) : Prop := mj_Ev zG l D cA m_Sw_text 3 120 0 0 args w (fun _ => True) (fun r1 w1 => r1 = r ∧ w1 = w')
theorem v_Sw_text : mj_VW zG m_Sw_text 3 := ⟨z3_92, z3_93, z1_1, z3_94, by decide, by decide, by decide +kernel⟩
abbrev E_Sw_alerts (l : Launch) (D : va_G) (cA : Nat → ClassId) (mc ms : Nat) (args : List Value) (w : mj_M) (kp : Nat → Prop) (post : mj_R) : Prop := mj_Ev zG l D cA m_Sw_alerts 1 40 mc ms args w kp post
abbrev E0_Sw_alerts (l : Launch) (D : va_G) (cA : Nat → ClassId) (args : List Value) (w : mj_M) (r : Option Value) (w' : mj_M) : Prop := mj_Ev zG l D cA m_Sw_alerts 1 40 0 0 args w (fun _ => True) (fun r1 w1 => r1 = r ∧ w1 = w')
theorem v_Sw_alerts : mj_VW zG m_Sw_alerts 0 := ⟨z3_97, z3_98, z1_1, z3_99, by decide, by decide, by decide +kernel⟩
abbrev E_Sw_alert (l : Launch) (D : va_G) (cA : Nat → ClassId) (mc ms : Nat) (args : List Value) (w : mj_M) (kp : Nat → Prop) (post : mj_R) : Prop := mj_Ev zG l D cA m_Sw_alert 2 80 mc ms args w kp post
abbrev E0_Sw_alert (l : Launch) (D : va_G) (cA : Nat → ClassId) (args : List Value) (w : mj_M) (r : Option Value) (w' : mj_M) : Prop := mj_Ev zG l D cA m_Sw_alert 2 80 0 0 args w (fun _ => True) (fun r1 w1 => r1 = r ∧ w1 = w')
theorem v_Sw_alert : mj_VW zG m_Sw_alert 2 := ⟨z3_101, z3_102, z1_1, z3_103, by decide, by decide, by decide +kernel⟩
abbrev E_Sw_writeIpHeader (l : Launch) (D : va_G) (cA : Nat → ClassId) (mc ms : Nat) (args : List Value) (w : mj_M) (kp : Nat → Prop) (post : mj_R) : Prop := mj_Ev zG l D cA m_Sw_writeIpHeader 1 40 mc ms args w kp post
abbrev E0_Sw_writeIpHeader (l : Launch) (D : va_G) (cA : Nat → ClassId) (args : List Value) (w : mj_M) (r : Option Value) (w' : mj_M) : Prop := mj_Ev zG l D cA m_Sw_writeIpHeader 1 40 0 0 args w (fun _ => True) (fun r1 w1 => r1 = r ∧ w1 = w')
theorem v_Sw_writeIpHeader : mj_VW zG m_Sw_writeIpHeader 3 := ⟨z3_191, zinP (q := (⟨"StreamWatch", "writeIpHeader", "(III)V"⟩, 8)) (by decide +kernel), z1_1, z3_192, by decide, by decide, by decide +kernel⟩
abbrev E_Sw_writeTcpHeader (l : Launch) (D : va_G) (cA : Nat → ClassId) (mc ms : Nat) (args : List Value) (w : mj_M) (kp : Nat → Prop) (post : mj_R) : Prop := mj_Ev zG l D cA m_Sw_writeTcpHeader 1 40 mc ms args w kp post
abbrev E0_Sw_writeTcpHeader (l : Launch) (D : va_G) (cA : Nat → ClassId) (args : List Value) (w : mj_M) (r : Option Value) (w' : mj_M) : Prop := mj_Ev zG l D cA m_Sw_writeTcpHeader 1 40 0 0 args w (fun _ => True) (fun r1 w1 => r1 = r ∧ w1 = w')
theorem v_Sw_writeTcpHeader : mj_VW zG m_Sw_writeTcpHeader 4 := ⟨z3_199, zinP (q := (⟨"StreamWatch", "writeTcpHeader", "(IIII)V"⟩, 8)) (by decide +kernel), z1_1, z3_200, by decide, by decide, by decide +kernel⟩
abbrev E_Sw_flowOfPacket (l : Launch) (D : va_G) (cA : Nat → ClassId) (mc ms : Nat) (args : List Value) (w : mj_M) (kp : Nat → Prop) (post : mj_R) : Prop := mj_Ev zG l D cA m_Sw_flowOfPacket 4 160 mc ms args w kp post
abbrev E0_Sw_flowOfPacket (l : Launch) (D : va_G) (cA : Nat → ClassId) (args : List Value) (w : mj_M) (r : Option Value) (w' : mj_M) : Prop := mj_Ev zG l D cA m_Sw_flowOfPacket 4 160 0 0 args w (fun _ => True) (fun r1 w1 => r1 = r ∧ w1 = w')
theorem v_Sw_flowOfPacket : mj_VW zG m_Sw_flowOfPacket 0 := ⟨z2_114, zinP (q := (⟨"StreamWatch", "flowOfPacket", "()LStreamWatch$Flow;"⟩, 8)) (by decide +kernel), z1_1, z2_115, by decide, by decide, by decide +kernel⟩
abbrev E_Sw_receive (l : Launch) (D : va_G) (cA : Nat → ClassId) (mc ms : Nat) (args : List Value) (w : mj_M) (kp : Nat → Prop) (post : mj_R) : Prop := mj_Ev zG l D cA m_Sw_receive 5 200 mc ms args w kp post
abbrev E0_Sw_receive (l : Launch) (D : va_G) (cA : Nat → ClassId) (args : List Value) (w : mj_M) (r : Option Value) (w' : mj_M) : Prop := mj_Ev zG l D cA m_Sw_receive 5 200 0 0 args w (fun _ => True) (fun r1 w1 => r1 = r ∧ w1 = w')
theorem v_Sw_receive : mj_VW zG m_Sw_receive 2 := ⟨z2_168, zinP (q := (⟨"StreamWatch", "receive", "(LStreamWatch$Flow;I)V"⟩, 8)) (by decide +kernel), z1_1, z2_169, by decide, by decide, by decide +kernel⟩
abbrev E_Sw_holdData (l : Launch) (D : va_G) (cA : Nat → ClassId) (mc ms : Nat) (args : List Value) (w : mj_M) (kp : Nat → Prop) (post : mj_R) : Prop := mj_Ev zG l D cA m_Sw_holdData 2 80 mc ms args w kp post
abbrev E0_Sw_holdData (l : Launch) (D : va_G) (cA : Nat → ClassId) (args : List Value) (w : mj_M) (r : Option Value) (w' : mj_M) : Prop := mj_Ev zG l D cA m_Sw_holdData 2 80 0 0 args w (fun _ => True) (fun r1 w1 => r1 = r ∧ w1 = w')
theorem v_Sw_holdData : mj_VW zG m_Sw_holdData 1 := ⟨z2_180, zinP (q := (⟨"StreamWatch", "holdData", "(LStreamWatch$Stream;)V"⟩, 8)) (by decide +kernel), z1_1, z2_181, by decide, by decide, by decide +kernel⟩
abbrev E_Sw_raiseAlerts (l : Launch) (D : va_G) (cA : Nat → ClassId) (mc ms : Nat) (args : List Value) (w : mj_M) (kp : Nat → Prop) (post : mj_R) : Prop := mj_Ev zG l D cA m_Sw_raiseAlerts 4 160 mc ms args w kp post
abbrev E0_Sw_raiseAlerts (l : Launch) (D : va_G) (cA : Nat → ClassId) (args : List Value) (w : mj_M) (r : Option Value) (w' : mj_M) : Prop := mj_Ev zG l D cA m_Sw_raiseAlerts 4 160 0 0 args w (fun _ => True) (fun r1 w1 => r1 = r ∧ w1 = w')
theorem v_Sw_raiseAlerts : mj_VW zG m_Sw_raiseAlerts 3 := ⟨z2_199, zinP (q := (⟨"StreamWatch", "raiseAlerts", "(LStreamWatch$Flow;LStreamWatch$Stream;I)V"⟩, 8)) (by decide +kernel), z1_1, z2_200, by decide, by decide, by decide +kernel⟩
abbrev E_Sw_ruleAt (l : Launch) (D : va_G) (cA : Nat → ClassId) (mc ms : Nat) (args : List Value) (w : mj_M) (kp : Nat → Prop) (post : mj_R) : Prop := mj_Ev zG l D cA m_Sw_ruleAt 0 0 mc ms args w kp post
abbrev E0_Sw_ruleAt (l : Launch) (D : va_G) (cA : Nat → ClassId) (args : List Value) (w : mj_M) (r : Option Value) (w' : mj_M) : Prop := mj_Ev zG l D cA m_Sw_ruleAt 0 0 0 0 args w (fun _ => True) (fun r1 w1 => r1 = r ∧ w1 = w')
theorem v_Sw_ruleAt : mj_VW zG m_Sw_ruleAt 1 := ⟨z2_203, zinP (q := (⟨"StreamWatch", "ruleAt", "(I)LStreamWatch$Rule;"⟩, 8)) (by decide +kernel), z1_1, z2_204, by decide, by decide, by decide +kernel⟩
abbrev E_Sw_streamAt (l : Launch) (D : va_G) (cA : Nat → ClassId) (mc ms : Nat) (args : List Value) (w : mj_M) (kp : Nat → Prop) (post : mj_R) : Prop := mj_Ev zG l D cA m_Sw_streamAt 2 80 mc ms args w kp post
abbrev E0_Sw_streamAt (l : Launch) (D : va_G) (cA : Nat → ClassId) (args : List Value) (w : mj_M) (r : Option Value) (w' : mj_M) : Prop := mj_Ev zG l D cA m_Sw_streamAt 2 80 0 0 args w (fun _ => True) (fun r1 w1 => r1 = r ∧ w1 = w')
theorem v_Sw_streamAt : mj_VW zG m_Sw_streamAt 2 := ⟨z3_84, zinP (q := (⟨"StreamWatch", "streamAt", "(II)LStreamWatch$Stream;"⟩, 8)) (by decide +kernel), z1_1, z3_85, by decide, by decide, by decide +kernel⟩
abbrev E_Md_init (l : Launch) (D : va_G) (cA : Nat → ClassId) (mc ms : Nat) (args : List Value) (w : mj_M) (kp : Nat → Prop) (post : mj_R) : Prop := mj_Ev zG l D cA m_Md_init 1 40 mc ms args w kp post
abbrev E0_Md_init (l : Launch) (D : va_G) (cA : Nat → ClassId) (args : List Value) (w : mj_M) (r : Option Value) (w' : mj_M) : Prop := mj_Ev zG l D cA m_Md_init 1 40 0 0 args w (fun _ => True) (fun r1 w1 => r1 = r ∧ w1 = w')
abbrev E_Md_thrown (l : Launch) (D : va_G) (cA : Nat → ClassId) (mc ms : Nat) (args : List Value) (w : mj_M) (kp : Nat → Prop) (post : mj_R) : Prop := mj_Ev zG l D cA m_Md_thrown 0 0 mc ms args w kp post
abbrev E0_Md_thrown (l : Launch) (D : va_G) (cA : Nat → ClassId) (args : List Value) (w : mj_M) (r : Option Value) (w' : mj_M) : Prop := mj_Ev zG l D cA m_Md_thrown 0 0 0 0 args w (fun _ => True) (fun r1 w1 => r1 = r ∧ w1 = w')
theorem v_Md_thrown : mj_VW zG m_Md_thrown 0 := ⟨z4_166, z4_167, z1_10, z4_168, by decide, by decide, by decide +kernel⟩
abbrev E_Md_add (l : Launch) (D : va_G) (cA : Nat → ClassId) (mc ms : Nat) (args : List Value) (w : mj_M) (kp : Nat → Prop) (post : mj_R) : Prop := mj_Ev zG l D cA m_Md_add 0 0 mc ms args w kp post
abbrev E0_Md_add (l : Launch) (D : va_G) (cA : Nat → ClassId) (args : List Value) (w : mj_M) (r : Option Value) (w' : mj_M) : Prop := mj_Ev zG l D cA m_Md_add 0 0 0 0 args w (fun _ => True) (fun r1 w1 => r1 = r ∧ w1 = w')
theorem v_Md_add : mj_VW zG m_Md_add 1 := ⟨z4_181, zinP (q := (⟨"StreamWatchModel", "add", "(I)V"⟩, 33)) (by decide +kernel), z1_10, z4_182, by decide, by decide, by decide +kernel⟩
abbrev E_Md_addNumber (l : Launch) (D : va_G) (cA : Nat → ClassId) (mc ms : Nat) (args : List Value) (w : mj_M) (kp : Nat → Prop) (post : mj_R) : Prop := mj_Ev zG l D cA m_Md_addNumber 1 40 mc ms args w kp post
abbrev E0_Md_addNumber (l : Launch) (D : va_G) (cA : Nat → ClassId) (args : List Value) (w : mj_M) (r : Option Value) (w' : mj_M) : Prop := mj_Ev zG l D cA m_Md_addNumber 1 40 0 0 args w (fun _ => True) (fun r1 w1 => r1 = r ∧ w1 = w')
theorem v_Md_addNumber : mj_VW zG m_Md_addNumber 2 := ⟨z4_177, zinP (q := (⟨"StreamWatchModel", "addNumber", "(II)V"⟩, 33)) (by decide +kernel), z1_10, z4_178, by decide, by decide, by decide +kernel⟩
abbrev E_Md_craft (l : Launch) (D : va_G) (cA : Nat → ClassId) (mc ms : Nat) (args : List Value) (w : mj_M) (kp : Nat → Prop) (post : mj_R) : Prop := mj_Ev zG l D cA m_Md_craft 3 120 mc ms args w kp post
abbrev E0_Md_craft (l : Launch) (D : va_G) (cA : Nat → ClassId) (args : List Value) (w : mj_M) (r : Option Value) (w' : mj_M) : Prop := mj_Ev zG l D cA m_Md_craft 3 120 0 0 args w (fun _ => True) (fun r1 w1 => r1 = r ∧ w1 = w')
theorem v_Md_craft : mj_VW zG m_Md_craft 6 := ⟨z4_170, z4_171, z1_10, z4_172, by decide, by decide, by decide +kernel⟩
abbrev E_Md_alter (l : Launch) (D : va_G) (cA : Nat → ClassId) (mc ms : Nat) (args : List Value) (w : mj_M) (kp : Nat → Prop) (post : mj_R) : Prop := mj_Ev zG l D cA m_Md_alter 0 0 mc ms args w kp post
abbrev E0_Md_alter (l : Launch) (D : va_G) (cA : Nat → ClassId) (args : List Value) (w : mj_M) (r : Option Value) (w' : mj_M) : Prop := mj_Ev zG l D cA m_Md_alter 0 0 0 0 args w (fun _ => True) (fun r1 w1 => r1 = r ∧ w1 = w')
theorem v_Md_alter : mj_VW zG m_Md_alter 2 := ⟨z4_212, z4_213, z1_10, z4_214, by decide, by decide, by decide +kernel⟩
abbrev E_Md_wipe (l : Launch) (D : va_G) (cA : Nat → ClassId) (mc ms : Nat) (args : List Value) (w : mj_M) (kp : Nat → Prop) (post : mj_R) : Prop := mj_Ev zG l D cA m_Md_wipe 0 0 mc ms args w kp post
abbrev E0_Md_wipe (l : Launch) (D : va_G) (cA : Nat → ClassId) (args : List Value) (w : mj_M) (r : Option Value) (w' : mj_M) : Prop := mj_Ev zG l D cA m_Md_wipe 0 0 0 0 args w (fun _ => True) (fun r1 w1 => r1 = r ∧ w1 = w')
theorem v_Md_wipe : mj_VW zG m_Md_wipe 0 := ⟨z4_216, z4_217, z1_10, z4_218, by decide, by decide, by decide +kernel⟩
abbrev E_Md_put (l : Launch) (D : va_G) (cA : Nat → ClassId) (mc ms : Nat) (args : List Value) (w : mj_M) (kp : Nat → Prop) (post : mj_R) : Prop := mj_Ev zG l D cA m_Md_put 1 40 mc ms args w kp post
abbrev E0_Md_put (l : Launch) (D : va_G) (cA : Nat → ClassId) (args : List Value) (w : mj_M) (r : Option Value) (w' : mj_M) : Prop := mj_Ev zG l D cA m_Md_put 1 40 0 0 args w (fun _ => True) (fun r1 w1 => r1 = r ∧ w1 = w')
theorem v_Md_put : mj_VW zG m_Md_put 2 := ⟨z4_220, z4_221, z1_10, z4_222, by decide, by decide, by decide +kernel⟩
abbrev E_Md_wire (l : Launch) (D : va_G) (cA : Nat → ClassId) (mc ms : Nat) (args : List Value) (w : mj_M) (kp : Nat → Prop) (post : mj_R) : Prop := mj_Ev zG l D cA m_Md_wire 0 0 mc ms args w kp post
abbrev E0_Md_wire (l : Launch) (D : va_G) (cA : Nat → ClassId) (args : List Value) (w : mj_M) (r : Option Value) (w' : mj_M) : Prop := mj_Ev zG l D cA m_Md_wire 0 0 0 0 args w (fun _ => True) (fun r1 w1 => r1 = r ∧ w1 = w')
theorem v_Md_wire : mj_VW zG m_Md_wire 1 := ⟨z4_224, z4_225, z1_10, z4_226, by decide, by decide, by decide +kernel⟩
abbrev E_Md_pair (l : Launch) (D : va_G) (cA : Nat → ClassId) (mc ms : Nat) (args : List Value) (w : mj_M) (kp : Nat → Prop) (post : mj_R) : Prop := mj_Ev zG l D cA m_Md_pair 0 0 mc ms args w kp post
abbrev E0_Md_pair (l : Launch) (D : va_G) (cA : Nat → ClassId) (args : List Value) (w : mj_M) (r : Option Value) (w' : mj_M) : Prop := mj_Ev zG l D cA m_Md_pair 0 0 0 0 args w (fun _ => True) (fun r1 w1 => r1 = r ∧ w1 = w')
theorem v_Md_pair : mj_VW zG m_Md_pair 1 := ⟨z4_209, zinP (q := (⟨"StreamWatchModel", "pair", "(I)I"⟩, 33)) (by decide +kernel), z1_10, z4_210, by decide, by decide, by decide +kernel⟩
abbrev E_Md_four (l : Launch) (D : va_G) (cA : Nat → ClassId) (mc ms : Nat) (args : List Value) (w : mj_M) (kp : Nat → Prop) (post : mj_R) : Prop := mj_Ev zG l D cA m_Md_four 1 40 mc ms args w kp post
abbrev E0_Md_four (l : Launch) (D : va_G) (cA : Nat → ClassId) (args : List Value) (w : mj_M) (r : Option Value) (w' : mj_M) : Prop := mj_Ev zG l D cA m_Md_four 1 40 0 0 args w (fun _ => True) (fun r1 w1 => r1 = r ∧ w1 = w')
theorem v_Md_four : mj_VW zG m_Md_four 1 := ⟨z5_13, zinP (q := (⟨"StreamWatchModel", "four", "(I)I"⟩, 33)) (by decide +kernel), z1_10, z5_14, by decide, by decide, by decide +kernel⟩
abbrev E_Md_total (l : Launch) (D : va_G) (cA : Nat → ClassId) (mc ms : Nat) (args : List Value) (w : mj_M) (kp : Nat → Prop) (post : mj_R) : Prop := mj_Ev zG l D cA m_Md_total 0 0 mc ms args w kp post
abbrev E0_Md_total (l : Launch) (D : va_G) (cA : Nat → ClassId) (args : List Value) (w : mj_M) (r : Option Value) (w' : mj_M) : Prop := mj_Ev zG l D cA m_Md_total 0 0 0 0 args w (fun _ => True) (fun r1 w1 => r1 = r ∧ w1 = w')
theorem v_Md_total : mj_VW zG m_Md_total 2 := ⟨z4_198, zinP (q := (⟨"StreamWatchModel", "total", "(II)I"⟩, 33)) (by decide +kernel), z1_10, z4_199, by decide, by decide, by decide +kernel⟩
abbrev E_Md_folded (l : Launch) (D : va_G) (cA : Nat → ClassId) (mc ms : Nat) (args : List Value) (w : mj_M) (kp : Nat → Prop) (post : mj_R) : Prop := mj_Ev zG l D cA m_Md_folded 0 0 mc ms args w kp post
abbrev E0_Md_folded (l : Launch) (D : va_G) (cA : Nat → ClassId) (args : List Value) (w : mj_M) (r : Option Value) (w' : mj_M) : Prop := mj_Ev zG l D cA m_Md_folded 0 0 0 0 args w (fun _ => True) (fun r1 w1 => r1 = r ∧ w1 = w')
theorem v_Md_folded : mj_SW zG m_Md_folded 1 := ⟨z4_201, z1_10, z4_202, by decide, by decide, by decide +kernel⟩
abbrev E_Md_headerSize (l : Launch) (D : va_G) (cA : Nat → ClassId) (mc ms : Nat) (args : List Value) (w : mj_M) (kp : Nat → Prop) (post : mj_R) : Prop := mj_Ev zG l D cA m_Md_headerSize 0 0 mc ms args w kp post
abbrev E0_Md_headerSize (l : Launch) (D : va_G) (cA : Nat → ClassId) (args : List Value) (w : mj_M) (r : Option Value) (w' : mj_M) : Prop := mj_Ev zG l D cA m_Md_headerSize 0 0 0 0 args w (fun _ => True) (fun r1 w1 => r1 = r ∧ w1 = w')
theorem v_Md_headerSize : mj_VW zG m_Md_headerSize 0 := ⟨z4_194, zinP (q := (⟨"StreamWatchModel", "headerSize", "()I"⟩, 33)) (by decide +kernel), z1_10, z4_195, by decide, by decide, by decide +kernel⟩
abbrev E_Md_headerSum (l : Launch) (D : va_G) (cA : Nat → ClassId) (mc ms : Nat) (args : List Value) (w : mj_M) (kp : Nat → Prop) (post : mj_R) : Prop := mj_Ev zG l D cA m_Md_headerSum 1 40 mc ms args w kp post
abbrev E0_Md_headerSum (l : Launch) (D : va_G) (cA : Nat → ClassId) (args : List Value) (w : mj_M) (r : Option Value) (w' : mj_M) : Prop := mj_Ev zG l D cA m_Md_headerSum 1 40 0 0 args w (fun _ => True) (fun r1 w1 => r1 = r ∧ w1 = w')
theorem v_Md_headerSum : mj_VW zG m_Md_headerSum 0 := ⟨z4_190, zinP (q := (⟨"StreamWatchModel", "headerSum", "()I"⟩, 33)) (by decide +kernel), z1_10, z4_191, by decide, by decide, by decide +kernel⟩
abbrev E_Md_partSum (l : Launch) (D : va_G) (cA : Nat → ClassId) (mc ms : Nat) (args : List Value) (w : mj_M) (kp : Nat → Prop) (post : mj_R) : Prop := mj_Ev zG l D cA m_Md_partSum 1 40 mc ms args w kp post
abbrev E0_Md_partSum (l : Launch) (D : va_G) (cA : Nat → ClassId) (args : List Value) (w : mj_M) (r : Option Value) (w' : mj_M) : Prop := mj_Ev zG l D cA m_Md_partSum 1 40 0 0 args w (fun _ => True) (fun r1 w1 => r1 = r ∧ w1 = w')
theorem v_Md_partSum : mj_VW zG m_Md_partSum 0 := ⟨z4_205, zinP (q := (⟨"StreamWatchModel", "partSum", "()I"⟩, 33)) (by decide +kernel), z1_10, z4_206, by decide, by decide, by decide +kernel⟩
abbrev E_Md_reason (l : Launch) (D : va_G) (cA : Nat → ClassId) (mc ms : Nat) (args : List Value) (w : mj_M) (kp : Nat → Prop) (post : mj_R) : Prop := mj_Ev zG l D cA m_Md_reason 2 80 mc ms args w kp post
abbrev E0_Md_reason (l : Launch) (D : va_G) (cA : Nat → ClassId) (args : List Value) (w : mj_M) (r : Option Value) (w' : mj_M) : Prop := mj_Ev zG l D cA m_Md_reason 2 80 0 0 args w (fun _ => True) (fun r1 w1 => r1 = r ∧ w1 = w')
theorem v_Md_reason : mj_VW zG m_Md_reason 1 := ⟨z4_233, zinP (q := (⟨"StreamWatchModel", "reason", "(Z)I"⟩, 33)) (by decide +kernel), z1_10, z4_234, by decide, by decide, by decide +kernel⟩
abbrev E_Md_close (l : Launch) (D : va_G) (cA : Nat → ClassId) (mc ms : Nat) (args : List Value) (w : mj_M) (kp : Nat → Prop) (post : mj_R) : Prop := mj_Ev zG l D cA m_Md_close 2 80 mc ms args w kp post
abbrev E0_Md_close (l : Launch) (D : va_G) (cA : Nat → ClassId) (args : List Value) (w : mj_M) (r : Option Value) (w' : mj_M) : Prop := mj_Ev zG l D cA m_Md_close 2 80 0 0 args w (fun _ => True) (fun r1 w1 => r1 = r ∧ w1 = w')
theorem v_Md_close : mj_VW zG m_Md_close 0 := ⟨z4_185, zinP (q := (⟨"StreamWatchModel", "close", "()V"⟩, 33)) (by decide +kernel), z1_10, z4_186, by decide, by decide, by decide +kernel⟩
abbrev E_Md_seal (l : Launch) (D : va_G) (cA : Nat → ClassId) (mc ms : Nat) (args : List Value) (w : mj_M) (kp : Nat → Prop) (post : mj_R) : Prop := mj_Ev zG l D cA m_Md_seal 3 120 mc ms args w kp post
abbrev E0_Md_seal (l : Launch) (D : va_G) (cA : Nat → ClassId) (args : List Value) (w : mj_M) (r : Option Value) (w' : mj_M) : Prop := mj_Ev zG l D cA m_Md_seal 3 120 0 0 args w (fun _ => True) (fun r1 w1 => r1 = r ∧ w1 = w')
theorem v_Md_seal : mj_VW zG m_Md_seal 0 := ⟨z4_228, z4_229, z1_10, z4_230, by decide, by decide, by decide +kernel⟩
abbrev E_Md_rule (l : Launch) (D : va_G) (cA : Nat → ClassId) (mc ms : Nat) (args : List Value) (w : mj_M) (kp : Nat → Prop) (post : mj_R) : Prop := mj_Ev zG l D cA m_Md_rule 0 0 mc ms args w kp post
abbrev E0_Md_rule (l : Launch) (D : va_G) (cA : Nat → ClassId) (args : List Value) (w : mj_M) (r : Option Value) (w' : mj_M) : Prop := mj_Ev zG l D cA m_Md_rule 0 0 0 0 args w (fun _ => True) (fun r1 w1 => r1 = r ∧ w1 = w')
theorem v_Md_rule : mj_VW zG m_Md_rule 2 := ⟨z4_236, z4_237, z1_10, z4_238, by decide, by decide, by decide +kernel⟩
abbrev E_Md_option (l : Launch) (D : va_G) (cA : Nat → ClassId) (mc ms : Nat) (args : List Value) (w : mj_M) (kp : Nat → Prop) (post : mj_R) : Prop := mj_Ev zG l D cA m_Md_option 0 0 mc ms args w kp post
abbrev E0_Md_option (l : Launch) (D : va_G) (cA : Nat → ClassId) (args : List Value) (w : mj_M) (r : Option Value) (w' : mj_M) : Prop := mj_Ev zG l D cA m_Md_option 0 0 0 0 args w (fun _ => True) (fun r1 w1 => r1 = r ∧ w1 = w')
theorem v_Md_option : mj_VW zG m_Md_option 5 := ⟨z5_0, z5_1, z1_10, z5_2, by decide, by decide, by decide +kernel⟩
abbrev E_Md_upper (l : Launch) (D : va_G) (cA : Nat → ClassId) (mc ms : Nat) (args : List Value) (w : mj_M) (kp : Nat → Prop) (post : mj_R) : Prop := mj_Ev zG l D cA m_Md_upper 0 0 mc ms args w kp post
abbrev E0_Md_upper (l : Launch) (D : va_G) (cA : Nat → ClassId) (args : List Value) (w : mj_M) (r : Option Value) (w' : mj_M) : Prop := mj_Ev zG l D cA m_Md_upper 0 0 0 0 args w (fun _ => True) (fun r1 w1 => r1 = r ∧ w1 = w')
theorem v_Md_upper : mj_SW zG m_Md_upper 1 := ⟨z5_52, z1_10, z5_53, by decide, by decide, by decide +kernel⟩
abbrev E_Md_found (l : Launch) (D : va_G) (cA : Nat → ClassId) (mc ms : Nat) (args : List Value) (w : mj_M) (kp : Nat → Prop) (post : mj_R) : Prop := mj_Ev zG l D cA m_Md_found 1 40 mc ms args w kp post
abbrev E0_Md_found (l : Launch) (D : va_G) (cA : Nat → ClassId) (args : List Value) (w : mj_M) (r : Option Value) (w' : mj_M) : Prop := mj_Ev zG l D cA m_Md_found 1 40 0 0 args w (fun _ => True) (fun r1 w1 => r1 = r ∧ w1 = w')
theorem v_Md_found : mj_VW zG m_Md_found 4 := ⟨z5_49, zinP (q := (⟨"StreamWatchModel", "found", "(IIII)Z"⟩, 33)) (by decide +kernel), z1_10, z5_50, by decide, by decide, by decide +kernel⟩
abbrev E_Md_base (l : Launch) (D : va_G) (cA : Nat → ClassId) (mc ms : Nat) (args : List Value) (w : mj_M) (kp : Nat → Prop) (post : mj_R) : Prop := mj_Ev zG l D cA m_Md_base 0 0 mc ms args w kp post
abbrev E0_Md_base (l : Launch) (D : va_G) (cA : Nat → ClassId) (args : List Value) (w : mj_M) (r : Option Value) (w' : mj_M) : Prop := mj_Ev zG l D cA m_Md_base 0 0 0 0 args w (fun _ => True) (fun r1 w1 => r1 = r ∧ w1 = w')
theorem v_Md_base : mj_VW zG m_Md_base 2 := ⟨z5_45, zinP (q := (⟨"StreamWatchModel", "base", "(II)I"⟩, 33)) (by decide +kernel), z1_10, z5_46, by decide, by decide, by decide +kernel⟩
abbrev E_Md_clean (l : Launch) (D : va_G) (cA : Nat → ClassId) (mc ms : Nat) (args : List Value) (w : mj_M) (kp : Nat → Prop) (post : mj_R) : Prop := mj_Ev zG l D cA m_Md_clean 2 80 mc ms args w kp post
abbrev E0_Md_clean (l : Launch) (D : va_G) (cA : Nat → ClassId) (args : List Value) (w : mj_M) (r : Option Value) (w' : mj_M) : Prop := mj_Ev zG l D cA m_Md_clean 2 80 0 0 args w (fun _ => True) (fun r1 w1 => r1 = r ∧ w1 = w')
theorem v_Md_clean : mj_VW zG m_Md_clean 2 := ⟨z5_41, zinP (q := (⟨"StreamWatchModel", "clean", "(II)Z"⟩, 33)) (by decide +kernel), z1_10, z5_42, by decide, by decide, by decide +kernel⟩
abbrev E_Md_holdsOn (l : Launch) (D : va_G) (cA : Nat → ClassId) (mc ms : Nat) (args : List Value) (w : mj_M) (kp : Nat → Prop) (post : mj_R) : Prop := mj_Ev zG l D cA m_Md_holdsOn 3 120 mc ms args w kp post
abbrev E0_Md_holdsOn (l : Launch) (D : va_G) (cA : Nat → ClassId) (args : List Value) (w : mj_M) (r : Option Value) (w' : mj_M) : Prop := mj_Ev zG l D cA m_Md_holdsOn 3 120 0 0 args w (fun _ => True) (fun r1 w1 => r1 = r ∧ w1 = w')
theorem v_Md_holdsOn : mj_VW zG m_Md_holdsOn 2 := ⟨z5_37, zinP (q := (⟨"StreamWatchModel", "holdsOn", "(II)Z"⟩, 33)) (by decide +kernel), z1_10, z5_38, by decide, by decide, by decide +kernel⟩
abbrev E_Md_look (l : Launch) (D : va_G) (cA : Nat → ClassId) (mc ms : Nat) (args : List Value) (w : mj_M) (kp : Nat → Prop) (post : mj_R) : Prop := mj_Ev zG l D cA m_Md_look 4 160 mc ms args w kp post
abbrev E0_Md_look (l : Launch) (D : va_G) (cA : Nat → ClassId) (args : List Value) (w : mj_M) (r : Option Value) (w' : mj_M) : Prop := mj_Ev zG l D cA m_Md_look 4 160 0 0 args w (fun _ => True) (fun r1 w1 => r1 = r ∧ w1 = w')
theorem v_Md_look : mj_VW zG m_Md_look 1 := ⟨z5_33, zinP (q := (⟨"StreamWatchModel", "look", "(I)I"⟩, 33)) (by decide +kernel), z1_10, z5_34, by decide, by decide, by decide +kernel⟩
abbrev E_Md_begin (l : Launch) (D : va_G) (cA : Nat → ClassId) (mc ms : Nat) (args : List Value) (w : mj_M) (kp : Nat → Prop) (post : mj_R) : Prop := mj_Ev zG l D cA m_Md_begin 2 80 mc ms args w kp post
abbrev E0_Md_begin (l : Launch) (D : va_G) (cA : Nat → ClassId) (args : List Value) (w : mj_M) (r : Option Value) (w' : mj_M) : Prop := mj_Ev zG l D cA m_Md_begin 2 80 0 0 args w (fun _ => True) (fun r1 w1 => r1 = r ∧ w1 = w')
theorem v_Md_begin : mj_VW zG m_Md_begin 2 := ⟨z5_21, zinP (q := (⟨"StreamWatchModel", "begin", "(II)V"⟩, 33)) (by decide +kernel), z1_10, z5_22, by decide, by decide, by decide +kernel⟩
abbrev E_Md_room (l : Launch) (D : va_G) (cA : Nat → ClassId) (mc ms : Nat) (args : List Value) (w : mj_M) (kp : Nat → Prop) (post : mj_R) : Prop := mj_Ev zG l D cA m_Md_room 0 0 mc ms args w kp post
abbrev E0_Md_room (l : Launch) (D : va_G) (cA : Nat → ClassId) (args : List Value) (w : mj_M) (r : Option Value) (w' : mj_M) : Prop := mj_Ev zG l D cA m_Md_room 0 0 0 0 args w (fun _ => True) (fun r1 w1 => r1 = r ∧ w1 = w')
theorem v_Md_room : mj_VW zG m_Md_room 0 := ⟨z5_17, zinP (q := (⟨"StreamWatchModel", "room", "()I"⟩, 33)) (by decide +kernel), z1_10, z5_18, by decide, by decide, by decide +kernel⟩
abbrev E_Md_find (l : Launch) (D : va_G) (cA : Nat → ClassId) (mc ms : Nat) (args : List Value) (w : mj_M) (kp : Nat → Prop) (post : mj_R) : Prop := mj_Ev zG l D cA m_Md_find 2 80 mc ms args w kp post
abbrev E0_Md_find (l : Launch) (D : va_G) (cA : Nat → ClassId) (args : List Value) (w : mj_M) (r : Option Value) (w' : mj_M) : Prop := mj_Ev zG l D cA m_Md_find 2 80 0 0 args w (fun _ => True) (fun r1 w1 => r1 = r ∧ w1 = w')
theorem v_Md_find : mj_VW zG m_Md_find 1 := ⟨z5_9, zinP (q := (⟨"StreamWatchModel", "find", "(I)I"⟩, 33)) (by decide +kernel), z1_10, z5_10, by decide, by decide, by decide +kernel⟩
abbrev E_Md_hold (l : Launch) (D : va_G) (cA : Nat → ClassId) (mc ms : Nat) (args : List Value) (w : mj_M) (kp : Nat → Prop) (post : mj_R) : Prop := mj_Ev zG l D cA m_Md_hold 0 0 mc ms args w kp post
abbrev E0_Md_hold (l : Launch) (D : va_G) (cA : Nat → ClassId) (args : List Value) (w : mj_M) (r : Option Value) (w' : mj_M) : Prop := mj_Ev zG l D cA m_Md_hold 0 0 0 0 args w (fun _ => True) (fun r1 w1 => r1 = r ∧ w1 = w')
theorem v_Md_hold : mj_VW zG m_Md_hold 3 := ⟨z5_25, zinP (q := (⟨"StreamWatchModel", "hold", "(III)V"⟩, 33)) (by decide +kernel), z1_10, z5_26, by decide, by decide, by decide +kernel⟩
abbrev E_Md_grow (l : Launch) (D : va_G) (cA : Nat → ClassId) (mc ms : Nat) (args : List Value) (w : mj_M) (kp : Nat → Prop) (post : mj_R) : Prop := mj_Ev zG l D cA m_Md_grow 5 200 mc ms args w kp post
abbrev E0_Md_grow (l : Launch) (D : va_G) (cA : Nat → ClassId) (args : List Value) (w : mj_M) (r : Option Value) (w' : mj_M) : Prop := mj_Ev zG l D cA m_Md_grow 5 200 0 0 args w (fun _ => True) (fun r1 w1 => r1 = r ∧ w1 = w')
theorem v_Md_grow : mj_VW zG m_Md_grow 1 := ⟨z5_29, zinP (q := (⟨"StreamWatchModel", "grow", "(I)I"⟩, 33)) (by decide +kernel), z1_10, z5_30, by decide, by decide, by decide +kernel⟩
abbrev E_Md_watch (l : Launch) (D : va_G) (cA : Nat → ClassId) (mc ms : Nat) (args : List Value) (w : mj_M) (kp : Nat → Prop) (post : mj_R) : Prop := mj_Ev zG l D cA m_Md_watch 6 240 mc ms args w kp post
abbrev E0_Md_watch (l : Launch) (D : va_G) (cA : Nat → ClassId) (args : List Value) (w : mj_M) (r : Option Value) (w' : mj_M) : Prop := mj_Ev zG l D cA m_Md_watch 6 240 0 0 args w (fun _ => True) (fun r1 w1 => r1 = r ∧ w1 = w')
theorem v_Md_watch : mj_VW zG m_Md_watch 0 := ⟨z5_4, z5_5, z1_10, z5_6, by decide, by decide, by decide +kernel⟩
abbrev E_Md_isFlow (l : Launch) (D : va_G) (cA : Nat → ClassId) (mc ms : Nat) (args : List Value) (w : mj_M) (kp : Nat → Prop) (post : mj_R) : Prop := mj_Ev zG l D cA m_Md_isFlow 0 0 mc ms args w kp post
abbrev E0_Md_isFlow (l : Launch) (D : va_G) (cA : Nat → ClassId) (args : List Value) (w : mj_M) (r : Option Value) (w' : mj_M) : Prop := mj_Ev zG l D cA m_Md_isFlow 0 0 0 0 args w (fun _ => True) (fun r1 w1 => r1 = r ∧ w1 = w')
theorem v_Md_isFlow : mj_VW zG m_Md_isFlow 1 := ⟨z5_60, zinP (q := (⟨"StreamWatchModel", "isFlow", "(I)Z"⟩, 33)) (by decide +kernel), z1_10, z5_61, by decide, by decide, by decide +kernel⟩
abbrev E_Md_flow (l : Launch) (D : va_G) (cA : Nat → ClassId) (mc ms : Nat) (args : List Value) (w : mj_M) (kp : Nat → Prop) (post : mj_R) : Prop := mj_Ev zG l D cA m_Md_flow 1 40 mc ms args w kp post
abbrev E0_Md_flow (l : Launch) (D : va_G) (cA : Nat → ClassId) (args : List Value) (w : mj_M) (r : Option Value) (w' : mj_M) : Prop := mj_Ev zG l D cA m_Md_flow 1 40 0 0 args w (fun _ => True) (fun r1 w1 => r1 = r ∧ w1 = w')
theorem v_Md_flow : mj_VW zG m_Md_flow 2 := ⟨z5_55, z5_56, z1_10, z5_57, by decide, by decide, by decide +kernel⟩
abbrev E_Md_stream (l : Launch) (D : va_G) (cA : Nat → ClassId) (mc ms : Nat) (args : List Value) (w : mj_M) (kp : Nat → Prop) (post : mj_R) : Prop := mj_Ev zG l D cA m_Md_stream 1 40 mc ms args w kp post
abbrev E0_Md_stream (l : Launch) (D : va_G) (cA : Nat → ClassId) (args : List Value) (w : mj_M) (r : Option Value) (w' : mj_M) : Prop := mj_Ev zG l D cA m_Md_stream 1 40 0 0 args w (fun _ => True) (fun r1 w1 => r1 = r ∧ w1 = w')
theorem v_Md_stream : mj_VW zG m_Md_stream 3 := ⟨z5_63, z5_64, z1_10, z5_65, by decide, by decide, by decide +kernel⟩
abbrev E_Md_text (l : Launch) (D : va_G) (cA : Nat → ClassId) (mc ms : Nat) (args : List Value) (w : mj_M) (kp : Nat → Prop) (post : mj_R) : Prop := mj_Ev zG l D cA m_Md_text 1 40 mc ms args w kp post
abbrev E0_Md_text (l : Launch) (D : va_G) (cA : Nat → ClassId) (args : List Value) (w : mj_M) (r : Option Value) (w' : mj_M) : Prop := mj_Ev zG l D cA m_Md_text 1 40 0 0 args w (fun _ => True) (fun r1 w1 => r1 = r ∧ w1 = w')
theorem v_Md_text : mj_VW zG m_Md_text 3 := ⟨z5_67, z5_68, z1_10, z5_69, by decide, by decide, by decide +kernel⟩
abbrev E_Md_alerts (l : Launch) (D : va_G) (cA : Nat → ClassId) (mc ms : Nat) (args : List Value) (w : mj_M) (kp : Nat → Prop) (post : mj_R) : Prop := mj_Ev zG l D cA m_Md_alerts 0 0 mc ms args w kp post
abbrev E0_Md_alerts (l : Launch) (D : va_G) (cA : Nat → ClassId) (args : List Value) (w : mj_M) (r : Option Value) (w' : mj_M) : Prop := mj_Ev zG l D cA m_Md_alerts 0 0 0 0 args w (fun _ => True) (fun r1 w1 => r1 = r ∧ w1 = w')
theorem v_Md_alerts : mj_VW zG m_Md_alerts 0 := ⟨z5_71, z5_72, z1_10, z5_73, by decide, by decide, by decide +kernel⟩
abbrev E_Md_alert (l : Launch) (D : va_G) (cA : Nat → ClassId) (mc ms : Nat) (args : List Value) (w : mj_M) (kp : Nat → Prop) (post : mj_R) : Prop := mj_Ev zG l D cA m_Md_alert 0 0 mc ms args w kp post
abbrev E0_Md_alert (l : Launch) (D : va_G) (cA : Nat → ClassId) (args : List Value) (w : mj_M) (r : Option Value) (w' : mj_M) : Prop := mj_Ev zG l D cA m_Md_alert 0 0 0 0 args w (fun _ => True) (fun r1 w1 => r1 = r ∧ w1 = w')
theorem v_Md_alert : mj_VW zG m_Md_alert 2 := ⟨z5_75, z5_76, z1_10, z5_77, by decide, by decide, by decide +kernel⟩
abbrev E_Lw_cell (l : Launch) (D : va_G) (cA : Nat → ClassId) (mc ms : Nat) (args : List Value) (w : mj_M) (kp : Nat → Prop) (post : mj_R) : Prop := mj_Ev zG l D cA m_Lw_cell 7 280 mc ms args w kp post
abbrev E0_Lw_cell (l : Launch) (D : va_G) (cA : Nat → ClassId) (args : List Value) (w : mj_M) (r : Option Value) (w' : mj_M) : Prop := mj_Ev zG l D cA m_Lw_cell 7 280 0 0 args w (fun _ => True) (fun r1 w1 => r1 = r ∧ w1 = w')
theorem v_Lw_cell : mj_SW zG m_Lw_cell 2 := ⟨z3_110, z1_0, z3_111, by decide, by decide, by decide +kernel⟩
theorem l_Fl_init_34 : Cond.methodLink "StreamWatch$Flow" 29 (m_Sm_init).1 ∈ zTb := z1_94
theorem l_Fl_init_45 : Cond.methodLink "StreamWatch$Flow" 29 (m_Sm_init).1 ∈ zTb := z1_94
theorem l_Fl_open_41 : Cond.methodLink "StreamWatch$Flow" 55 (m_Sm_reset).1 ∈ zTb := z2_149
theorem l_Fl_open_48 : Cond.methodLink "StreamWatch$Flow" 55 (m_Sm_reset).1 ∈ zTb := z2_149
theorem l_Fl_freeIfBothEnded_4 : Cond.methodLink "StreamWatch$Flow" 58 (m_Sm_hasEnded).1 ∈ zTb := z3_64
theorem l_Fl_freeIfBothEnded_14 : Cond.methodLink "StreamWatch$Flow" 58 (m_Sm_hasEnded).1 ∈ zTb := z3_64
theorem l_Fl_freeIfBothEnded_21 : Cond.methodLink "StreamWatch$Flow" 62 (m_Fl_free).1 ∈ zTb := z3_68
theorem l_Fl_wayOf_9 : Cond.methodLink "StreamWatch$Flow" 65 (m_Fl_isClient).1 ∈ zTb := z2_132
theorem l_Fl_wayOf_26 : Cond.methodLink "StreamWatch$Flow" 69 (m_Fl_isServer).1 ∈ zTb := z2_136
theorem l_Fl_wayOf_43 : Cond.methodLink "StreamWatch$Flow" 69 (m_Fl_isServer).1 ∈ zTb := z2_136
theorem l_Fl_wayOf_60 : Cond.methodLink "StreamWatch$Flow" 65 (m_Fl_isClient).1 ∈ zTb := z2_132
theorem l_Ft_at_15 : Cond.methodLink "StreamWatch$FlowTable" 22 (m_Fl_isLive).1 ∈ zTb := z2_124
theorem l_Ft_of_9 : Cond.methodLink "StreamWatch$FlowTable" 26 (m_Ft_at).1 ∈ zTb := z2_120
theorem l_Ft_of_19 : Cond.methodLink "StreamWatch$FlowTable" 30 (m_Fl_wayOf).1 ∈ zTb := z2_128
theorem l_Ft_open_15 : Cond.methodLink "StreamWatch$FlowTable" 22 (m_Fl_isLive).1 ∈ zTb := z2_124
theorem l_Ft_open_27 : Cond.methodLink "StreamWatch$FlowTable" 22 (m_Fl_isLive).1 ∈ zTb := z2_124
theorem l_Ft_open_64 : Cond.methodLink "StreamWatch$FlowTable" 37 (m_Fl_open).1 ∈ zTb := z2_145
theorem l_Ft_heardAfter_11 : Cond.methodLink "StreamWatch$FlowTable" 26 (m_Ft_at).1 ∈ zTb := z2_120
theorem l_Mk_markStartOnly_18 : Cond.methodLink "StreamWatch$Marks" 23 (m_Mk_set).1 ∈ zTb := z2_225
theorem l_Mk_markStartOnly_29 : Cond.methodLink "StreamWatch$Marks" 27 (m_Mk_settle).1 ∈ zTb := z2_229
theorem l_Op_standsAt_7 : Cond.methodLink "StreamWatch$Option" 35 (m_Sm_size).1 ∈ zTb := z3_9
theorem l_Op_standsAt_53 : Cond.methodLink "StreamWatch$Option" 40 (m_Sm_byteAt).1 ∈ zTb := z3_10
theorem l_Op_standsAt_56 : Cond.methodLink "StreamWatch$Option" 44 (m_Op_folded).1 ∈ zTb := z3_14
theorem l_Op_standsAt_62 : Cond.methodLink "StreamWatch$Option" 44 (m_Op_folded).1 ∈ zTb := z3_14
theorem l_Pk_read_1 : Cond.methodLink "StreamWatch$Packet" 36 (m_Wi_ipSize).1 ∈ zTb := z2_99
theorem l_Pk_read_9 : Cond.methodLink "StreamWatch$Packet" 42 (m_Wi_quadAt).1 ∈ zTb := z2_100
theorem l_Pk_read_19 : Cond.methodLink "StreamWatch$Packet" 42 (m_Wi_quadAt).1 ∈ zTb := z2_100
theorem l_Pk_read_28 : Cond.methodLink "StreamWatch$Packet" 46 (m_Wi_pairAt).1 ∈ zTb := z2_104
theorem l_Pk_read_39 : Cond.methodLink "StreamWatch$Packet" 46 (m_Wi_pairAt).1 ∈ zTb := z2_104
theorem l_Pk_read_51 : Cond.methodLink "StreamWatch$Packet" 49 (m_Wi_at).1 ∈ zTb := z2_105
theorem l_Pk_read_62 : Cond.methodLink "StreamWatch$Packet" 42 (m_Wi_quadAt).1 ∈ zTb := z2_100
theorem l_Pk_read_67 : Cond.methodLink "StreamWatch$Packet" 52 (m_Pk_hasFlag).1 ∈ zTb := z2_106
theorem l_Pk_read_84 : Cond.methodLink "StreamWatch$Packet" 56 (m_Wi_dataStart).1 ∈ zTb := z2_110
theorem l_Pk_read_92 : Cond.methodLink "StreamWatch$Packet" 58 (m_Wi_length).1 ∈ zTb := z2_111
theorem l_Se_holds_1 : Cond.methodLink "StreamWatch$Search" 19 (m_Sm_size).1 ∈ zTb := z2_217
theorem l_Se_holds_10 : Cond.methodLink "StreamWatch$Search" 25 (m_Mk_markStartOnly).1 ∈ zTb := z2_221
theorem l_Se_holds_14 : Cond.methodLink "StreamWatch$Search" 29 (m_Ru_size).1 ∈ zTb := z2_233
theorem l_Se_holds_33 : Cond.methodLink "StreamWatch$Search" 29 (m_Ru_size).1 ∈ zTb := z2_233
theorem l_Se_holds_47 : Cond.methodLink "StreamWatch$Search" 32 (m_Ru_at).1 ∈ zTb := z2_237
theorem l_Se_holds_63 : Cond.methodLink "StreamWatch$Search" 36 (m_Se_find).1 ∈ zTb := z3_1
theorem l_Se_holds_78 : Cond.methodLink "StreamWatch$Search" 46 (m_Se_dropBases).1 ∈ zTb := z3_21
theorem l_Se_holds_88 : Cond.methodLink "StreamWatch$Search" 50 (m_Se_moveBases).1 ∈ zTb := z3_35
theorem l_Se_holds_96 : Cond.methodLink "StreamWatch$Search" 53 (m_Mk_settle).1 ∈ zTb := z3_20
theorem l_Se_holds_105 : Cond.methodLink "StreamWatch$Search" 56 (m_Mk_isAnyIn).1 ∈ zTb := z3_25
theorem l_Se_find_1 : Cond.methodLink "StreamWatch$Search" 19 (m_Sm_size).1 ∈ zTb := z2_217
theorem l_Se_find_24 : Cond.methodLink "StreamWatch$Search" 60 (m_Op_standsAt).1 ∈ zTb := z3_5
theorem l_Se_find_27 : Cond.methodLink "StreamWatch$Search" 64 (m_Mk_set).1 ∈ zTb := z3_19
theorem l_Se_find_41 : Cond.methodLink "StreamWatch$Search" 53 (m_Mk_settle).1 ∈ zTb := z3_20
theorem l_Se_dropBases_39 : Cond.methodLink "StreamWatch$Search" 56 (m_Mk_isAnyIn).1 ∈ zTb := z3_25
theorem l_Se_dropBases_51 : Cond.methodLink "StreamWatch$Search" 64 (m_Mk_set).1 ∈ zTb := z3_19
theorem l_Se_moveBases_12 : Cond.methodLink "StreamWatch$Search" 25 (m_Mk_markStartOnly).1 ∈ zTb := z2_221
theorem l_Se_moveBases_36 : Cond.methodLink "StreamWatch$Search" 80 (m_Mk_has).1 ∈ zTb := z3_39
theorem l_Se_moveBases_60 : Cond.methodLink "StreamWatch$Search" 56 (m_Mk_isAnyIn).1 ∈ zTb := z3_25
theorem l_Se_moveBases_80 : Cond.methodLink "StreamWatch$Search" 64 (m_Mk_set).1 ∈ zTb := z3_19
theorem l_Sm_init_51 : Cond.methodLink "StreamWatch$Stream" 38 (m_Sm_emptyWindow).1 ∈ zTb := z1_98
theorem l_Sm_reset_1 : Cond.methodLink "StreamWatch$Stream" 38 (m_Sm_emptyWindow).1 ∈ zTb := z1_98
theorem l_Sm_hold_22 : Cond.methodLink "StreamWatch$Stream" 41 (m_Sm_placeOf).1 ∈ zTb := z2_186
theorem l_Sm_isNextHeld_8 : Cond.methodLink "StreamWatch$Stream" 41 (m_Sm_placeOf).1 ∈ zTb := z2_186
theorem l_Sm_takeNext_4 : Cond.methodLink "StreamWatch$Stream" 41 (m_Sm_placeOf).1 ∈ zTb := z2_186
theorem l_Wi_at_2 : Cond.methodLink "StreamWatch$Wire" 17 (m_Wi_has).1 ∈ zTb := z2_5
theorem l_Wi_flip_2 : Cond.methodLink "StreamWatch$Wire" 17 (m_Wi_has).1 ∈ zTb := z2_5
theorem l_Wi_fault_13 : Cond.methodLink "StreamWatch$Wire" 21 (m_Wi_at).1 ∈ zTb := z2_33
theorem l_Wi_fault_23 : Cond.methodLink "StreamWatch$Wire" 21 (m_Wi_at).1 ∈ zTb := z2_33
theorem l_Wi_fault_34 : Cond.methodLink "StreamWatch$Wire" 25 (m_Wi_length).1 ∈ zTb := z2_37
theorem l_Wi_fault_45 : Cond.methodLink "StreamWatch$Wire" 25 (m_Wi_length).1 ∈ zTb := z2_37
theorem l_Wi_fault_49 : Cond.methodLink "StreamWatch$Wire" 29 (m_Wi_ipSize).1 ∈ zTb := z2_45
theorem l_Wi_fault_65 : Cond.methodLink "StreamWatch$Wire" 32 (m_Wi_ipSum).1 ∈ zTb := z2_49
theorem l_Wi_fault_78 : Cond.methodLink "StreamWatch$Wire" 36 (m_Wi_pairAt).1 ∈ zTb := z2_41
theorem l_Wi_fault_93 : Cond.methodLink "StreamWatch$Wire" 21 (m_Wi_at).1 ∈ zTb := z2_33
theorem l_Wi_fault_105 : Cond.methodLink "StreamWatch$Wire" 39 (m_Wi_tcpWords).1 ∈ zTb := z2_61
theorem l_Wi_fault_113 : Cond.methodLink "StreamWatch$Wire" 39 (m_Wi_tcpWords).1 ∈ zTb := z2_61
theorem l_Wi_fault_122 : Cond.methodLink "StreamWatch$Wire" 42 (m_Wi_dataStart).1 ∈ zTb := z2_65
theorem l_Wi_fault_126 : Cond.methodLink "StreamWatch$Wire" 25 (m_Wi_length).1 ∈ zTb := z2_37
theorem l_Wi_fault_140 : Cond.methodLink "StreamWatch$Wire" 45 (m_Wi_tcpSum).1 ∈ zTb := z2_69
theorem l_Wi_makeSumsRight_1 : Cond.methodLink "StreamWatch$Wire" 29 (m_Wi_ipSize).1 ∈ zTb := z2_45
theorem l_Wi_makeSumsRight_12 : Cond.methodLink "StreamWatch$Wire" 48 (m_Wi_setPair).1 ∈ zTb := z2_77
theorem l_Wi_makeSumsRight_21 : Cond.methodLink "StreamWatch$Wire" 32 (m_Wi_ipSum).1 ∈ zTb := z2_49
theorem l_Wi_makeSumsRight_25 : Cond.methodLink "StreamWatch$Wire" 48 (m_Wi_setPair).1 ∈ zTb := z2_77
theorem l_Wi_makeSumsRight_31 : Cond.methodLink "StreamWatch$Wire" 48 (m_Wi_setPair).1 ∈ zTb := z2_77
theorem l_Wi_makeSumsRight_39 : Cond.methodLink "StreamWatch$Wire" 45 (m_Wi_tcpSum).1 ∈ zTb := z2_69
theorem l_Wi_makeSumsRight_43 : Cond.methodLink "StreamWatch$Wire" 48 (m_Wi_setPair).1 ∈ zTb := z2_77
theorem l_Wi_ipSize_2 : Cond.methodLink "StreamWatch$Wire" 21 (m_Wi_at).1 ∈ zTb := z2_33
theorem l_Wi_length_2 : Cond.methodLink "StreamWatch$Wire" 36 (m_Wi_pairAt).1 ∈ zTb := z2_41
theorem l_Wi_dataStart_1 : Cond.methodLink "StreamWatch$Wire" 29 (m_Wi_ipSize).1 ∈ zTb := z2_45
theorem l_Wi_dataStart_5 : Cond.methodLink "StreamWatch$Wire" 39 (m_Wi_tcpWords).1 ∈ zTb := z2_61
theorem l_Wi_pairAt_2 : Cond.methodLink "StreamWatch$Wire" 21 (m_Wi_at).1 ∈ zTb := z2_33
theorem l_Wi_pairAt_12 : Cond.methodLink "StreamWatch$Wire" 21 (m_Wi_at).1 ∈ zTb := z2_33
theorem l_Wi_quadAt_2 : Cond.methodLink "StreamWatch$Wire" 36 (m_Wi_pairAt).1 ∈ zTb := z2_41
theorem l_Wi_quadAt_12 : Cond.methodLink "StreamWatch$Wire" 36 (m_Wi_pairAt).1 ∈ zTb := z2_41
theorem l_Wi_tcpWords_2 : Cond.methodLink "StreamWatch$Wire" 29 (m_Wi_ipSize).1 ∈ zTb := z2_45
theorem l_Wi_tcpWords_8 : Cond.methodLink "StreamWatch$Wire" 21 (m_Wi_at).1 ∈ zTb := z2_33
theorem l_Wi_ipSum_3 : Cond.methodLink "StreamWatch$Wire" 29 (m_Wi_ipSize).1 ∈ zTb := z2_45
theorem l_Wi_ipSum_7 : Cond.methodLink "StreamWatch$Wire" 52 (m_Wi_sumOf).1 ∈ zTb := z2_53
theorem l_Wi_tcpSum_6 : Cond.methodLink "StreamWatch$Wire" 52 (m_Wi_sumOf).1 ∈ zTb := z2_53
theorem l_Wi_tcpSum_13 : Cond.methodLink "StreamWatch$Wire" 56 (m_Wi_addToSum).1 ∈ zTb := z2_57
theorem l_Wi_tcpSum_19 : Cond.methodLink "StreamWatch$Wire" 25 (m_Wi_length).1 ∈ zTb := z2_37
theorem l_Wi_tcpSum_23 : Cond.methodLink "StreamWatch$Wire" 29 (m_Wi_ipSize).1 ∈ zTb := z2_45
theorem l_Wi_tcpSum_27 : Cond.methodLink "StreamWatch$Wire" 56 (m_Wi_addToSum).1 ∈ zTb := z2_57
theorem l_Wi_tcpSum_33 : Cond.methodLink "StreamWatch$Wire" 29 (m_Wi_ipSize).1 ∈ zTb := z2_45
theorem l_Wi_tcpSum_37 : Cond.methodLink "StreamWatch$Wire" 25 (m_Wi_length).1 ∈ zTb := z2_37
theorem l_Wi_tcpSum_41 : Cond.methodLink "StreamWatch$Wire" 52 (m_Wi_sumOf).1 ∈ zTb := z2_53
theorem l_Wi_sumOf_25 : Cond.methodLink "StreamWatch$Wire" 21 (m_Wi_at).1 ∈ zTb := z2_33
theorem l_Wi_sumOf_39 : Cond.methodLink "StreamWatch$Wire" 21 (m_Wi_at).1 ∈ zTb := z2_33
theorem l_Wi_sumOf_48 : Cond.methodLink "StreamWatch$Wire" 56 (m_Wi_addToSum).1 ∈ zTb := z2_57
theorem l_Wi_setPair_2 : Cond.methodLink "StreamWatch$Wire" 17 (m_Wi_has).1 ∈ zTb := z2_5
theorem l_Wi_setPair_12 : Cond.methodLink "StreamWatch$Wire" 17 (m_Wi_has).1 ∈ zTb := z2_5
theorem l_Sw_init_31 : Cond.methodLink "StreamWatch" 25 (m_Ft_init).1 ∈ zTb := z1_81
theorem l_Sw_craft_65 : Cond.methodLink "StreamWatch" 69 (m_Wi_clear).1 ∈ zTb := z2_13
theorem l_Sw_craft_73 : Cond.methodLink "StreamWatch" 72 (m_Sw_writeIpHeader).1 ∈ zTb := z3_189
theorem l_Sw_craft_82 : Cond.methodLink "StreamWatch" 76 (m_Sw_writeTcpHeader).1 ∈ zTb := z3_197
theorem l_Sw_craft_93 : Cond.methodLink "StreamWatch" 80 (m_Wi_append).1 ∈ zTb := z2_21
theorem l_Sw_craft_101 : Cond.methodLink "StreamWatch" 84 (m_Wi_makeSumsRight).1 ∈ zTb := z2_73
theorem l_Sw_craft_108 : Cond.methodLink "StreamWatch" 87 (m_Wi_size).1 ∈ zTb := z2_85
theorem l_Sw_alter_6 : Cond.methodLink "StreamWatch" 91 (m_Wi_flip).1 ∈ zTb := z2_1
theorem l_Sw_wipe_4 : Cond.methodLink "StreamWatch" 69 (m_Wi_clear).1 ∈ zTb := z2_13
theorem l_Sw_put_17 : Cond.methodLink "StreamWatch" 80 (m_Wi_append).1 ∈ zTb := z2_21
theorem l_Sw_seal_5 : Cond.methodLink "StreamWatch" 95 (m_Wi_fault).1 ∈ zTb := z2_29
theorem l_Sw_seal_17 : Cond.methodLink "StreamWatch" 84 (m_Wi_makeSumsRight).1 ∈ zTb := z2_73
theorem l_Sw_wire_9 : Cond.methodLink "StreamWatch" 87 (m_Wi_size).1 ∈ zTb := z2_85
theorem l_Sw_wire_18 : Cond.methodLink "StreamWatch" 99 (m_Wi_has).1 ∈ zTb := z2_89
theorem l_Sw_wire_29 : Cond.methodLink "StreamWatch" 103 (m_Wi_at).1 ∈ zTb := z2_90
theorem l_Sw_watch_5 : Cond.methodLink "StreamWatch" 95 (m_Wi_fault).1 ∈ zTb := z2_29
theorem l_Sw_watch_25 : Cond.methodLink "StreamWatch" 107 (m_Pk_read).1 ∈ zTb := z2_95
theorem l_Sw_watch_29 : Cond.methodLink "StreamWatch" 111 (m_Sw_flowOfPacket).1 ∈ zTb := z2_112
theorem l_Sw_watch_45 : Cond.methodLink "StreamWatch" 115 (m_Ft_hear).1 ∈ zTb := z2_153
theorem l_Sw_watch_52 : Cond.methodLink "StreamWatch" 119 (m_Al_total).1 ∈ zTb := z2_157
theorem l_Sw_watch_61 : Cond.methodLink "StreamWatch" 122 (m_Pk_hasFlag).1 ∈ zTb := z2_140
theorem l_Sw_watch_68 : Cond.methodLink "StreamWatch" 125 (m_Fl_free).1 ∈ zTb := z2_161
theorem l_Sw_watch_81 : Cond.methodLink "StreamWatch" 130 (m_Fl_wayOf).1 ∈ zTb := z2_165
theorem l_Sw_watch_84 : Cond.methodLink "StreamWatch" 134 (m_Sw_receive).1 ∈ zTb := z2_166
theorem l_Sw_watch_91 : Cond.methodLink "StreamWatch" 119 (m_Al_total).1 ∈ zTb := z2_157
theorem l_Sw_rule_72 : Cond.methodLink "StreamWatch" 148 (m_Ru_init).1 ∈ zTb := z3_230
theorem l_Sw_option_96 : Cond.methodLink "StreamWatch" 159 (m_Sw_ruleAt).1 ∈ zTb := z2_201
theorem l_Sw_option_118 : Cond.methodLink "StreamWatch" 165 (m_Ru_size).1 ∈ zTb := z4_21
theorem l_Sw_option_149 : Cond.methodLink "StreamWatch" 170 (m_Op_init).1 ∈ zTb := z4_24
theorem l_Sw_option_152 : Cond.methodLink "StreamWatch" 173 (m_Ru_add).1 ∈ zTb := z4_55
theorem l_Sw_option_157 : Cond.methodLink "StreamWatch" 165 (m_Ru_size).1 ∈ zTb := z4_21
theorem l_Sw_flow_5 : Cond.methodLink "StreamWatch" 177 (m_Ft_at).1 ∈ zTb := z3_73
theorem l_Sw_flow_77 : Cond.methodLink "StreamWatch" 192 (m_Ft_heardAfter).1 ∈ zTb := z3_74
theorem l_Sw_stream_3 : Cond.methodLink "StreamWatch" 196 (m_Sw_streamAt).1 ∈ zTb := z3_82
theorem l_Sw_stream_50 : Cond.methodLink "StreamWatch" 200 (m_Sm_size).1 ∈ zTb := z3_47
theorem l_Sw_stream_56 : Cond.methodLink "StreamWatch" 203 (m_Sm_next).1 ∈ zTb := z3_52
theorem l_Sw_stream_62 : Cond.methodLink "StreamWatch" 206 (m_Sm_heldCount).1 ∈ zTb := z3_86
theorem l_Sw_stream_68 : Cond.methodLink "StreamWatch" 209 (m_Sm_hasEnded).1 ∈ zTb := z3_90
theorem l_Sw_text_3 : Cond.methodLink "StreamWatch" 196 (m_Sw_streamAt).1 ∈ zTb := z3_82
theorem l_Sw_text_20 : Cond.methodLink "StreamWatch" 213 (m_Sm_byteAt).1 ∈ zTb := z3_95
theorem l_Sw_alerts_4 : Cond.methodLink "StreamWatch" 119 (m_Al_total).1 ∈ zTb := z2_157
theorem l_Sw_alert_6 : Cond.methodLink "StreamWatch" 216 (m_Al_read).1 ∈ zTb := z3_104
theorem l_Sw_writeIpHeader_14 : Cond.methodLink "StreamWatch" 80 (m_Wi_append).1 ∈ zTb := z2_21
theorem l_Sw_writeIpHeader_28 : Cond.methodLink "StreamWatch" 80 (m_Wi_append).1 ∈ zTb := z2_21
theorem l_Sw_writeIpHeader_38 : Cond.methodLink "StreamWatch" 80 (m_Wi_append).1 ∈ zTb := z2_21
theorem l_Sw_writeIpHeader_50 : Cond.methodLink "StreamWatch" 80 (m_Wi_append).1 ∈ zTb := z2_21
theorem l_Sw_writeIpHeader_72 : Cond.methodLink "StreamWatch" 80 (m_Wi_append).1 ∈ zTb := z2_21
theorem l_Sw_writeIpHeader_94 : Cond.methodLink "StreamWatch" 80 (m_Wi_append).1 ∈ zTb := z2_21
theorem l_Sw_writeTcpHeader_25 : Cond.methodLink "StreamWatch" 80 (m_Wi_append).1 ∈ zTb := z2_21
theorem l_Sw_writeTcpHeader_47 : Cond.methodLink "StreamWatch" 80 (m_Wi_append).1 ∈ zTb := z2_21
theorem l_Sw_writeTcpHeader_58 : Cond.methodLink "StreamWatch" 80 (m_Wi_append).1 ∈ zTb := z2_21
theorem l_Sw_writeTcpHeader_68 : Cond.methodLink "StreamWatch" 80 (m_Wi_append).1 ∈ zTb := z2_21
theorem l_Sw_writeTcpHeader_87 : Cond.methodLink "StreamWatch" 80 (m_Wi_append).1 ∈ zTb := z2_21
theorem l_Sw_writeTcpHeader_98 : Cond.methodLink "StreamWatch" 80 (m_Wi_append).1 ∈ zTb := z2_21
theorem l_Sw_flowOfPacket_8 : Cond.methodLink "StreamWatch" 228 (m_Ft_of).1 ∈ zTb := z2_116
theorem l_Sw_flowOfPacket_23 : Cond.methodLink "StreamWatch" 122 (m_Pk_hasFlag).1 ∈ zTb := z2_140
theorem l_Sw_flowOfPacket_35 : Cond.methodLink "StreamWatch" 122 (m_Pk_hasFlag).1 ∈ zTb := z2_140
theorem l_Sw_flowOfPacket_59 : Cond.methodLink "StreamWatch" 232 (m_Ft_open).1 ∈ zTb := z2_141
theorem l_Sw_receive_2 : Cond.methodLink "StreamWatch" 235 (m_Fl_streamOf).1 ∈ zTb := z2_170
theorem l_Sw_receive_19 : Cond.methodLink "StreamWatch" 242 (m_Sm_begin).1 ∈ zTb := z2_174
theorem l_Sw_receive_24 : Cond.methodLink "StreamWatch" 246 (m_Sw_holdData).1 ∈ zTb := z2_178
theorem l_Sw_receive_38 : Cond.methodLink "StreamWatch" 250 (m_Sm_isNextHeld).1 ∈ zTb := z2_189
theorem l_Sw_receive_45 : Cond.methodLink "StreamWatch" 253 (m_Sm_takeNext).1 ∈ zTb := z2_193
theorem l_Sw_receive_55 : Cond.methodLink "StreamWatch" 256 (m_Sw_raiseAlerts).1 ∈ zTb := z2_197
theorem l_Sw_receive_69 : Cond.methodLink "StreamWatch" 122 (m_Pk_hasFlag).1 ∈ zTb := z2_140
theorem l_Sw_receive_76 : Cond.methodLink "StreamWatch" 203 (m_Sm_next).1 ∈ zTb := z3_52
theorem l_Sw_receive_98 : Cond.methodLink "StreamWatch" 263 (m_Sm_end).1 ∈ zTb := z3_56
theorem l_Sw_receive_102 : Cond.methodLink "StreamWatch" 266 (m_Fl_freeIfBothEnded).1 ∈ zTb := z3_60
theorem l_Sw_holdData_36 : Cond.methodLink "StreamWatch" 103 (m_Wi_at).1 ∈ zTb := z2_90
theorem l_Sw_holdData_43 : Cond.methodLink "StreamWatch" 272 (m_Sm_hold).1 ∈ zTb := z2_182
theorem l_Sw_raiseAlerts_15 : Cond.methodLink "StreamWatch" 159 (m_Sw_ruleAt).1 ∈ zTb := z2_201
theorem l_Sw_raiseAlerts_32 : Cond.methodLink "StreamWatch" 276 (m_Ru_isFor).1 ∈ zTb := z2_205
theorem l_Sw_raiseAlerts_41 : Cond.methodLink "StreamWatch" 279 (m_Sm_hasRaised).1 ∈ zTb := z2_209
theorem l_Sw_raiseAlerts_57 : Cond.methodLink "StreamWatch" 282 (m_Se_holds).1 ∈ zTb := z2_213
theorem l_Sw_raiseAlerts_66 : Cond.methodLink "StreamWatch" 286 (m_Sm_setRaised).1 ∈ zTb := z3_43
theorem l_Sw_raiseAlerts_81 : Cond.methodLink "StreamWatch" 200 (m_Sm_size).1 ∈ zTb := z3_47
theorem l_Sw_raiseAlerts_84 : Cond.methodLink "StreamWatch" 289 (m_Al_add).1 ∈ zTb := z3_48
theorem l_Sw_streamAt_5 : Cond.methodLink "StreamWatch" 177 (m_Ft_at).1 ∈ zTb := z3_73
theorem l_Sw_streamAt_19 : Cond.methodLink "StreamWatch" 235 (m_Fl_streamOf).1 ∈ zTb := z2_170
theorem l_Md_addNumber_15 : Cond.methodLink "StreamWatchModel" 100 (m_Md_add).1 ∈ zTb := z4_179
theorem l_Md_craft_68 : Cond.methodLink "StreamWatchModel" 106 (m_Md_addNumber).1 ∈ zTb := z4_175
theorem l_Md_craft_78 : Cond.methodLink "StreamWatchModel" 106 (m_Md_addNumber).1 ∈ zTb := z4_175
theorem l_Md_craft_84 : Cond.methodLink "StreamWatchModel" 106 (m_Md_addNumber).1 ∈ zTb := z4_175
theorem l_Md_craft_91 : Cond.methodLink "StreamWatchModel" 106 (m_Md_addNumber).1 ∈ zTb := z4_175
theorem l_Md_craft_97 : Cond.methodLink "StreamWatchModel" 106 (m_Md_addNumber).1 ∈ zTb := z4_175
theorem l_Md_craft_113 : Cond.methodLink "StreamWatchModel" 106 (m_Md_addNumber).1 ∈ zTb := z4_175
theorem l_Md_craft_129 : Cond.methodLink "StreamWatchModel" 106 (m_Md_addNumber).1 ∈ zTb := z4_175
theorem l_Md_craft_148 : Cond.methodLink "StreamWatchModel" 106 (m_Md_addNumber).1 ∈ zTb := z4_175
theorem l_Md_craft_167 : Cond.methodLink "StreamWatchModel" 106 (m_Md_addNumber).1 ∈ zTb := z4_175
theorem l_Md_craft_173 : Cond.methodLink "StreamWatchModel" 106 (m_Md_addNumber).1 ∈ zTb := z4_175
theorem l_Md_craft_179 : Cond.methodLink "StreamWatchModel" 106 (m_Md_addNumber).1 ∈ zTb := z4_175
theorem l_Md_craft_186 : Cond.methodLink "StreamWatchModel" 106 (m_Md_addNumber).1 ∈ zTb := z4_175
theorem l_Md_craft_196 : Cond.methodLink "StreamWatchModel" 106 (m_Md_addNumber).1 ∈ zTb := z4_175
theorem l_Md_craft_202 : Cond.methodLink "StreamWatchModel" 106 (m_Md_addNumber).1 ∈ zTb := z4_175
theorem l_Md_craft_208 : Cond.methodLink "StreamWatchModel" 106 (m_Md_addNumber).1 ∈ zTb := z4_175
theorem l_Md_craft_232 : Cond.methodLink "StreamWatchModel" 100 (m_Md_add).1 ∈ zTb := z4_179
theorem l_Md_craft_242 : Cond.methodLink "StreamWatchModel" 110 (m_Md_close).1 ∈ zTb := z4_183
theorem l_Md_put_48 : Cond.methodLink "StreamWatchModel" 100 (m_Md_add).1 ∈ zTb := z4_179
theorem l_Md_four_2 : Cond.methodLink "StreamWatchModel" 113 (m_Md_pair).1 ∈ zTb := z4_207
theorem l_Md_four_12 : Cond.methodLink "StreamWatchModel" 113 (m_Md_pair).1 ∈ zTb := z4_207
theorem l_Md_headerSum_3 : Cond.methodLink "StreamWatchModel" 118 (m_Md_headerSize).1 ∈ zTb := z4_192
theorem l_Md_headerSum_6 : Cond.methodLink "StreamWatchModel" 122 (m_Md_total).1 ∈ zTb := z4_196
theorem l_Md_headerSum_9 : Cond.methodLink "StreamWatchModel" 126 (m_Md_folded).1 ∈ zTb := z4_200
theorem l_Md_partSum_1 : Cond.methodLink "StreamWatchModel" 118 (m_Md_headerSize).1 ∈ zTb := z4_192
theorem l_Md_partSum_7 : Cond.methodLink "StreamWatchModel" 113 (m_Md_pair).1 ∈ zTb := z4_207
theorem l_Md_partSum_16 : Cond.methodLink "StreamWatchModel" 122 (m_Md_total).1 ∈ zTb := z4_196
theorem l_Md_partSum_29 : Cond.methodLink "StreamWatchModel" 122 (m_Md_total).1 ∈ zTb := z4_196
theorem l_Md_partSum_33 : Cond.methodLink "StreamWatchModel" 126 (m_Md_folded).1 ∈ zTb := z4_200
theorem l_Md_reason_36 : Cond.methodLink "StreamWatchModel" 118 (m_Md_headerSize).1 ∈ zTb := z4_192
theorem l_Md_reason_42 : Cond.methodLink "StreamWatchModel" 113 (m_Md_pair).1 ∈ zTb := z4_207
theorem l_Md_reason_69 : Cond.methodLink "StreamWatchModel" 129 (m_Md_headerSum).1 ∈ zTb := z4_188
theorem l_Md_reason_82 : Cond.methodLink "StreamWatchModel" 113 (m_Md_pair).1 ∈ zTb := z4_207
theorem l_Md_reason_153 : Cond.methodLink "StreamWatchModel" 132 (m_Md_partSum).1 ∈ zTb := z4_203
theorem l_Md_close_19 : Cond.methodLink "StreamWatchModel" 129 (m_Md_headerSum).1 ∈ zTb := z4_188
theorem l_Md_close_48 : Cond.methodLink "StreamWatchModel" 118 (m_Md_headerSize).1 ∈ zTb := z4_192
theorem l_Md_close_74 : Cond.methodLink "StreamWatchModel" 132 (m_Md_partSum).1 ∈ zTb := z4_203
theorem l_Md_seal_7 : Cond.methodLink "StreamWatchModel" 135 (m_Md_reason).1 ∈ zTb := z4_231
theorem l_Md_seal_16 : Cond.methodLink "StreamWatchModel" 110 (m_Md_close).1 ∈ zTb := z4_183
theorem l_Md_found_136 : Cond.methodLink "StreamWatchModel" 142 (m_Md_upper).1 ∈ zTb := z5_51
theorem l_Md_found_141 : Cond.methodLink "StreamWatchModel" 142 (m_Md_upper).1 ∈ zTb := z5_51
theorem l_Md_clean_67 : Cond.methodLink "StreamWatchModel" 148 (m_Md_base).1 ∈ zTb := z5_43
theorem l_Md_clean_94 : Cond.methodLink "StreamWatchModel" 151 (m_Md_found).1 ∈ zTb := z5_47
theorem l_Md_holdsOn_81 : Cond.methodLink "StreamWatchModel" 155 (m_Md_clean).1 ∈ zTb := z5_39
theorem l_Md_holdsOn_159 : Cond.methodLink "StreamWatchModel" 148 (m_Md_base).1 ∈ zTb := z5_43
theorem l_Md_holdsOn_162 : Cond.methodLink "StreamWatchModel" 151 (m_Md_found).1 ∈ zTb := z5_47
theorem l_Md_holdsOn_194 : Cond.methodLink "StreamWatchModel" 155 (m_Md_clean).1 ∈ zTb := z5_39
theorem l_Md_look_99 : Cond.methodLink "StreamWatchModel" 159 (m_Md_holdsOn).1 ∈ zTb := z5_35
theorem l_Md_begin_15 : Cond.methodLink "StreamWatchModel" 165 (m_Md_four).1 ∈ zTb := z5_11
theorem l_Md_begin_26 : Cond.methodLink "StreamWatchModel" 113 (m_Md_pair).1 ∈ zTb := z4_207
theorem l_Md_begin_38 : Cond.methodLink "StreamWatchModel" 165 (m_Md_four).1 ∈ zTb := z5_11
theorem l_Md_begin_51 : Cond.methodLink "StreamWatchModel" 113 (m_Md_pair).1 ∈ zTb := z4_207
theorem l_Md_find_3 : Cond.methodLink "StreamWatchModel" 165 (m_Md_four).1 ∈ zTb := z5_11
theorem l_Md_find_10 : Cond.methodLink "StreamWatchModel" 165 (m_Md_four).1 ∈ zTb := z5_11
theorem l_Md_find_16 : Cond.methodLink "StreamWatchModel" 113 (m_Md_pair).1 ∈ zTb := z4_207
theorem l_Md_find_25 : Cond.methodLink "StreamWatchModel" 113 (m_Md_pair).1 ∈ zTb := z4_207
theorem l_Md_grow_182 : Cond.methodLink "StreamWatchModel" 168 (m_Md_look).1 ∈ zTb := z5_31
theorem l_Md_watch_7 : Cond.methodLink "StreamWatchModel" 135 (m_Md_reason).1 ∈ zTb := z4_231
theorem l_Md_watch_20 : Cond.methodLink "StreamWatchModel" 118 (m_Md_headerSize).1 ∈ zTb := z4_192
theorem l_Md_watch_36 : Cond.methodLink "StreamWatchModel" 171 (m_Md_find).1 ∈ zTb := z5_7
theorem l_Md_watch_63 : Cond.methodLink "StreamWatchModel" 174 (m_Md_room).1 ∈ zTb := z5_15
theorem l_Md_watch_72 : Cond.methodLink "StreamWatchModel" 177 (m_Md_begin).1 ∈ zTb := z5_19
theorem l_Md_watch_139 : Cond.methodLink "StreamWatchModel" 165 (m_Md_four).1 ∈ zTb := z5_11
theorem l_Md_watch_211 : Cond.methodLink "StreamWatchModel" 113 (m_Md_pair).1 ∈ zTb := z4_207
theorem l_Md_watch_245 : Cond.methodLink "StreamWatchModel" 183 (m_Md_hold).1 ∈ zTb := z5_23
theorem l_Md_watch_257 : Cond.methodLink "StreamWatchModel" 187 (m_Md_grow).1 ∈ zTb := z5_27
theorem l_Md_flow_7 : Cond.methodLink "StreamWatchModel" 190 (m_Md_isFlow).1 ∈ zTb := z5_58
theorem l_Md_stream_7 : Cond.methodLink "StreamWatchModel" 190 (m_Md_isFlow).1 ∈ zTb := z5_58
theorem l_Md_text_7 : Cond.methodLink "StreamWatchModel" 190 (m_Md_isFlow).1 ∈ zTb := z5_58
theorem l_Lw_cell_13 : Cond.methodLink "StreamWatchLaw" 7 (m_Sw_craft).1 ∈ zTb := z3_116
