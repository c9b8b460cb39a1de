/-! The reference: option (by program: wip/whole/src_md10.py) -/
def mCt (c x : Nat) (v : Int64) : Nat → Nat → (Nat → Int32) → (Nat → Int32)
  | 0, _, g => g
  | r + 1, k, g => mCt c x v r (k + 1) (upd g (6 * x + k) (mL v (nI c - 1 - nI k)))
theorem m3 (a b : Nat) : 3 * nI a + nI b = nI (3 * a + b) := by rw [show (3 : Int32) = nI 3 from rfl, pk_mul, nI_add]
section MODJ
variable (l : Launch) (D : va_G) (cA : Nat → ClassId) (ls : Bool) (n : Nat) (ck : Int32) (ru : Nat) (tr al : Int32)

set_option maxRecDepth 100000 in
set_option maxHeartbeats 4000000 in
theorem ev_Md_option1 (th : Int32) (op cs ct mk lst spn : Nat → Int32) (c m a b : Int32) (v : Int64) (hb : ¬ (¬ c < 1 ∧ ¬ 6 < c ∧ ¬ m < 0 ∧ ¬ 7 < m ∧ ¬ a < -80 ∧ ¬ 80 < a ∧ ¬ b < 0 ∧ b ≤ 80)) : E0_Md_option l D cA [.ref 199, .int c, .long v, .int m, .int a, .int b] [(199, cMd th ls n ck ru tr al), (222, cIs 6 op), (223, cIs 18 cs), (224, cIs 108 ct), (225, cIs 18 mk), (226, cIs 18 lst), (227, cIs 18 spn)] (some (.int 0)) [(199, cMd 1 ls n ck ru tr al), (222, cIs 6 op), (223, cIs 18 cs), (224, cIs 108 ct), (225, cIs 18 mk), (226, cIs 18 lst), (227, cIs 18 spn)] := by
  refine mj_ev (lv := [(0, .ref 199), (1, .int c), (2, .long v), (4, .int m), (5, .int a), (6, .int b)]) (by decide +kernel) (Nat.le_of_ble_eq_true rfl) rfl (fun X h => ?_)
  refine mj_blk h.1 b_Md_option_0 rfl trivial ?_
  refine mj_iclt h.1 (tgt := 50) d_Md_option_3 (by decide) (fun h1 => ?_) (fun h1 => ?_)
  · refine mj_blk h.1 b_Md_option_50 rfl trivial ?_
    refine mj_blk h.1 b_Md_option_55 rfl trivial ?_
    refine mj_ifle h.1 (tgt := 67) d_Md_option_62 (by decide) (fun h2 => ?_) (fun h2 => ?_)
    · exact absurd h2 (by decide)
    · refine mj_blk h.1 b_Md_option_65 rfl trivial ?_
      exact mj_iret h rfl d_Md_option_66 (by decide) (by decide) ⟨rfl, rfl⟩
  · refine mj_blk h.1 b_Md_option_6 rfl trivial ?_
    refine mj_icgt h.1 (tgt := 50) d_Md_option_9 (by decide) (fun h3 => ?_) (fun h3 => ?_)
    · refine mj_blk h.1 b_Md_option_50 rfl trivial ?_
      refine mj_blk h.1 b_Md_option_55 rfl trivial ?_
      refine mj_ifle h.1 (tgt := 67) d_Md_option_62 (by decide) (fun h4 => ?_) (fun h4 => ?_)
      · exact absurd h4 (by decide)
      · refine mj_blk h.1 b_Md_option_65 rfl trivial ?_
        exact mj_iret h rfl d_Md_option_66 (by decide) (by decide) ⟨rfl, rfl⟩
    · refine mj_blk h.1 b_Md_option_12 rfl trivial ?_
      refine mj_iflt h.1 (tgt := 50) d_Md_option_14 (by decide) (fun h5 => ?_) (fun h5 => ?_)
      · refine mj_blk h.1 b_Md_option_50 rfl trivial ?_
        refine mj_blk h.1 b_Md_option_55 rfl trivial ?_
        refine mj_ifle h.1 (tgt := 67) d_Md_option_62 (by decide) (fun h6 => ?_) (fun h6 => ?_)
        · exact absurd h6 (by decide)
        · refine mj_blk h.1 b_Md_option_65 rfl trivial ?_
          exact mj_iret h rfl d_Md_option_66 (by decide) (by decide) ⟨rfl, rfl⟩
      · refine mj_blk h.1 b_Md_option_17 rfl trivial ?_
        refine mj_icgt h.1 (tgt := 50) d_Md_option_21 (by decide) (fun h7 => ?_) (fun h7 => ?_)
        · refine mj_blk h.1 b_Md_option_50 rfl trivial ?_
          refine mj_blk h.1 b_Md_option_55 rfl trivial ?_
          refine mj_ifle h.1 (tgt := 67) d_Md_option_62 (by decide) (fun h8 => ?_) (fun h8 => ?_)
          · exact absurd h8 (by decide)
          · refine mj_blk h.1 b_Md_option_65 rfl trivial ?_
            exact mj_iret h rfl d_Md_option_66 (by decide) (by decide) ⟨rfl, rfl⟩
        · refine mj_blk h.1 b_Md_option_24 rfl trivial ?_
          refine mj_iclt h.1 (tgt := 50) d_Md_option_28 (by decide) (fun h9 => ?_) (fun h9 => ?_)
          · refine mj_blk h.1 b_Md_option_50 rfl trivial ?_
            refine mj_blk h.1 b_Md_option_55 rfl trivial ?_
            refine mj_ifle h.1 (tgt := 67) d_Md_option_62 (by decide) (fun h10 => ?_) (fun h10 => ?_)
            · exact absurd h10 (by decide)
            · refine mj_blk h.1 b_Md_option_65 rfl trivial ?_
              exact mj_iret h rfl d_Md_option_66 (by decide) (by decide) ⟨rfl, rfl⟩
          · refine mj_blk h.1 b_Md_option_31 rfl trivial ?_
            refine mj_icgt h.1 (tgt := 50) d_Md_option_35 (by decide) (fun h11 => ?_) (fun h11 => ?_)
            · refine mj_blk h.1 b_Md_option_50 rfl trivial ?_
              refine mj_blk h.1 b_Md_option_55 rfl trivial ?_
              refine mj_ifle h.1 (tgt := 67) d_Md_option_62 (by decide) (fun h12 => ?_) (fun h12 => ?_)
              · exact absurd h12 (by decide)
              · refine mj_blk h.1 b_Md_option_65 rfl trivial ?_
                exact mj_iret h rfl d_Md_option_66 (by decide) (by decide) ⟨rfl, rfl⟩
            · refine mj_blk h.1 b_Md_option_38 rfl trivial ?_
              refine mj_iflt h.1 (tgt := 50) d_Md_option_40 (by decide) (fun h13 => ?_) (fun h13 => ?_)
              · refine mj_blk h.1 b_Md_option_50 rfl trivial ?_
                refine mj_blk h.1 b_Md_option_55 rfl trivial ?_
                refine mj_ifle h.1 (tgt := 67) d_Md_option_62 (by decide) (fun h14 => ?_) (fun h14 => ?_)
                · exact absurd h14 (by decide)
                · refine mj_blk h.1 b_Md_option_65 rfl trivial ?_
                  exact mj_iret h rfl d_Md_option_66 (by decide) (by decide) ⟨rfl, rfl⟩
              · refine mj_blk h.1 b_Md_option_43 rfl trivial ?_
                refine mj_icle h.1 (tgt := 54) d_Md_option_47 (by decide) (fun h15 => ?_) (fun h15 => ?_)
                · exact absurd ⟨h1, h3, h5, h7, h9, h11, h13, h15⟩ hb
                · refine mj_blk h.1 b_Md_option_50 rfl trivial ?_
                  refine mj_blk h.1 b_Md_option_55 rfl trivial ?_
                  refine mj_ifle h.1 (tgt := 67) d_Md_option_62 (by decide) (fun h16 => ?_) (fun h16 => ?_)
                  · exact absurd h16 (by decide)
                  · refine mj_blk h.1 b_Md_option_65 rfl trivial ?_
                    exact mj_iret h rfl d_Md_option_66 (by decide) (by decide) ⟨rfl, rfl⟩
set_option maxRecDepth 100000 in
set_option maxHeartbeats 4000000 in
theorem ev_Md_option2 (th : Int32) (op cs ct mk lst spn : Nat → Int32) (c m a b : Int32) (v : Int64) (hg : (¬ c < 1 ∧ ¬ 6 < c ∧ ¬ m < 0 ∧ ¬ 7 < m ∧ ¬ a < -80 ∧ ¬ 80 < a ∧ ¬ b < 0 ∧ b ≤ 80)) (hr : ru ≤ 6) (hz : ru = 0 ∨ op (ru - 1) = 3) : E0_Md_option l D cA [.ref 199, .int c, .long v, .int m, .int a, .int b] [(199, cMd th ls n ck ru tr al), (222, cIs 6 op), (223, cIs 18 cs), (224, cIs 108 ct), (225, cIs 18 mk), (226, cIs 18 lst), (227, cIs 18 spn)] (some (.int 0)) [(199, cMd 2 ls n ck ru tr al), (222, cIs 6 op), (223, cIs 18 cs), (224, cIs 108 ct), (225, cIs 18 mk), (226, cIs 18 lst), (227, cIs 18 spn)] := by
  refine mj_ev (lv := [(0, .ref 199), (1, .int c), (2, .long v), (4, .int m), (5, .int a), (6, .int b)]) (by decide +kernel) (Nat.le_of_ble_eq_true rfl) rfl (fun X h => ?_)
  refine mj_blk h.1 b_Md_option_0 rfl trivial ?_
  refine mj_iclt h.1 (tgt := 50) d_Md_option_3 (by decide) (fun h1 => ?_) (fun h1 => ?_)
  · exact absurd h1 hg.1
  · refine mj_blk h.1 b_Md_option_6 rfl trivial ?_
    refine mj_icgt h.1 (tgt := 50) d_Md_option_9 (by decide) (fun h2 => ?_) (fun h2 => ?_)
    · exact absurd h2 hg.2.1
    · refine mj_blk h.1 b_Md_option_12 rfl trivial ?_
      refine mj_iflt h.1 (tgt := 50) d_Md_option_14 (by decide) (fun h3 => ?_) (fun h3 => ?_)
      · exact absurd h3 hg.2.2.1
      · refine mj_blk h.1 b_Md_option_17 rfl trivial ?_
        refine mj_icgt h.1 (tgt := 50) d_Md_option_21 (by decide) (fun h4 => ?_) (fun h4 => ?_)
        · exact absurd h4 hg.2.2.2.1
        · refine mj_blk h.1 b_Md_option_24 rfl trivial ?_
          refine mj_iclt h.1 (tgt := 50) d_Md_option_28 (by decide) (fun h5 => ?_) (fun h5 => ?_)
          · exact absurd h5 hg.2.2.2.2.1
          · refine mj_blk h.1 b_Md_option_31 rfl trivial ?_
            refine mj_icgt h.1 (tgt := 50) d_Md_option_35 (by decide) (fun h6 => ?_) (fun h6 => ?_)
            · exact absurd h6 hg.2.2.2.2.2.1
            · refine mj_blk h.1 b_Md_option_38 rfl trivial ?_
              refine mj_iflt h.1 (tgt := 50) d_Md_option_40 (by decide) (fun h7 => ?_) (fun h7 => ?_)
              · exact absurd h7 hg.2.2.2.2.2.2.1
              · refine mj_blk h.1 b_Md_option_43 rfl trivial ?_
                refine mj_icle h.1 (tgt := 54) d_Md_option_47 (by decide) (fun h8 => ?_) (fun h8 => ?_)
                · refine mj_blk h.1 b_Md_option_54 rfl trivial ?_
                  refine mj_blk h.1 b_Md_option_55 rfl trivial ?_
                  refine mj_ifle h.1 (tgt := 67) d_Md_option_62 (by decide) (fun h9 => ?_) (fun h9 => ?_)
                  · refine mj_blk h.1 b_Md_option_67 rfl trivial ?_
                    first | refine mj_ifeqB h.1 (tgt := 101) d_Md_option_72 (by decide) (fun h10 => ?_) (fun h10 => ?_) | refine mj_ifeq h.1 (tgt := 101) d_Md_option_72 (by decide) (fun h10 => ?_) (fun h10 => ?_)
                    · refine mj_blk h.1 b_Md_option_101 rfl trivial ?_
                      refine mj_blk h.1 b_Md_option_106 rfl trivial ?_
                      refine mj_ifle h.1 (tgt := 118) d_Md_option_113 (by decide) (fun h11 => ?_) (fun h11 => ?_)
                      · exact absurd h11 (by decide)
                      · refine mj_blk h.1 b_Md_option_116 rfl trivial ?_
                        exact mj_iret h rfl d_Md_option_117 (by decide) (by decide) ⟨rfl, rfl⟩
                    · have hk0 : ¬ ru = 0 := fun h9 => h10 (by rw [h9]; rfl)
                      refine mj_blk h.1 b_Md_option_75 rfl trivial ?_
                      first | refine mj_ifneB h.1 (tgt := 90) d_Md_option_83 (by decide) (fun h12 => ?_) (fun h12 => ?_) | refine mj_ifne h.1 (tgt := 90) d_Md_option_83 (by decide) (fun h12 => ?_) (fun h12 => ?_)
                      · refine mj_blk h.1 b_Md_option_90 rfl trivial ?_
                        refine mj_blk h.1 b_Md_option_96 rfl ⟨by rw [pk_sub1 hk0]; exact vp_in_nI (by omega) (by decide), trivial⟩ ?_
                        rw [pk_sub1 hk0, nI_clamp (by omega)]
                        refine mj_icne h.1 (tgt := 105) d_Md_option_98 (by decide) (fun h13 => ?_) (fun h13 => ?_)
                        · exact absurd (hz.resolve_left hk0) h13
                        · refine mj_blk h.1 b_Md_option_101 rfl trivial ?_
                          refine mj_blk h.1 b_Md_option_106 rfl trivial ?_
                          refine mj_ifle h.1 (tgt := 118) d_Md_option_113 (by decide) (fun h14 => ?_) (fun h14 => ?_)
                          · exact absurd h14 (by decide)
                          · refine mj_blk h.1 b_Md_option_116 rfl trivial ?_
                            exact mj_iret h rfl d_Md_option_117 (by decide) (by decide) ⟨rfl, rfl⟩
                      · exact absurd h12 h10
                  · exact absurd (by decide) h9
                · exact absurd hg.2.2.2.2.2.2.2 h8
set_option maxRecDepth 100000 in
set_option maxHeartbeats 8000000 in
theorem lp_Md_option {X : mj_X} {post : mj_R} (h : mj_E zG X l D cA m_Md_option 0 0 0 0 (fun _ => True) post) (op cs mk lst spn : Nat → Int32) (c x : Nat) (hc : c ≤ 6) (hx : x < 18) (m a b : Int32) (v : Int64) : ∀ (r k : Nat) (ct : Nat → Int32), k + r = c → (∀ k9 : Nat, mj_W zG X 0 0 192 [(8, .int (nI k9)), (7, .int (nI x)), (0, .ref 199), (1, .int (nI c)), (2, .long v), (4, .int m), (5, .int a), (6, .int b)] [] [(199, cMd 0 ls n ck ru tr al), (222, cIs 6 op), (223, cIs 18 cs), (224, cIs 108 (mCt c x v r k ct)), (225, cIs 18 mk), (226, cIs 18 lst), (227, cIs 18 spn)]) → mj_W zG X 0 0 151 [(8, .int (nI k)), (7, .int (nI x)), (0, .ref 199), (1, .int (nI c)), (2, .long v), (4, .int m), (5, .int a), (6, .int b)] [] [(199, cMd 0 ls n ck ru tr al), (222, cIs 6 op), (223, cIs 18 cs), (224, cIs 108 ct), (225, cIs 18 mk), (226, cIs 18 lst), (227, cIs 18 spn)] := by
  intro r
  induction r with
  | zero =>
    intro k ct hk K
    refine mj_blk h.1 b_Md_option_151 rfl trivial ?_
    refine mj_icge h.1 (tgt := 192) d_Md_option_154 (by decide) (fun h1 => ?_) (fun h1 => ?_)
    · exact K k
    · exact absurd (nI_le (by omega) (by omega)) h1
  | succ r ih =>
    intro k ct hk K
    refine mj_blk h.1 b_Md_option_151 rfl trivial ?_
    refine mj_icge h.1 (tgt := 192) d_Md_option_154 (by decide) (fun h1 => ?_) (fun h1 => ?_)
    · exact absurd ((nI_leI (by omega) (by omega)).mp h1) (by omega)
    · refine mj_blk h.1 b_Md_option_157 rfl ⟨by rw [m6]; exact vp_in_nI (by omega) (by decide), trivial⟩ ?_
      rw [m6, nI_clamp (by omega), show nI k + 1 = nI (k + 1) from (nI_succ k).symm]
      exact ih (k + 1) _ (by omega) K
set_option maxRecDepth 100000 in
set_option maxHeartbeats 4000000 in
theorem ev_Md_option0 (th : Int32) (op cs ct mk lst spn : Nat → Int32) (c : Nat) (hc : c ≤ 6) (m a b : Int32) (v : Int64) (hg : (¬ nI c < 1 ∧ ¬ 6 < nI c ∧ ¬ m < 0 ∧ ¬ 7 < m ∧ ¬ a < -80 ∧ ¬ 80 < a ∧ ¬ b < 0 ∧ b ≤ 80)) (hr0 : 0 < ru) (hr : ru ≤ 6) (j : Nat) (hj : j < 3) (ho : op (ru - 1) = nI j) : E0_Md_option l D cA [.ref 199, .int (nI c), .long v, .int m, .int a, .int b] [(199, cMd th ls n ck ru tr al), (222, cIs 6 op), (223, cIs 18 cs), (224, cIs 108 ct), (225, cIs 18 mk), (226, cIs 18 lst), (227, cIs 18 spn)] (some (.int (nI (j + 1)))) [(199, cMd 0 ls n ck ru tr al), (222, cIs 6 (upd op (ru - 1) (nI (j + 1)))), (223, cIs 18 (upd cs (3 * (ru - 1) + j) (nI c))), (224, cIs 108 (mCt c (3 * (ru - 1) + j) v c 0 ct)), (225, cIs 18 (upd mk (3 * (ru - 1) + j) m)), (226, cIs 18 (upd lst (3 * (ru - 1) + j) a)), (227, cIs 18 (upd spn (3 * (ru - 1) + j) b))] := by
  refine mj_ev (lv := [(0, .ref 199), (1, .int (nI c)), (2, .long v), (4, .int m), (5, .int a), (6, .int b)]) (by decide +kernel) (Nat.le_of_ble_eq_true rfl) rfl (fun X h => ?_)
  have hk0 : ¬ ru = 0 := by omega
  refine mj_blk h.1 b_Md_option_0 rfl trivial ?_
  refine mj_iclt h.1 (tgt := 50) d_Md_option_3 (by decide) (fun h1 => ?_) (fun h1 => ?_)
  · exact absurd h1 hg.1
  · refine mj_blk h.1 b_Md_option_6 rfl trivial ?_
    refine mj_icgt h.1 (tgt := 50) d_Md_option_9 (by decide) (fun h2 => ?_) (fun h2 => ?_)
    · exact absurd h2 hg.2.1
    · refine mj_blk h.1 b_Md_option_12 rfl trivial ?_
      refine mj_iflt h.1 (tgt := 50) d_Md_option_14 (by decide) (fun h3 => ?_) (fun h3 => ?_)
      · exact absurd h3 hg.2.2.1
      · refine mj_blk h.1 b_Md_option_17 rfl trivial ?_
        refine mj_icgt h.1 (tgt := 50) d_Md_option_21 (by decide) (fun h4 => ?_) (fun h4 => ?_)
        · exact absurd h4 hg.2.2.2.1
        · refine mj_blk h.1 b_Md_option_24 rfl trivial ?_
          refine mj_iclt h.1 (tgt := 50) d_Md_option_28 (by decide) (fun h5 => ?_) (fun h5 => ?_)
          · exact absurd h5 hg.2.2.2.2.1
          · refine mj_blk h.1 b_Md_option_31 rfl trivial ?_
            refine mj_icgt h.1 (tgt := 50) d_Md_option_35 (by decide) (fun h6 => ?_) (fun h6 => ?_)
            · exact absurd h6 hg.2.2.2.2.2.1
            · refine mj_blk h.1 b_Md_option_38 rfl trivial ?_
              refine mj_iflt h.1 (tgt := 50) d_Md_option_40 (by decide) (fun h7 => ?_) (fun h7 => ?_)
              · exact absurd h7 hg.2.2.2.2.2.2.1
              · refine mj_blk h.1 b_Md_option_43 rfl trivial ?_
                refine mj_icle h.1 (tgt := 54) d_Md_option_47 (by decide) (fun h8 => ?_) (fun h8 => ?_)
                · refine mj_blk h.1 b_Md_option_54 rfl trivial ?_
                  refine mj_blk h.1 b_Md_option_55 rfl trivial ?_
                  refine mj_ifle h.1 (tgt := 67) d_Md_option_62 (by decide) (fun h9 => ?_) (fun h9 => ?_)
                  · refine mj_blk h.1 b_Md_option_67 rfl trivial ?_
                    first | refine mj_ifeqB h.1 (tgt := 101) d_Md_option_72 (by decide) (fun h10 => ?_) (fun h10 => ?_) | refine mj_ifeq h.1 (tgt := 101) d_Md_option_72 (by decide) (fun h10 => ?_) (fun h10 => ?_)
                    · exact absurd ((nI_eq (b := 0) (by omega) (by decide)).mp h10) hk0
                    · refine mj_blk h.1 b_Md_option_75 rfl trivial ?_
                      first | refine mj_ifneB h.1 (tgt := 90) d_Md_option_83 (by decide) (fun h11 => ?_) (fun h11 => ?_) | refine mj_ifne h.1 (tgt := 90) d_Md_option_83 (by decide) (fun h11 => ?_) (fun h11 => ?_)
                      · refine mj_blk h.1 b_Md_option_90 rfl trivial ?_
                        refine mj_blk h.1 b_Md_option_96 rfl ⟨by rw [pk_sub1 hk0]; exact vp_in_nI (by omega) (by decide), trivial⟩ ?_
                        rw [pk_sub1 hk0, nI_clamp (by omega)]
                        refine mj_icne h.1 (tgt := 105) d_Md_option_98 (by decide) (fun h12 => ?_) (fun h12 => ?_)
                        · refine mj_blk h.1 b_Md_option_105 rfl trivial ?_
                          refine mj_blk h.1 b_Md_option_106 rfl trivial ?_
                          refine mj_ifle h.1 (tgt := 118) d_Md_option_113 (by decide) (fun h13 => ?_) (fun h13 => ?_)
                          · refine mj_blk h.1 b_Md_option_118 rfl ⟨by rw [pk_sub1 hk0, nI_clamp (by omega), ho, m3]; exact vp_in_nI (by omega) (by decide), by rw [pk_sub1 hk0]; exact vp_in_nI (by omega) (by decide), trivial⟩ ?_
                            rw [pk_sub1 hk0, nI_clamp (by omega : ru - 1 < 2 ^ 31), ho, m3, nI_clamp (by omega : 3 * (ru - 1) + j < 2 ^ 31)]
                            refine lp_Md_option l D cA ls n ck ru tr al h _ _ _ _ _ c _ hc (by omega) m a b v c 0 ct (by omega) (fun k9 => ?_)
                            refine mj_blk h.1 b_Md_option_192 rfl ⟨by rw [pk_sub1 hk0]; exact vp_in_nI (by omega) (by decide), by rw [pk_sub1 hk0]; exact vp_in_nI (by omega) (by decide), by rw [pk_sub1 hk0]; exact vp_in_nI (by omega) (by decide), vp_in_nI (by omega) (by decide), vp_in_nI (by omega) (by decide), vp_in_nI (by omega) (by decide), trivial⟩ ?_
                            refine mj_iret h rfl d_Md_option_245 (by decide) (by decide) ⟨?_, ?_⟩
                            · rw [pk_sub1 hk0, nI_clamp (by omega), pk_us, ho, nI_1]
                            · rw [pk_sub1 hk0, nI_clamp (by omega : ru - 1 < 2 ^ 31), ho, nI_clamp (by omega : 3 * (ru - 1) + j < 2 ^ 31), nI_1]
                          · exact absurd (by decide) h13
                        · exact absurd ((nI_eq (b := 3) (by omega) (by decide)).mp (ho ▸ h12)) (by omega)
                      · exact absurd ((nI_eq (b := 0) (by omega) (by decide)).mp h11) hk0
                  · exact absurd (by decide) h9
                · exact absurd hg.2.2.2.2.2.2.2 h8
end MODJ
