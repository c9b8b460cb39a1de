/-! The reference: find, hold, base; indices as the machine has them, (nI i).toNatClampNeg (by program: wip/whole/src_md5.py) -/
abbrev mIx (i : Nat) : Nat := (nI i).toNatClampNeg
abbrev mE1 (us ch cp sh sp : Nat → Int32) (a p b q : Int32) (i : Nat) : Prop := ¬ us (mIx i) = 0 ∧ ch (mIx i) = a ∧ cp (mIx i) = p ∧ sh (mIx i) = b ∧ sp (mIx i) = q
def mFnd (us ch cp sh sp : Nat → Int32) (a p b q : Int32) : Nat → Nat → Int32
  | 0, _ => -1
  | r + 1, i => if mE1 us ch cp sh sp a p b q i then 2 * nI i else if mE1 us ch cp sh sp b q a p i then 2 * nI i + 1 else mFnd us ch cp sh sp a p b q r (i + 1)
section MODE
variable (l : Launch) (D : va_G) (cA : Nat → ClassId) (th : Int32) (ls : Bool) (n : Nat) (ck : Int32) (ru : Nat) (tr al : Int32)

set_option maxRecDepth 100000 in
set_option maxHeartbeats 8000000 in
theorem lp_Md_find {X : mj_X} {post : mj_R} (f us ch cp sh sp : Nat → Int32) (a p b q x : Int32) (h : mj_E zG X l D cA m_Md_find 2 80 0 0 (fun _ => True) post) : ∀ (r i : Nat), i + r = 4 → post (some (.int (mFnd us ch cp sh sp a p b q r i))) [(199, cMd th ls n ck ru tr al), (203, cIs 100 f), (204, cZs 4 us), (205, cIs 4 ch), (206, cIs 4 cp), (207, cIs 4 sh), (208, cIs 4 sp)] → mj_W zG X 0 0 33 [(6, .int (nI i)), (5, .int q), (4, .int p), (3, .int b), (2, .int a), (0, .ref 199), (1, .int x)] [] [(199, cMd th ls n ck ru tr al), (203, cIs 100 f), (204, cZs 4 us), (205, cIs 4 ch), (206, cIs 4 cp), (207, cIs 4 sh), (208, cIs 4 sp)] := by
  intro r
  induction r with
  | zero =>
    intro i hi hp
    refine mj_blk h.1 b_Md_find_33 rfl trivial ?_
    refine mj_icge h.1 (tgt := 169) d_Md_find_36 (by decide) (fun h1 => ?_) (fun h1 => ?_)
    · refine mj_blk h.1 b_Md_find_169 rfl trivial ?_
      exact mj_iret h rfl d_Md_find_170 (by decide) (by decide) hp
    · exact absurd (show nI 4 ≤ nI i from nI_le (by omega) (by omega)) h1
  | succ r ih =>
    intro i hi hp
    refine mj_blk h.1 b_Md_find_33 rfl trivial ?_
    refine mj_icge h.1 (tgt := 169) d_Md_find_36 (by decide) (fun h1 => ?_) (fun h1 => ?_)
    · exact absurd ((nI_leI (a := 4) (by omega) (by omega)).mp h1) (by omega)
    · refine mj_blk h.1 b_Md_find_39 rfl ⟨vp_in_nI (by omega) (by decide), trivial⟩ ?_
      first | refine mj_ifeqB h.1 (tgt := 100) d_Md_find_46 (by decide) (fun h2 => ?_) (fun h2 => ?_) | refine mj_ifeq h.1 (tgt := 100) d_Md_find_46 (by decide) (fun h2 => ?_) (fun h2 => ?_)
      · refine mj_blk h.1 b_Md_find_100 rfl ⟨vp_in_nI (by omega) (by decide), trivial⟩ ?_
        first | refine mj_ifeqB h.1 (tgt := 163) d_Md_find_107 (by decide) (fun h3 => ?_) (fun h3 => ?_) | refine mj_ifeq h.1 (tgt := 163) d_Md_find_107 (by decide) (fun h3 => ?_) (fun h3 => ?_)
        · refine mj_blk h.1 b_Md_find_163 rfl trivial ?_
          have hp2 := hp
          unfold mFnd at hp2
          rw [if_neg (show ¬ mE1 us ch cp sh sp a p b q i from fun z => z.1 h2), if_neg (show ¬ mE1 us ch cp sh sp b q a p i from fun z => z.1 h3)] at hp2
          rw [show nI i + 1 = nI (i + 1) from (nI_succ i).symm]
          exact ih (i + 1) (by omega) hp2
        · refine mj_blk h.1 b_Md_find_110 rfl ⟨vp_in_nI (by omega) (by decide), trivial⟩ ?_
          refine mj_icne h.1 (tgt := 163) d_Md_find_118 (by decide) (fun h4 => ?_) (fun h4 => ?_)
          · refine mj_blk h.1 b_Md_find_163 rfl trivial ?_
            have hp2 := hp
            unfold mFnd at hp2
            rw [if_neg (show ¬ mE1 us ch cp sh sp a p b q i from fun z => z.1 h2), if_neg (show ¬ mE1 us ch cp sh sp b q a p i from fun z => h4 z.2.1)] at hp2
            rw [show nI i + 1 = nI (i + 1) from (nI_succ i).symm]
            exact ih (i + 1) (by omega) hp2
          · refine mj_blk h.1 b_Md_find_121 rfl ⟨vp_in_nI (by omega) (by decide), trivial⟩ ?_
            refine mj_icne h.1 (tgt := 163) d_Md_find_130 (by decide) (fun h5 => ?_) (fun h5 => ?_)
            · refine mj_blk h.1 b_Md_find_163 rfl trivial ?_
              have hp2 := hp
              unfold mFnd at hp2
              rw [if_neg (show ¬ mE1 us ch cp sh sp a p b q i from fun z => z.1 h2), if_neg (show ¬ mE1 us ch cp sh sp b q a p i from fun z => h5 z.2.2.1)] at hp2
              rw [show nI i + 1 = nI (i + 1) from (nI_succ i).symm]
              exact ih (i + 1) (by omega) hp2
            · refine mj_blk h.1 b_Md_find_133 rfl ⟨vp_in_nI (by omega) (by decide), trivial⟩ ?_
              refine mj_icne h.1 (tgt := 163) d_Md_find_141 (by decide) (fun h6 => ?_) (fun h6 => ?_)
              · refine mj_blk h.1 b_Md_find_163 rfl trivial ?_
                have hp2 := hp
                unfold mFnd at hp2
                rw [if_neg (show ¬ mE1 us ch cp sh sp a p b q i from fun z => z.1 h2), if_neg (show ¬ mE1 us ch cp sh sp b q a p i from fun z => h6 z.2.2.2.1)] at hp2
                rw [show nI i + 1 = nI (i + 1) from (nI_succ i).symm]
                exact ih (i + 1) (by omega) hp2
              · refine mj_blk h.1 b_Md_find_144 rfl ⟨vp_in_nI (by omega) (by decide), trivial⟩ ?_
                refine mj_icne h.1 (tgt := 163) d_Md_find_153 (by decide) (fun h7 => ?_) (fun h7 => ?_)
                · refine mj_blk h.1 b_Md_find_163 rfl trivial ?_
                  have hp2 := hp
                  unfold mFnd at hp2
                  rw [if_neg (show ¬ mE1 us ch cp sh sp a p b q i from fun z => z.1 h2), if_neg (show ¬ mE1 us ch cp sh sp b q a p i from fun z => h7 z.2.2.2.2)] at hp2
                  rw [show nI i + 1 = nI (i + 1) from (nI_succ i).symm]
                  exact ih (i + 1) (by omega) hp2
                · have hp2 := hp
                  unfold mFnd at hp2
                  rw [if_neg (show ¬ mE1 us ch cp sh sp a p b q i from fun z => z.1 h2), if_pos (show mE1 us ch cp sh sp b q a p i from ⟨h3, h4, h5, h6, h7⟩)] at hp2
                  refine mj_blk h.1 b_Md_find_156 rfl trivial ?_
                  exact mj_iret h rfl d_Md_find_162 (by decide) (by decide) hp2
      · refine mj_blk h.1 b_Md_find_49 rfl ⟨vp_in_nI (by omega) (by decide), trivial⟩ ?_
        refine mj_icne h.1 (tgt := 100) d_Md_find_57 (by decide) (fun h8 => ?_) (fun h8 => ?_)
        · refine mj_blk h.1 b_Md_find_100 rfl ⟨vp_in_nI (by omega) (by decide), trivial⟩ ?_
          first | refine mj_ifeqB h.1 (tgt := 163) d_Md_find_107 (by decide) (fun h9 => ?_) (fun h9 => ?_) | refine mj_ifeq h.1 (tgt := 163) d_Md_find_107 (by decide) (fun h9 => ?_) (fun h9 => ?_)
          · refine mj_blk h.1 b_Md_find_163 rfl trivial ?_
            have hp2 := hp
            unfold mFnd at hp2
            rw [if_neg (show ¬ mE1 us ch cp sh sp a p b q i from fun z => h8 z.2.1), if_neg (show ¬ mE1 us ch cp sh sp b q a p i from fun z => z.1 h9)] at hp2
            rw [show nI i + 1 = nI (i + 1) from (nI_succ i).symm]
            exact ih (i + 1) (by omega) hp2
          · refine mj_blk h.1 b_Md_find_110 rfl ⟨vp_in_nI (by omega) (by decide), trivial⟩ ?_
            refine mj_icne h.1 (tgt := 163) d_Md_find_118 (by decide) (fun h10 => ?_) (fun h10 => ?_)
            · refine mj_blk h.1 b_Md_find_163 rfl trivial ?_
              have hp2 := hp
              unfold mFnd at hp2
              rw [if_neg (show ¬ mE1 us ch cp sh sp a p b q i from fun z => h8 z.2.1), if_neg (show ¬ mE1 us ch cp sh sp b q a p i from fun z => h10 z.2.1)] at hp2
              rw [show nI i + 1 = nI (i + 1) from (nI_succ i).symm]
              exact ih (i + 1) (by omega) hp2
            · refine mj_blk h.1 b_Md_find_121 rfl ⟨vp_in_nI (by omega) (by decide), trivial⟩ ?_
              refine mj_icne h.1 (tgt := 163) d_Md_find_130 (by decide) (fun h11 => ?_) (fun h11 => ?_)
              · refine mj_blk h.1 b_Md_find_163 rfl trivial ?_
                have hp2 := hp
                unfold mFnd at hp2
                rw [if_neg (show ¬ mE1 us ch cp sh sp a p b q i from fun z => h8 z.2.1), if_neg (show ¬ mE1 us ch cp sh sp b q a p i from fun z => h11 z.2.2.1)] at hp2
                rw [show nI i + 1 = nI (i + 1) from (nI_succ i).symm]
                exact ih (i + 1) (by omega) hp2
              · refine mj_blk h.1 b_Md_find_133 rfl ⟨vp_in_nI (by omega) (by decide), trivial⟩ ?_
                refine mj_icne h.1 (tgt := 163) d_Md_find_141 (by decide) (fun h12 => ?_) (fun h12 => ?_)
                · refine mj_blk h.1 b_Md_find_163 rfl trivial ?_
                  have hp2 := hp
                  unfold mFnd at hp2
                  rw [if_neg (show ¬ mE1 us ch cp sh sp a p b q i from fun z => h8 z.2.1), if_neg (show ¬ mE1 us ch cp sh sp b q a p i from fun z => h12 z.2.2.2.1)] at hp2
                  rw [show nI i + 1 = nI (i + 1) from (nI_succ i).symm]
                  exact ih (i + 1) (by omega) hp2
                · refine mj_blk h.1 b_Md_find_144 rfl ⟨vp_in_nI (by omega) (by decide), trivial⟩ ?_
                  refine mj_icne h.1 (tgt := 163) d_Md_find_153 (by decide) (fun h13 => ?_) (fun h13 => ?_)
                  · refine mj_blk h.1 b_Md_find_163 rfl trivial ?_
                    have hp2 := hp
                    unfold mFnd at hp2
                    rw [if_neg (show ¬ mE1 us ch cp sh sp a p b q i from fun z => h8 z.2.1), if_neg (show ¬ mE1 us ch cp sh sp b q a p i from fun z => h13 z.2.2.2.2)] at hp2
                    rw [show nI i + 1 = nI (i + 1) from (nI_succ i).symm]
                    exact ih (i + 1) (by omega) hp2
                  · have hp2 := hp
                    unfold mFnd at hp2
                    rw [if_neg (show ¬ mE1 us ch cp sh sp a p b q i from fun z => h8 z.2.1), if_pos (show mE1 us ch cp sh sp b q a p i from ⟨h9, h10, h11, h12, h13⟩)] at hp2
                    refine mj_blk h.1 b_Md_find_156 rfl trivial ?_
                    exact mj_iret h rfl d_Md_find_162 (by decide) (by decide) hp2
        · refine mj_blk h.1 b_Md_find_60 rfl ⟨vp_in_nI (by omega) (by decide), trivial⟩ ?_
          refine mj_icne h.1 (tgt := 100) d_Md_find_69 (by decide) (fun h14 => ?_) (fun h14 => ?_)
          · refine mj_blk h.1 b_Md_find_100 rfl ⟨vp_in_nI (by omega) (by decide), trivial⟩ ?_
            first | refine mj_ifeqB h.1 (tgt := 163) d_Md_find_107 (by decide) (fun h15 => ?_) (fun h15 => ?_) | refine mj_ifeq h.1 (tgt := 163) d_Md_find_107 (by decide) (fun h15 => ?_) (fun h15 => ?_)
            · refine mj_blk h.1 b_Md_find_163 rfl trivial ?_
              have hp2 := hp
              unfold mFnd at hp2
              rw [if_neg (show ¬ mE1 us ch cp sh sp a p b q i from fun z => h14 z.2.2.1), if_neg (show ¬ mE1 us ch cp sh sp b q a p i from fun z => z.1 h15)] at hp2
              rw [show nI i + 1 = nI (i + 1) from (nI_succ i).symm]
              exact ih (i + 1) (by omega) hp2
            · refine mj_blk h.1 b_Md_find_110 rfl ⟨vp_in_nI (by omega) (by decide), trivial⟩ ?_
              refine mj_icne h.1 (tgt := 163) d_Md_find_118 (by decide) (fun h16 => ?_) (fun h16 => ?_)
              · refine mj_blk h.1 b_Md_find_163 rfl trivial ?_
                have hp2 := hp
                unfold mFnd at hp2
                rw [if_neg (show ¬ mE1 us ch cp sh sp a p b q i from fun z => h14 z.2.2.1), if_neg (show ¬ mE1 us ch cp sh sp b q a p i from fun z => h16 z.2.1)] at hp2
                rw [show nI i + 1 = nI (i + 1) from (nI_succ i).symm]
                exact ih (i + 1) (by omega) hp2
              · refine mj_blk h.1 b_Md_find_121 rfl ⟨vp_in_nI (by omega) (by decide), trivial⟩ ?_
                refine mj_icne h.1 (tgt := 163) d_Md_find_130 (by decide) (fun h17 => ?_) (fun h17 => ?_)
                · refine mj_blk h.1 b_Md_find_163 rfl trivial ?_
                  have hp2 := hp
                  unfold mFnd at hp2
                  rw [if_neg (show ¬ mE1 us ch cp sh sp a p b q i from fun z => h14 z.2.2.1), if_neg (show ¬ mE1 us ch cp sh sp b q a p i from fun z => h17 z.2.2.1)] at hp2
                  rw [show nI i + 1 = nI (i + 1) from (nI_succ i).symm]
                  exact ih (i + 1) (by omega) hp2
                · refine mj_blk h.1 b_Md_find_133 rfl ⟨vp_in_nI (by omega) (by decide), trivial⟩ ?_
                  refine mj_icne h.1 (tgt := 163) d_Md_find_141 (by decide) (fun h18 => ?_) (fun h18 => ?_)
                  · refine mj_blk h.1 b_Md_find_163 rfl trivial ?_
                    have hp2 := hp
                    unfold mFnd at hp2
                    rw [if_neg (show ¬ mE1 us ch cp sh sp a p b q i from fun z => h14 z.2.2.1), if_neg (show ¬ mE1 us ch cp sh sp b q a p i from fun z => h18 z.2.2.2.1)] at hp2
                    rw [show nI i + 1 = nI (i + 1) from (nI_succ i).symm]
                    exact ih (i + 1) (by omega) hp2
                  · refine mj_blk h.1 b_Md_find_144 rfl ⟨vp_in_nI (by omega) (by decide), trivial⟩ ?_
                    refine mj_icne h.1 (tgt := 163) d_Md_find_153 (by decide) (fun h19 => ?_) (fun h19 => ?_)
                    · refine mj_blk h.1 b_Md_find_163 rfl trivial ?_
                      have hp2 := hp
                      unfold mFnd at hp2
                      rw [if_neg (show ¬ mE1 us ch cp sh sp a p b q i from fun z => h14 z.2.2.1), if_neg (show ¬ mE1 us ch cp sh sp b q a p i from fun z => h19 z.2.2.2.2)] at hp2
                      rw [show nI i + 1 = nI (i + 1) from (nI_succ i).symm]
                      exact ih (i + 1) (by omega) hp2
                    · have hp2 := hp
                      unfold mFnd at hp2
                      rw [if_neg (show ¬ mE1 us ch cp sh sp a p b q i from fun z => h14 z.2.2.1), if_pos (show mE1 us ch cp sh sp b q a p i from ⟨h15, h16, h17, h18, h19⟩)] at hp2
                      refine mj_blk h.1 b_Md_find_156 rfl trivial ?_
                      exact mj_iret h rfl d_Md_find_162 (by decide) (by decide) hp2
          · refine mj_blk h.1 b_Md_find_72 rfl ⟨vp_in_nI (by omega) (by decide), trivial⟩ ?_
            refine mj_icne h.1 (tgt := 100) d_Md_find_80 (by decide) (fun h20 => ?_) (fun h20 => ?_)
            · refine mj_blk h.1 b_Md_find_100 rfl ⟨vp_in_nI (by omega) (by decide), trivial⟩ ?_
              first | refine mj_ifeqB h.1 (tgt := 163) d_Md_find_107 (by decide) (fun h21 => ?_) (fun h21 => ?_) | refine mj_ifeq h.1 (tgt := 163) d_Md_find_107 (by decide) (fun h21 => ?_) (fun h21 => ?_)
              · refine mj_blk h.1 b_Md_find_163 rfl trivial ?_
                have hp2 := hp
                unfold mFnd at hp2
                rw [if_neg (show ¬ mE1 us ch cp sh sp a p b q i from fun z => h20 z.2.2.2.1), if_neg (show ¬ mE1 us ch cp sh sp b q a p i from fun z => z.1 h21)] at hp2
                rw [show nI i + 1 = nI (i + 1) from (nI_succ i).symm]
                exact ih (i + 1) (by omega) hp2
              · refine mj_blk h.1 b_Md_find_110 rfl ⟨vp_in_nI (by omega) (by decide), trivial⟩ ?_
                refine mj_icne h.1 (tgt := 163) d_Md_find_118 (by decide) (fun h22 => ?_) (fun h22 => ?_)
                · refine mj_blk h.1 b_Md_find_163 rfl trivial ?_
                  have hp2 := hp
                  unfold mFnd at hp2
                  rw [if_neg (show ¬ mE1 us ch cp sh sp a p b q i from fun z => h20 z.2.2.2.1), if_neg (show ¬ mE1 us ch cp sh sp b q a p i from fun z => h22 z.2.1)] at hp2
                  rw [show nI i + 1 = nI (i + 1) from (nI_succ i).symm]
                  exact ih (i + 1) (by omega) hp2
                · refine mj_blk h.1 b_Md_find_121 rfl ⟨vp_in_nI (by omega) (by decide), trivial⟩ ?_
                  refine mj_icne h.1 (tgt := 163) d_Md_find_130 (by decide) (fun h23 => ?_) (fun h23 => ?_)
                  · refine mj_blk h.1 b_Md_find_163 rfl trivial ?_
                    have hp2 := hp
                    unfold mFnd at hp2
                    rw [if_neg (show ¬ mE1 us ch cp sh sp a p b q i from fun z => h20 z.2.2.2.1), if_neg (show ¬ mE1 us ch cp sh sp b q a p i from fun z => h23 z.2.2.1)] at hp2
                    rw [show nI i + 1 = nI (i + 1) from (nI_succ i).symm]
                    exact ih (i + 1) (by omega) hp2
                  · refine mj_blk h.1 b_Md_find_133 rfl ⟨vp_in_nI (by omega) (by decide), trivial⟩ ?_
                    refine mj_icne h.1 (tgt := 163) d_Md_find_141 (by decide) (fun h24 => ?_) (fun h24 => ?_)
                    · refine mj_blk h.1 b_Md_find_163 rfl trivial ?_
                      have hp2 := hp
                      unfold mFnd at hp2
                      rw [if_neg (show ¬ mE1 us ch cp sh sp a p b q i from fun z => h20 z.2.2.2.1), if_neg (show ¬ mE1 us ch cp sh sp b q a p i from fun z => h24 z.2.2.2.1)] at hp2
                      rw [show nI i + 1 = nI (i + 1) from (nI_succ i).symm]
                      exact ih (i + 1) (by omega) hp2
                    · refine mj_blk h.1 b_Md_find_144 rfl ⟨vp_in_nI (by omega) (by decide), trivial⟩ ?_
                      refine mj_icne h.1 (tgt := 163) d_Md_find_153 (by decide) (fun h25 => ?_) (fun h25 => ?_)
                      · refine mj_blk h.1 b_Md_find_163 rfl trivial ?_
                        have hp2 := hp
                        unfold mFnd at hp2
                        rw [if_neg (show ¬ mE1 us ch cp sh sp a p b q i from fun z => h20 z.2.2.2.1), if_neg (show ¬ mE1 us ch cp sh sp b q a p i from fun z => h25 z.2.2.2.2)] at hp2
                        rw [show nI i + 1 = nI (i + 1) from (nI_succ i).symm]
                        exact ih (i + 1) (by omega) hp2
                      · have hp2 := hp
                        unfold mFnd at hp2
                        rw [if_neg (show ¬ mE1 us ch cp sh sp a p b q i from fun z => h20 z.2.2.2.1), if_pos (show mE1 us ch cp sh sp b q a p i from ⟨h21, h22, h23, h24, h25⟩)] at hp2
                        refine mj_blk h.1 b_Md_find_156 rfl trivial ?_
                        exact mj_iret h rfl d_Md_find_162 (by decide) (by decide) hp2
            · refine mj_blk h.1 b_Md_find_83 rfl ⟨vp_in_nI (by omega) (by decide), trivial⟩ ?_
              refine mj_icne h.1 (tgt := 100) d_Md_find_92 (by decide) (fun h26 => ?_) (fun h26 => ?_)
              · refine mj_blk h.1 b_Md_find_100 rfl ⟨vp_in_nI (by omega) (by decide), trivial⟩ ?_
                first | refine mj_ifeqB h.1 (tgt := 163) d_Md_find_107 (by decide) (fun h27 => ?_) (fun h27 => ?_) | refine mj_ifeq h.1 (tgt := 163) d_Md_find_107 (by decide) (fun h27 => ?_) (fun h27 => ?_)
                · refine mj_blk h.1 b_Md_find_163 rfl trivial ?_
                  have hp2 := hp
                  unfold mFnd at hp2
                  rw [if_neg (show ¬ mE1 us ch cp sh sp a p b q i from fun z => h26 z.2.2.2.2), if_neg (show ¬ mE1 us ch cp sh sp b q a p i from fun z => z.1 h27)] at hp2
                  rw [show nI i + 1 = nI (i + 1) from (nI_succ i).symm]
                  exact ih (i + 1) (by omega) hp2
                · refine mj_blk h.1 b_Md_find_110 rfl ⟨vp_in_nI (by omega) (by decide), trivial⟩ ?_
                  refine mj_icne h.1 (tgt := 163) d_Md_find_118 (by decide) (fun h28 => ?_) (fun h28 => ?_)
                  · refine mj_blk h.1 b_Md_find_163 rfl trivial ?_
                    have hp2 := hp
                    unfold mFnd at hp2
                    rw [if_neg (show ¬ mE1 us ch cp sh sp a p b q i from fun z => h26 z.2.2.2.2), if_neg (show ¬ mE1 us ch cp sh sp b q a p i from fun z => h28 z.2.1)] at hp2
                    rw [show nI i + 1 = nI (i + 1) from (nI_succ i).symm]
                    exact ih (i + 1) (by omega) hp2
                  · refine mj_blk h.1 b_Md_find_121 rfl ⟨vp_in_nI (by omega) (by decide), trivial⟩ ?_
                    refine mj_icne h.1 (tgt := 163) d_Md_find_130 (by decide) (fun h29 => ?_) (fun h29 => ?_)
                    · refine mj_blk h.1 b_Md_find_163 rfl trivial ?_
                      have hp2 := hp
                      unfold mFnd at hp2
                      rw [if_neg (show ¬ mE1 us ch cp sh sp a p b q i from fun z => h26 z.2.2.2.2), if_neg (show ¬ mE1 us ch cp sh sp b q a p i from fun z => h29 z.2.2.1)] at hp2
                      rw [show nI i + 1 = nI (i + 1) from (nI_succ i).symm]
                      exact ih (i + 1) (by omega) hp2
                    · refine mj_blk h.1 b_Md_find_133 rfl ⟨vp_in_nI (by omega) (by decide), trivial⟩ ?_
                      refine mj_icne h.1 (tgt := 163) d_Md_find_141 (by decide) (fun h30 => ?_) (fun h30 => ?_)
                      · refine mj_blk h.1 b_Md_find_163 rfl trivial ?_
                        have hp2 := hp
                        unfold mFnd at hp2
                        rw [if_neg (show ¬ mE1 us ch cp sh sp a p b q i from fun z => h26 z.2.2.2.2), if_neg (show ¬ mE1 us ch cp sh sp b q a p i from fun z => h30 z.2.2.2.1)] at hp2
                        rw [show nI i + 1 = nI (i + 1) from (nI_succ i).symm]
                        exact ih (i + 1) (by omega) hp2
                      · refine mj_blk h.1 b_Md_find_144 rfl ⟨vp_in_nI (by omega) (by decide), trivial⟩ ?_
                        refine mj_icne h.1 (tgt := 163) d_Md_find_153 (by decide) (fun h31 => ?_) (fun h31 => ?_)
                        · refine mj_blk h.1 b_Md_find_163 rfl trivial ?_
                          have hp2 := hp
                          unfold mFnd at hp2
                          rw [if_neg (show ¬ mE1 us ch cp sh sp a p b q i from fun z => h26 z.2.2.2.2), if_neg (show ¬ mE1 us ch cp sh sp b q a p i from fun z => h31 z.2.2.2.2)] at hp2
                          rw [show nI i + 1 = nI (i + 1) from (nI_succ i).symm]
                          exact ih (i + 1) (by omega) hp2
                        · have hp2 := hp
                          unfold mFnd at hp2
                          rw [if_neg (show ¬ mE1 us ch cp sh sp a p b q i from fun z => h26 z.2.2.2.2), if_pos (show mE1 us ch cp sh sp b q a p i from ⟨h27, h28, h29, h30, h31⟩)] at hp2
                          refine mj_blk h.1 b_Md_find_156 rfl trivial ?_
                          exact mj_iret h rfl d_Md_find_162 (by decide) (by decide) hp2
              · have hp2 := hp
                unfold mFnd at hp2
                rw [if_pos (show mE1 us ch cp sh sp a p b q i from ⟨h2, h8, h14, h20, h26⟩)] at hp2
                refine mj_blk h.1 b_Md_find_95 rfl trivial ?_
                exact mj_iret h rfl d_Md_find_99 (by decide) (by decide) hp2
set_option maxRecDepth 100000 in
set_option maxHeartbeats 4000000 in
theorem ev_Md_find (f us ch cp sh sp : Nat → Int32) (j : Nat) (hj : j + 3 < 100) : E0_Md_find l D cA [.ref 199, .int (nI j)] [(199, cMd th ls n ck ru tr al), (203, cIs 100 f), (204, cZs 4 us), (205, cIs 4 ch), (206, cIs 4 cp), (207, cIs 4 sh), (208, cIs 4 sp)] (some (.int (mFnd us ch cp sh sp (mFour f 12) (mPair f j) (mFour f 16) (mPair f (j + 2)) 4 0))) [(199, cMd th ls n ck ru tr al), (203, cIs 100 f), (204, cZs 4 us), (205, cIs 4 ch), (206, cIs 4 cp), (207, cIs 4 sh), (208, cIs 4 sp)] := by
  refine mj_ev (lv := [(0, .ref 199), (1, .int (nI j))]) (by decide +kernel) (Nat.le_of_ble_eq_true rfl) rfl (fun X h => ?_)
  refine mj_blk h.1 b_Md_find_0 rfl trivial ?_
  refine mj_callV h zGood (ev_Md_four l D cA _ _ _ _ _ _ _ _ 12 (by decide)) v_Md_four l_Md_find_3 d_Md_find_3 rfl ⟨by decide, by decide⟩ ⟨by decide, by decide⟩ [] rfl rfl rfl rfl rfl rfl (Nat.le_of_ble_eq_true rfl) ?_
  rintro _ _ ⟨rfl, rfl⟩
  refine mj_k rfl rfl ?_
  refine mj_blk h.1 b_Md_find_6 rfl trivial ?_
  refine mj_callV h zGood (ev_Md_four l D cA _ _ _ _ _ _ _ _ 16 (by decide)) v_Md_four l_Md_find_10 d_Md_find_10 rfl ⟨by decide, by decide⟩ ⟨by decide, by decide⟩ [] rfl rfl rfl rfl rfl rfl (Nat.le_of_ble_eq_true rfl) ?_
  rintro _ _ ⟨rfl, rfl⟩
  refine mj_k rfl rfl ?_
  refine mj_blk h.1 b_Md_find_13 rfl trivial ?_
  refine mj_callV h zGood (ev_Md_pair l D cA _ _ _ _ _ _ _ _ j (by omega)) v_Md_pair l_Md_find_16 d_Md_find_16 rfl ⟨by decide, by decide⟩ ⟨by decide, by decide⟩ [] rfl rfl rfl rfl rfl rfl (Nat.le_of_ble_eq_true rfl) ?_
  rintro _ _ ⟨rfl, rfl⟩
  refine mj_k rfl rfl ?_
  refine mj_blk h.1 b_Md_find_19 rfl trivial ?_
  rw [show nI j + 2 = nI (j + 2) from nI_add j 2]
  refine mj_callV h zGood (ev_Md_pair l D cA _ _ _ _ _ _ _ _ (j + 2) (by omega)) v_Md_pair l_Md_find_25 d_Md_find_25 rfl ⟨by decide, by decide⟩ ⟨by decide, by decide⟩ [] rfl rfl rfl rfl rfl rfl (Nat.le_of_ble_eq_true rfl) ?_
  rintro _ _ ⟨rfl, rfl⟩
  refine mj_k rfl rfl ?_
  refine mj_blk h.1 b_Md_find_28 rfl trivial ?_
  exact lp_Md_find l D cA th ls n ck ru tr al f us ch cp sh sp _ _ _ _ _ h 4 0 (by omega) ⟨rfl, rfl⟩
theorem mH_in {t : Nat} (ht : t < 8) {x : Int32} (h1 : ¬ x < 0) (h2 : x ≤ 31) : vp_in (32 * nI t + x) 256 := by
  obtain ⟨j, hj, rfl⟩ := nI_of h1
  have h3 : j ≤ 31 := (nI_leI (b := 31) hj (by decide)).mp h2
  rw [mX]
  exact vp_in_nI (by omega) (by decide)
/-- the place of a number in stream t's window -/
abbrev mHx (t : Nat) (x : Int32) : Nat := (32 * nI t + x).toNatClampNeg
def mHl (hl : Nat → Int32) (t : Nat) (x : Int32) : Nat → Int32 := if x < 0 then hl else if x ≤ 31 then upd hl (mHx t x) 1 else hl
def mHb (hl hb : Nat → Int32) (ls : Bool) (t : Nat) (x v : Int32) : Nat → Int32 := if x < 0 then hb else if x ≤ 31 then (if hl (mHx t x) = 0 ∨ ls = true then upd hb (mHx t x) v else hb) else hb
set_option maxRecDepth 100000 in
set_option maxHeartbeats 4000000 in
theorem ev_Md_hold (nx hl hb : Nat → Int32) (t : Nat) (ht : t < 8) (s v : Int32) : E0_Md_hold l D cA [.ref 199, .int (nI t), .int s, .int v] [(199, cMd th ls n ck ru tr al), (212, cIs 8 nx), (216, cZs 256 hl), (217, cIs 256 hb)] none [(199, cMd th ls n ck ru tr al), (212, cIs 8 nx), (216, cZs 256 (mHl hl t (s - nx (mIx t)))), (217, cIs 256 (mHb hl hb ls t (s - nx (mIx t)) v))] := by
  refine mj_ev (lv := [(0, .ref 199), (1, .int (nI t)), (2, .int s), (3, .int v)]) (by decide +kernel) (Nat.le_of_ble_eq_true rfl) rfl (fun X h => ?_)
  refine mj_blk h.1 b_Md_hold_0 rfl ⟨vp_in_nI (by omega) (by decide), trivial⟩ ?_
  refine mj_iflt h.1 (tgt := 22) d_Md_hold_12 (by decide) (fun h1 => ?_) (fun h1 => ?_)
  · exact mj_vret h rfl d_Md_hold_22 (by decide) (by decide) ⟨rfl, by unfold mHl mHb; rw [if_pos h1, if_pos h1]⟩
  · refine mj_blk h.1 b_Md_hold_15 rfl trivial ?_
    refine mj_icle h.1 (tgt := 23) d_Md_hold_19 (by decide) (fun h2 => ?_) (fun h2 => ?_)
    · refine mj_blk h.1 b_Md_hold_23 rfl ⟨mH_in ht h1 h2, trivial⟩ ?_
      first | refine mj_ifeqB h.1 (tgt := 49) d_Md_hold_39 (by decide) (fun h3 => ?_) (fun h3 => ?_) | refine mj_ifeq h.1 (tgt := 49) d_Md_hold_39 (by decide) (fun h3 => ?_) (fun h3 => ?_)
      · refine mj_blk h.1 b_Md_hold_49 rfl ⟨mH_in ht h1 h2, trivial⟩ ?_
        refine mj_blk h.1 b_Md_hold_57 rfl ⟨mH_in ht h1 h2, Or.inr rfl, trivial⟩ ?_
        exact mj_vret h rfl d_Md_hold_65 (by decide) (by decide) ⟨rfl, by unfold mHl mHb; rw [if_neg h1, if_pos h2, if_neg h1, if_pos h2, if_pos (Or.inl h3)]⟩
      · refine mj_blk h.1 b_Md_hold_42 rfl trivial ?_
        first | refine mj_ifeqB h.1 (tgt := 57) d_Md_hold_46 (by decide) (fun h4 => ?_) (fun h4 => ?_) | refine mj_ifeq h.1 (tgt := 57) d_Md_hold_46 (by decide) (fun h4 => ?_) (fun h4 => ?_)
        · refine mj_blk h.1 b_Md_hold_57 rfl ⟨mH_in ht h1 h2, Or.inr rfl, trivial⟩ ?_
          exact mj_vret h rfl d_Md_hold_65 (by decide) (by decide) ⟨rfl, by unfold mHl mHb; rw [if_neg h1, if_pos h2, if_neg h1, if_pos h2, if_neg (fun z : _ ∨ _ => z.elim h3 h4)]⟩
        · refine mj_blk h.1 b_Md_hold_49 rfl ⟨mH_in ht h1 h2, trivial⟩ ?_
          refine mj_blk h.1 b_Md_hold_57 rfl ⟨mH_in ht h1 h2, Or.inr rfl, trivial⟩ ?_
          exact mj_vret h rfl d_Md_hold_65 (by decide) (by decide) ⟨rfl, by unfold mHl mHb; rw [if_neg h1, if_pos h2, if_neg h1, if_pos h2, if_pos (Or.inr h4)]⟩
    · exact mj_vret h rfl d_Md_hold_22 (by decide) (by decide) ⟨rfl, by unfold mHl mHb; rw [if_neg h1, if_neg h2, if_neg h1, if_neg h2]⟩
end MODE
