/-! The reference: begin (by program: wip/whole/src_md8.py) -/
def mZero (b : Nat) : Nat → Nat → (Nat → Int32) → (Nat → Int32)
  | 0, _, g => g
  | r + 1, k, g => mZero b r (k + 1) (upd g (b + k) 0)
def mClr (F : (Nat → Int32) → Nat → (Nat → Int32)) : Nat → Nat → (Nat → Int32) → (Nat → Int32)
  | 0, _, g => g
  | r + 1, t, g => mClr F r (t + 1) (F g t)
abbrev mU0 (g : Nat → Int32) (t : Nat) : Nat → Int32 := upd g t 0
abbrev mZ32 (g : Nat → Int32) (t : Nat) : Nat → Int32 := mZero (32 * t) 32 0 g
abbrev mZ6 (g : Nat → Int32) (t : Nat) : Nat → Int32 := mZero (6 * t) 6 0 g
section MODH
variable (l : Launch) (D : va_G) (cA : Nat → ClassId) (th : Int32) (ls : Bool) (n : Nat) (ck : Int32) (ru : Nat) (tr al : Int32) (f us ch cp sh sp : Nat → Int32)

set_option maxRecDepth 100000 in
set_option maxHeartbeats 8000000 in
theorem lp_Md_begin_a {X : mj_X} {post : mj_R} (h : mj_E zG X l D cA m_Md_begin 2 80 0 0 (fun _ => True) post) (x y : Int32) (t : Nat) (ht : t < 8) (bgn nx en sz rs : Nat → Int32) : ∀ (r k : Nat) (hl : Nat → Int32), k + r = 32 → (∀ k9 : Nat, mj_W zG X 0 0 125 [(4, .int (nI k9)), (3, .int (nI t)), (0, .ref 199), (1, .int x), (2, .int y)] [] [(199, cMd th ls n ck ru tr al), (203, cIs 100 f), (204, cZs 4 us), (205, cIs 4 ch), (206, cIs 4 cp), (207, cIs 4 sh), (208, cIs 4 sp), (211, cZs 8 bgn), (212, cIs 8 nx), (213, cZs 8 en), (214, cIs 8 sz), (216, cZs 256 (mZero (32 * t) r k hl)), (218, cZs 48 rs)]) → mj_W zG X 0 0 99 [(4, .int (nI k)), (3, .int (nI t)), (0, .ref 199), (1, .int x), (2, .int y)] [] [(199, cMd th ls n ck ru tr al), (203, cIs 100 f), (204, cZs 4 us), (205, cIs 4 ch), (206, cIs 4 cp), (207, cIs 4 sh), (208, cIs 4 sp), (211, cZs 8 bgn), (212, cIs 8 nx), (213, cZs 8 en), (214, cIs 8 sz), (216, cZs 256 hl), (218, cZs 48 rs)] := by
  intro r
  induction r with
  | zero =>
    intro k hl hk K
    refine mj_blk h.1 b_Md_begin_99 rfl trivial ?_
    refine mj_icge h.1 (tgt := 125) d_Md_begin_103 (by decide) (fun h1 => ?_) (fun h1 => ?_)
    · exact K k
    · exact absurd (show nI 32 ≤ nI k from nI_le (by omega) (by omega)) h1
  | succ r ih =>
    intro k hl hk K
    refine mj_blk h.1 b_Md_begin_99 rfl trivial ?_
    refine mj_icge h.1 (tgt := 125) d_Md_begin_103 (by decide) (fun h1 => ?_) (fun h1 => ?_)
    · exact absurd ((nI_leI (a := 32) (by omega) (by omega)).mp h1) (by omega)
    · refine mj_blk h.1 b_Md_begin_106 rfl ⟨by rw [mX]; exact vp_in_nI (by omega) (by decide), Or.inl rfl, trivial⟩ ?_
      rw [mX, nI_clamp (by omega), show nI k + 1 = nI (k + 1) from (nI_succ k).symm]
      exact ih (k + 1) _ (by omega) K
set_option maxRecDepth 100000 in
set_option maxHeartbeats 8000000 in
theorem lp_Md_begin_b {X : mj_X} {post : mj_R} (h : mj_E zG X l D cA m_Md_begin 2 80 0 0 (fun _ => True) post) (x y : Int32) (t : Nat) (ht : t < 8) (bgn nx en sz hl : Nat → Int32) : ∀ (r k : Nat) (rs : Nat → Int32), k + r = 6 → (∀ k9 : Nat, mj_W zG X 0 0 154 [(4, .int (nI k9)), (3, .int (nI t)), (0, .ref 199), (1, .int x), (2, .int y)] [] [(199, cMd th ls n ck ru tr al), (203, cIs 100 f), (204, cZs 4 us), (205, cIs 4 ch), (206, cIs 4 cp), (207, cIs 4 sh), (208, cIs 4 sp), (211, cZs 8 bgn), (212, cIs 8 nx), (213, cZs 8 en), (214, cIs 8 sz), (216, cZs 256 hl), (218, cZs 48 (mZero (6 * t) r k rs))]) → mj_W zG X 0 0 128 [(4, .int (nI k)), (3, .int (nI t)), (0, .ref 199), (1, .int x), (2, .int y)] [] [(199, cMd th ls n ck ru tr al), (203, cIs 100 f), (204, cZs 4 us), (205, cIs 4 ch), (206, cIs 4 cp), (207, cIs 4 sh), (208, cIs 4 sp), (211, cZs 8 bgn), (212, cIs 8 nx), (213, cZs 8 en), (214, cIs 8 sz), (216, cZs 256 hl), (218, cZs 48 rs)] := by
  intro r
  induction r with
  | zero =>
    intro k rs hk K
    refine mj_blk h.1 b_Md_begin_128 rfl trivial ?_
    refine mj_icge h.1 (tgt := 154) d_Md_begin_132 (by decide) (fun h1 => ?_) (fun h1 => ?_)
    · exact K k
    · exact absurd (show nI 6 ≤ nI k from nI_le (by omega) (by omega)) h1
  | succ r ih =>
    intro k rs hk K
    refine mj_blk h.1 b_Md_begin_128 rfl trivial ?_
    refine mj_icge h.1 (tgt := 154) d_Md_begin_132 (by decide) (fun h1 => ?_) (fun h1 => ?_)
    · exact absurd ((nI_leI (a := 6) (by omega) (by omega)).mp h1) (by omega)
    · refine mj_blk h.1 b_Md_begin_135 rfl ⟨by rw [m6]; exact vp_in_nI (by omega) (by decide), Or.inl rfl, trivial⟩ ?_
      rw [m6, nI_clamp (by omega), show nI k + 1 = nI (k + 1) from (nI_succ k).symm]
      exact ih (k + 1) _ (by omega) K
theorem mT2 (j : Nat) : 2 * nI j + 2 = nI (2 * j + 2) := by rw [show (2 : Int32) = nI 2 from rfl, pk_mul, nI_add]
set_option maxRecDepth 100000 in
set_option maxHeartbeats 8000000 in
theorem lp_Md_begin {X : mj_X} {post : mj_R} (h : mj_E zG X l D cA m_Md_begin 2 80 0 0 (fun _ => True) post) (y : Int32) (j : Nat) (hj : j < 4) : ∀ (m t : Nat), t + m = 2 * j + 2 → ∀ (bgn nx en sz hl rs : Nat → Int32), post none [(199, cMd th ls n ck ru tr al), (203, cIs 100 f), (204, cZs 4 us), (205, cIs 4 ch), (206, cIs 4 cp), (207, cIs 4 sh), (208, cIs 4 sp), (211, cZs 8 (mClr mU0 m t bgn)), (212, cIs 8 (mClr mU0 m t nx)), (213, cZs 8 (mClr mU0 m t en)), (214, cIs 8 (mClr mU0 m t sz)), (216, cZs 256 (mClr mZ32 m t hl)), (218, cZs 48 (mClr mZ6 m t rs))] → mj_W zG X 0 0 59 [(3, .int (nI t)), (0, .ref 199), (1, .int (nI j)), (2, .int y)] [] [(199, cMd th ls n ck ru tr al), (203, cIs 100 f), (204, cZs 4 us), (205, cIs 4 ch), (206, cIs 4 cp), (207, cIs 4 sh), (208, cIs 4 sp), (211, cZs 8 bgn), (212, cIs 8 nx), (213, cZs 8 en), (214, cIs 8 sz), (216, cZs 256 hl), (218, cZs 48 rs)] := by
  intro m
  induction m with
  | zero =>
    intro t hm bgn nx en sz hl rs hp
    refine mj_blk h.1 b_Md_begin_59 rfl trivial ?_
    refine mj_icge h.1 (tgt := 160) d_Md_begin_65 (by decide) (fun h1 => ?_) (fun h1 => ?_)
    · exact mj_vret h rfl d_Md_begin_160 (by decide) (by decide) hp
    · exact absurd (by rw [mT2]; exact nI_le (by omega) (by omega)) h1
  | succ m ih =>
    intro t hm bgn nx en sz hl rs hp
    refine mj_blk h.1 b_Md_begin_59 rfl trivial ?_
    refine mj_icge h.1 (tgt := 160) d_Md_begin_65 (by decide) (fun h1 => ?_) (fun h1 => ?_)
    · exact absurd (by rw [mT2] at h1; exact (nI_leI (by omega) (by omega)).mp h1) (by omega)
    · refine mj_blk h.1 b_Md_begin_68 rfl ⟨vp_in_nI (by omega) (by decide), vp_in_nI (by omega) (by decide), Or.inl rfl, vp_in_nI (by omega) (by decide), vp_in_nI (by omega) (by decide), Or.inl rfl, trivial⟩ ?_
      rw [nI_clamp (by omega)]
      refine lp_Md_begin_a l D cA th ls n ck ru tr al f us ch cp sh sp h _ y t (by omega) _ _ _ _ rs 32 0 hl (by omega) (fun k9 => ?_)
      refine mj_blk h.1 b_Md_begin_125 rfl trivial ?_
      refine lp_Md_begin_b l D cA th ls n ck ru tr al f us ch cp sh sp h _ y t (by omega) _ _ _ _ _ 6 0 rs (by omega) (fun k8 => ?_)
      refine mj_blk h.1 b_Md_begin_154 rfl trivial ?_
      refine mj_lpk [0, 2, 3, 4] rfl ?_
      rw [show nI t + 1 = nI (t + 1) from (nI_succ t).symm]
      exact ih (t + 1) (by omega) _ _ _ _ _ _ hp
set_option maxRecDepth 100000 in
set_option maxHeartbeats 4000000 in
theorem ev_Md_begin (j q : Nat) (hj : j < 4) (hq : q + 3 < 100) (bgn nx en sz hl rs : Nat → Int32) : E0_Md_begin l D cA [.ref 199, .int (nI j), .int (nI q)] [(199, cMd th ls n ck ru tr al), (203, cIs 100 f), (204, cZs 4 us), (205, cIs 4 ch), (206, cIs 4 cp), (207, cIs 4 sh), (208, cIs 4 sp), (211, cZs 8 bgn), (212, cIs 8 nx), (213, cZs 8 en), (214, cIs 8 sz), (216, cZs 256 hl), (218, cZs 48 rs)] none [(199, cMd th ls n ck ru tr al), (203, cIs 100 f), (204, cZs 4 (upd us j 1)), (205, cIs 4 (upd ch j (mFour f 12))), (206, cIs 4 (upd cp j (mPair f q))), (207, cIs 4 (upd sh j (mFour f 16))), (208, cIs 4 (upd sp j (mPair f (q + 2)))), (211, cZs 8 (mClr mU0 2 (2 * j) bgn)), (212, cIs 8 (mClr mU0 2 (2 * j) nx)), (213, cZs 8 (mClr mU0 2 (2 * j) en)), (214, cIs 8 (mClr mU0 2 (2 * j) sz)), (216, cZs 256 (mClr mZ32 2 (2 * j) hl)), (218, cZs 48 (mClr mZ6 2 (2 * j) rs))] := by
  refine mj_ev (lv := [(0, .ref 199), (1, .int (nI j)), (2, .int (nI q))]) (by decide +kernel) (Nat.le_of_ble_eq_true rfl) rfl (fun X h => ?_)
  refine mj_blk h.1 b_Md_begin_0 rfl ⟨vp_in_nI (by omega) (by decide), Or.inr rfl, trivial⟩ ?_
  refine mj_callV h zGood (ev_Md_four l D cA _ _ _ _ _ _ _ _ 12 (by decide)) v_Md_four l_Md_begin_15 d_Md_begin_15 rfl ⟨by decide, by decide⟩ ⟨by decide, by decide⟩ [] rfl rfl rfl rfl rfl rfl (Nat.le_of_ble_eq_true rfl) ?_
  rintro _ _ ⟨rfl, rfl⟩
  refine mj_k rfl rfl ?_
  refine mj_blk h.1 b_Md_begin_18 rfl ⟨vp_in_nI (by omega) (by decide), trivial⟩ ?_
  refine mj_callV h zGood (ev_Md_pair l D cA _ _ _ _ _ _ _ _ q (by omega)) v_Md_pair l_Md_begin_26 d_Md_begin_26 rfl ⟨by decide, by decide⟩ ⟨by decide, by decide⟩ [] rfl rfl rfl rfl rfl rfl (Nat.le_of_ble_eq_true rfl) ?_
  rintro _ _ ⟨rfl, rfl⟩
  refine mj_k rfl rfl ?_
  refine mj_blk h.1 b_Md_begin_29 rfl ⟨vp_in_nI (by omega) (by decide), trivial⟩ ?_
  refine mj_callV h zGood (ev_Md_four l D cA _ _ _ _ _ _ _ _ 16 (by decide)) v_Md_four l_Md_begin_38 d_Md_begin_38 rfl ⟨by decide, by decide⟩ ⟨by decide, by decide⟩ [] rfl rfl rfl rfl rfl rfl (Nat.le_of_ble_eq_true rfl) ?_
  rintro _ _ ⟨rfl, rfl⟩
  refine mj_k rfl rfl ?_
  refine mj_blk h.1 b_Md_begin_41 rfl ⟨vp_in_nI (by omega) (by decide), trivial⟩ ?_
  rw [show nI q + 2 = nI (q + 2) from nI_add q 2]
  refine mj_callV h zGood (ev_Md_pair l D cA _ _ _ _ _ _ _ _ (q + 2) (by omega)) v_Md_pair l_Md_begin_51 d_Md_begin_51 rfl ⟨by decide, by decide⟩ ⟨by decide, by decide⟩ [] rfl rfl rfl rfl rfl rfl (Nat.le_of_ble_eq_true rfl) ?_
  rintro _ _ ⟨rfl, rfl⟩
  refine mj_k rfl rfl ?_
  refine mj_blk h.1 b_Md_begin_54 rfl ⟨vp_in_nI (by omega) (by decide), trivial⟩ ?_
  rw [nI_clamp (by omega), show (2 * nI j : Int32) = nI (2 * j) by rw [show (2 : Int32) = nI 2 from rfl, pk_mul]]
  exact lp_Md_begin l D cA th ls n ck ru tr al f _ _ _ _ _ h _ j hj 2 (2 * j) (by omega) bgn nx en sz hl rs ⟨rfl, rfl⟩
end MODH
