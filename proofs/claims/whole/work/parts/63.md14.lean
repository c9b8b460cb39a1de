/-! The reference: grow (by program: wip/whole/src_md14.py) -/
def mShH (t : Nat) : Nat → Nat → (Nat → Int32) → (Nat → Int32)
  | 0, _, g => g
  | r + 1, k, g => mShH t r (k + 1) (upd g (32 * t + k) (if r = 0 then 0 else if g (32 * t + (k + 1)) = 0 then 0 else 1))
def mShB (t : Nat) : Nat → Nat → (Nat → Int32) → (Nat → Int32)
  | 0, _, g => g
  | r + 1, k, g => mShB t r (k + 1) (upd g (32 * t + k) (if r = 0 then 0 else g (32 * t + (k + 1))))
theorem u_shH (t : Nat) : ∀ (r k : Nat) (g : Nat → Int32) (j : Nat), mShH t r k g j = if 32 * t + k ≤ j ∧ j < 32 * t + k + r then (if j + 1 = 32 * t + k + r then 0 else if g (j + 1) = 0 then 0 else 1) else g j := by
  intro r
  induction r with
  | zero => intro k g j; rw [if_neg (show ¬ (32 * t + k ≤ j ∧ j < 32 * t + k + 0) by omega)]; rfl
  | succ r ih =>
    intro k g j
    show mShH t r (k + 1) _ j = _
    rw [ih]
    by_cases h : 32 * t + (k + 1) ≤ j ∧ j < 32 * t + (k + 1) + r
    · rw [if_pos h, if_pos (show 32 * t + k ≤ j ∧ j < 32 * t + k + (r + 1) by omega)]
      by_cases h2 : j + 1 = 32 * t + (k + 1) + r
      · rw [if_pos h2, if_pos (show j + 1 = 32 * t + k + (r + 1) by omega)]
      · rw [if_neg h2, if_neg (show ¬ j + 1 = 32 * t + k + (r + 1) by omega), pk_un (by omega)]
    · rw [if_neg h]
      by_cases e : j = 32 * t + k
      · subst e
        rw [pk_us, if_pos (show 32 * t + k ≤ 32 * t + k ∧ 32 * t + k < 32 * t + k + (r + 1) by omega)]
        by_cases h2 : r = 0
        · rw [if_pos h2, if_pos (show 32 * t + k + 1 = 32 * t + k + (r + 1) by omega)]
        · rw [if_neg h2, if_neg (show ¬ 32 * t + k + 1 = 32 * t + k + (r + 1) by omega)]; rfl
      · rw [pk_un e, if_neg (show ¬ (32 * t + k ≤ j ∧ j < 32 * t + k + (r + 1)) by omega)]
theorem u_shB (t : Nat) : ∀ (r k : Nat) (g : Nat → Int32) (j : Nat), mShB t r k g j = if 32 * t + k ≤ j ∧ j < 32 * t + k + r then (if j + 1 = 32 * t + k + r then 0 else g (j + 1)) else g j := by
  intro r
  induction r with
  | zero => intro k g j; rw [if_neg (show ¬ (32 * t + k ≤ j ∧ j < 32 * t + k + 0) by omega)]; rfl
  | succ r ih =>
    intro k g j
    show mShB t r (k + 1) _ j = _
    rw [ih]
    by_cases h : 32 * t + (k + 1) ≤ j ∧ j < 32 * t + (k + 1) + r
    · rw [if_pos h, if_pos (show 32 * t + k ≤ j ∧ j < 32 * t + k + (r + 1) by omega)]
      by_cases h2 : j + 1 = 32 * t + (k + 1) + r
      · rw [if_pos h2, if_pos (show j + 1 = 32 * t + k + (r + 1) by omega)]
      · rw [if_neg h2, if_neg (show ¬ j + 1 = 32 * t + k + (r + 1) by omega), pk_un (by omega)]
    · rw [if_neg h]
      by_cases e : j = 32 * t + k
      · subst e
        rw [pk_us, if_pos (show 32 * t + k ≤ 32 * t + k ∧ 32 * t + k < 32 * t + k + (r + 1) by omega)]
        by_cases h2 : r = 0
        · rw [if_pos h2, if_pos (show 32 * t + k + 1 = 32 * t + k + (r + 1) by omega)]
        · rw [if_neg h2, if_neg (show ¬ 32 * t + k + 1 = 32 * t + k + (r + 1) by omega)]; rfl
      · rw [pk_un e, if_neg (show ¬ (32 * t + k ≤ j ∧ j < 32 * t + k + (r + 1)) by omega)]
theorem u_shH0 (t : Nat) (g : Nat → Int32) {k : Nat} (hk : k < 31) : mShH t 32 0 g (32 * t + k) = if g (32 * t + (k + 1)) = 0 then 0 else 1 := by
  rw [u_shH, if_pos (show 32 * t + 0 ≤ 32 * t + k ∧ 32 * t + k < 32 * t + 0 + 32 by omega), if_neg (show ¬ 32 * t + k + 1 = 32 * t + 0 + 32 by omega)]; rfl
theorem u_shHe (t : Nat) (g : Nat → Int32) : mShH t 32 0 g (32 * t + 31) = 0 := by
  rw [u_shH, if_pos (show 32 * t + 0 ≤ 32 * t + 31 ∧ 32 * t + 31 < 32 * t + 0 + 32 by omega), if_pos (show 32 * t + 31 + 1 = 32 * t + 0 + 32 by omega)]
theorem u_shHo (t : Nat) (g : Nat → Int32) {j : Nat} (hj : j < 32 * t ∨ 32 * t + 32 ≤ j) : mShH t 32 0 g j = g j := by
  rw [u_shH, if_neg (show ¬ (32 * t + 0 ≤ j ∧ j < 32 * t + 0 + 32) by omega)]
theorem u_shB0 (t : Nat) (g : Nat → Int32) {k : Nat} (hk : k < 31) : mShB t 32 0 g (32 * t + k) = g (32 * t + (k + 1)) := by
  rw [u_shB, if_pos (show 32 * t + 0 ≤ 32 * t + k ∧ 32 * t + k < 32 * t + 0 + 32 by omega), if_neg (show ¬ 32 * t + k + 1 = 32 * t + 0 + 32 by omega)]; rfl
theorem u_shBo (t : Nat) (g : Nat → Int32) {j : Nat} (hj : j < 32 * t ∨ 32 * t + 32 ≤ j) : mShB t 32 0 g j = g j := by
  rw [u_shB, if_neg (show ¬ (32 * t + 0 ≤ j ∧ j < 32 * t + 0 + 32) by omega)]

/-- growing: size, sizes, texts, next, holds, held bytes, what look alters -/
abbrev gT : Type := Nat × (Nat → Int32) × (Nat → Int32) × (Nat → Int32) × (Nat → Int32) × (Nat → Int32) × mS
abbrev gT.s (q : gT) : Nat := q.1
abbrev gT.sz (q : gT) : Nat → Int32 := q.2.1
abbrev gT.tx (q : gT) : Nat → Int32 := q.2.2.1
abbrev gT.nx (q : gT) : Nat → Int32 := q.2.2.2.1
abbrev gT.hl (q : gT) : Nat → Int32 := q.2.2.2.2.1
abbrev gT.hb (q : gT) : Nat → Int32 := q.2.2.2.2.2.1
abbrev gT.S (q : gT) : mS := q.2.2.2.2.2.2
abbrev mRw (R : mR) (sz tx : Nat → Int32) : mR := ⟨R.cp, R.sp, sz, tx, R.rw9, R.rp, R.op, R.cs, R.ct, R.mk', R.lst, R.spn, R.cN, R.oN⟩
abbrev mGl (R : mR) (t ru : Nat) (q : gT) : mS := mLk (mRw R (upd q.sz t (nI (q.s + 1))) (upd q.tx (80 * t + q.s) (q.hb (32 * t)))) t (q.s + 1) ru 0 ⟨0, q.S.2⟩
def mG1 (R : mR) (t ru : Nat) (q : gT) : gT :=
  if q.s < 80 then ⟨q.s + 1, upd q.sz t (nI (q.s + 1)), upd q.tx (80 * t + q.s) (q.hb (32 * t)), upd q.nx t (q.nx t + 1), mShH t 32 0 q.hl, mShB t 32 0 q.hb, ⟨q.S.c + (mGl R t ru q).c, (mGl R t ru q).2⟩⟩
  else ⟨q.s, q.sz, q.tx, upd q.nx t (q.nx t + 1), mShH t 32 0 q.hl, mShB t 32 0 q.hb, q.S⟩
def mGr (R : mR) (t ru : Nat) : Nat → gT → gT
  | 0, q => q
  | r + 1, q => if q.hl (32 * t) = 0 then q else mGr R t ru r (mG1 R t ru q)
def mRO (R : mR) (t ru : Nat) : Prop := t < 8 ∧ ru ≤ 6 ∧ (∀ i, i < ru → R.op (mIx i) = nI (R.oN i) ∧ R.oN i ≤ 3) ∧ (∀ i, i < 18 → R.cs (mIx i) = nI (R.cN i)) ∧ ∀ i, i < 18 → R.cN i ≤ 6
section MODN
variable (l : Launch) (D : va_G) (cA : Nat → ClassId) (th : Int32) (ls : Bool) (n : Nat) (ck : Int32) (ru : Nat) (t : Nat)

set_option maxRecDepth 100000 in
set_option maxHeartbeats 8000000 in
theorem lp_Md_grow_s {X : mj_X} {post : mj_R} (h : mj_E zG X l D cA m_Md_grow 5 200 0 0 (fun _ => True) post) (R : mR) (S : mS) (sz tx nx : Nat → Int32) (a3 c2 : Int32) (ht : t < 8) : ∀ (r k : Nat) (hl hb : Nat → Int32), k + r = 32 → (∀ k9 : Nat, mj_W zG X 0 0 165 [(4, .int (nI k9)), (3, .int a3), (2, .int c2), (0, .ref 199), (1, .int (nI t))] [] [(199, cMd th ls n ck ru S.tr S.al), (206, cIs 4 R.cp), (208, cIs 4 R.sp), (212, cIs 8 nx), (214, cIs 8 sz), (215, cIs 640 tx), (216, cZs 256 (mShH t r k hl)), (217, cIs 256 (mShB t r k hb)), (218, cZs 48 S.ra), (220, cIs 6 R.rw9), (221, cIs 6 R.rp), (222, cIs 6 R.op), (223, cIs 18 R.cs), (224, cIs 108 R.ct), (225, cIs 18 R.mk'), (226, cIs 18 R.lst), (227, cIs 18 R.spn), (229, cIs 3 S.lv), (230, cIs 3 S.pl), (232, cIs 96 S.at')]) → mj_W zG X 0 0 73 [(4, .int (nI k)), (3, .int a3), (2, .int c2), (0, .ref 199), (1, .int (nI t))] [] [(199, cMd th ls n ck ru S.tr S.al), (206, cIs 4 R.cp), (208, cIs 4 R.sp), (212, cIs 8 nx), (214, cIs 8 sz), (215, cIs 640 tx), (216, cZs 256 hl), (217, cIs 256 hb), (218, cZs 48 S.ra), (220, cIs 6 R.rw9), (221, cIs 6 R.rp), (222, cIs 6 R.op), (223, cIs 18 R.cs), (224, cIs 108 R.ct), (225, cIs 18 R.mk'), (226, cIs 18 R.lst), (227, cIs 18 R.spn), (229, cIs 3 S.lv), (230, cIs 3 S.pl), (232, cIs 96 S.at')] := by
  intro r
  induction r with
  | zero =>
    intro k hl hb hk K
    refine mj_blk h.1 b_Md_grow_73 rfl trivial ?_
    refine mj_icge h.1 (tgt := 165) d_Md_grow_77 (by decide) (fun h1 => ?_) (fun h1 => ?_)
    · exact K k
    · exact absurd (show nI 32 ≤ nI k from nI_le (by omega) (by omega)) h1
  | succ r ih =>
    intro k hl hb hk K
    refine mj_blk h.1 b_Md_grow_73 rfl trivial ?_
    refine mj_icge h.1 (tgt := 165) d_Md_grow_77 (by decide) (fun h1 => ?_) (fun h1 => ?_)
    · exact absurd ((nI_leI (a := 32) (by omega) (by omega)).mp h1) (by omega)
    · refine mj_blk h.1 b_Md_grow_80 rfl trivial ?_
      rw [mX]
      refine mj_icge h.1 (tgt := 130) d_Md_grow_99 (by decide) (fun h2 => ?_) (fun h2 => ?_)
      · refine mj_blk h.1 b_Md_grow_130 rfl trivial ?_
        refine mj_blk h.1 b_Md_grow_131 rfl ⟨vp_in_nI (by omega) (by decide), (by first | exact Or.inl rfl | exact Or.inr rfl), trivial⟩ ?_
        refine mj_icge h.1 (tgt := 157) d_Md_grow_142 (by decide) (fun h3 => ?_) (fun h3 => ?_)
        · refine mj_blk h.1 b_Md_grow_157 rfl trivial ?_
          refine mj_blk h.1 b_Md_grow_158 rfl ⟨vp_in_nI (by omega) (by decide), trivial⟩ ?_
          refine mj_lpk [0, 2, 3, 4, 5] rfl ?_
          rw [show nI k + 1 = nI (k + 1) from (nI_succ k).symm, nI_clamp (n := 32 * t + k) (by omega)]
          have K2 := K
          unfold mShH mShB at K2
          have hr0 : r = 0 := by have := (nI_leI (a := 31) (by decide) (by omega)).mp h2; omega
          rw [if_pos hr0, if_pos hr0] at K2
          exact ih (k + 1) _ _ (by omega) K2
        · exact absurd h2 h3
      · have hr0 : ¬ r = 0 := fun z => h2 (show nI 31 ≤ nI k from nI_le (by omega) (by omega))
        refine mj_blk h.1 b_Md_grow_102 rfl trivial ?_
        refine mj_icge h.1 (tgt := 120) d_Md_grow_110 (by decide) (fun h4 => ?_) (fun h4 => ?_)
        · exact absurd h4 h2
        · refine mj_blk h.1 b_Md_grow_113 rfl trivial ?_
          refine mj_blk h.1 b_Md_grow_122 rfl ⟨by rw [nI_1]; exact vp_in_nI (by omega) (by decide), trivial⟩ ?_
          rw [(show nI (32 * t + k) + 1 = nI (32 * t + (k + 1)) from nI_1 _), nI_clamp (n := 32 * t + (k + 1)) (by omega)]
          first | refine mj_ifeqB h.1 (tgt := 130) d_Md_grow_123 (by decide) (fun h5 => ?_) (fun h5 => ?_) | refine mj_ifeq h.1 (tgt := 130) d_Md_grow_123 (by decide) (fun h5 => ?_) (fun h5 => ?_)
          · refine mj_blk h.1 b_Md_grow_130 rfl trivial ?_
            refine mj_blk h.1 b_Md_grow_131 rfl ⟨vp_in_nI (by omega) (by decide), (by first | exact Or.inl rfl | exact Or.inr rfl), trivial⟩ ?_
            refine mj_icge h.1 (tgt := 157) d_Md_grow_142 (by decide) (fun h6 => ?_) (fun h6 => ?_)
            · exact absurd h6 h2
            · refine mj_blk h.1 b_Md_grow_145 rfl ⟨by rw [nI_1]; exact vp_in_nI (by omega) (by decide), trivial⟩ ?_
              refine mj_blk h.1 b_Md_grow_158 rfl ⟨vp_in_nI (by omega) (by decide), trivial⟩ ?_
              refine mj_lpk [0, 2, 3, 4, 5] rfl ?_
              rw [show nI k + 1 = nI (k + 1) from (nI_succ k).symm, nI_clamp (n := 32 * t + k) (by omega)]
              have K2 := K
              unfold mShH mShB at K2
              rw [if_neg hr0, if_neg hr0, if_pos h5] at K2
              rw [(show nI (32 * t + k) + 1 = nI (32 * t + (k + 1)) from nI_1 _), nI_clamp (n := 32 * t + (k + 1)) (by omega)]
              exact ih (k + 1) _ _ (by omega) K2
          · refine mj_blk h.1 b_Md_grow_126 rfl trivial ?_
            refine mj_blk h.1 b_Md_grow_131 rfl ⟨vp_in_nI (by omega) (by decide), (by first | exact Or.inl rfl | exact Or.inr rfl), trivial⟩ ?_
            refine mj_icge h.1 (tgt := 157) d_Md_grow_142 (by decide) (fun h7 => ?_) (fun h7 => ?_)
            · exact absurd h7 h2
            · refine mj_blk h.1 b_Md_grow_145 rfl ⟨by rw [nI_1]; exact vp_in_nI (by omega) (by decide), trivial⟩ ?_
              refine mj_blk h.1 b_Md_grow_158 rfl ⟨vp_in_nI (by omega) (by decide), trivial⟩ ?_
              refine mj_lpk [0, 2, 3, 4, 5] rfl ?_
              rw [show nI k + 1 = nI (k + 1) from (nI_succ k).symm, nI_clamp (n := 32 * t + k) (by omega)]
              have K2 := K
              unfold mShH mShB at K2
              rw [if_neg hr0, if_neg hr0, if_neg h5] at K2
              rw [(show nI (32 * t + k) + 1 = nI (32 * t + (k + 1)) from nI_1 _), nI_clamp (n := 32 * t + (k + 1)) (by omega)]
              exact ih (k + 1) _ _ (by omega) K2
set_option maxRecDepth 100000 in
set_option maxHeartbeats 8000000 in
theorem lp_Md_grow {X : mj_X} {post : mj_R} (h : mj_E zG X l D cA m_Md_grow 5 200 0 0 (fun _ => True) post) (R : mR) (K1 : mRO R t ru) : ∀ (r : Nat) (q : gT), q.s ≤ 80 → q.sz t = nI q.s → (∀ k, r ≤ k → k < 32 → q.hl (32 * t + k) = 0) → post (some (.int (mGr R t ru r q).S.c)) [(199, cMd th ls n ck ru (mGr R t ru r q).S.tr (mGr R t ru r q).S.al), (206, cIs 4 R.cp), (208, cIs 4 R.sp), (212, cIs 8 (mGr R t ru r q).nx), (214, cIs 8 (mGr R t ru r q).sz), (215, cIs 640 (mGr R t ru r q).tx), (216, cZs 256 (mGr R t ru r q).hl), (217, cIs 256 (mGr R t ru r q).hb), (218, cZs 48 (mGr R t ru r q).S.ra), (220, cIs 6 R.rw9), (221, cIs 6 R.rp), (222, cIs 6 R.op), (223, cIs 18 R.cs), (224, cIs 108 R.ct), (225, cIs 18 R.mk'), (226, cIs 18 R.lst), (227, cIs 18 R.spn), (229, cIs 3 (mGr R t ru r q).S.lv), (230, cIs 3 (mGr R t ru r q).S.pl), (232, cIs 96 (mGr R t ru r q).S.at')] → mj_W zG X 0 0 2 [(2, .int q.S.c), (0, .ref 199), (1, .int (nI t))] [] [(199, cMd th ls n ck ru q.S.tr q.S.al), (206, cIs 4 R.cp), (208, cIs 4 R.sp), (212, cIs 8 q.nx), (214, cIs 8 q.sz), (215, cIs 640 q.tx), (216, cZs 256 q.hl), (217, cIs 256 q.hb), (218, cZs 48 q.S.ra), (220, cIs 6 R.rw9), (221, cIs 6 R.rp), (222, cIs 6 R.op), (223, cIs 18 R.cs), (224, cIs 108 R.ct), (225, cIs 18 R.mk'), (226, cIs 18 R.lst), (227, cIs 18 R.spn), (229, cIs 3 q.S.lv), (230, cIs 3 q.S.pl), (232, cIs 96 q.S.at')] := by
  have ht := K1.1
  intro r
  induction r with
  | zero =>
    intro q hs9 hz hzz hp
    refine mj_blk h.1 b_Md_grow_2 rfl ⟨by rw [(show (32 : Int32) * nI t = nI (32 * t) from pk_mul 32 t)]; exact vp_in_nI (by omega) (by decide), trivial⟩ ?_
    rw [(show (32 : Int32) * nI t = nI (32 * t) from pk_mul 32 t), nI_clamp (n := 32 * t) (by omega)]
    first | refine mj_ifeqB h.1 (tgt := 194) d_Md_grow_11 (by decide) (fun h1 => ?_) (fun h1 => ?_) | refine mj_ifeq h.1 (tgt := 194) d_Md_grow_11 (by decide) (fun h1 => ?_) (fun h1 => ?_)
    · refine mj_blk h.1 b_Md_grow_194 rfl trivial ?_
      exact mj_iret h rfl d_Md_grow_195 (by decide) (by decide) hp
    · exact absurd (hzz 0 (by omega) (by omega)) h1
  | succ r ih =>
    intro q hs9 hz hzz hp
    refine mj_blk h.1 b_Md_grow_2 rfl ⟨by rw [(show (32 : Int32) * nI t = nI (32 * t) from pk_mul 32 t)]; exact vp_in_nI (by omega) (by decide), trivial⟩ ?_
    rw [(show (32 : Int32) * nI t = nI (32 * t) from pk_mul 32 t), nI_clamp (n := 32 * t) (by omega)]
    first | refine mj_ifeqB h.1 (tgt := 194) d_Md_grow_11 (by decide) (fun h1 => ?_) (fun h1 => ?_) | refine mj_ifeq h.1 (tgt := 194) d_Md_grow_11 (by decide) (fun h1 => ?_) (fun h1 => ?_)
    · have hp2 := hp
      unfold mGr at hp2
      rw [if_pos h1] at hp2
      refine mj_blk h.1 b_Md_grow_194 rfl trivial ?_
      exact mj_iret h rfl d_Md_grow_195 (by decide) (by decide) hp2
    · refine mj_blk h.1 b_Md_grow_14 rfl ⟨vp_in_nI (by omega) (by decide), trivial⟩ ?_
      rw [nI_clamp (n := t) (by omega), hz]
      refine mj_icge h.1 (tgt := 29) d_Md_grow_22 (by decide) (fun h2 => ?_) (fun h2 => ?_)
      · refine mj_blk h.1 b_Md_grow_29 rfl trivial ?_
        refine mj_blk h.1 b_Md_grow_30 rfl trivial ?_
        refine mj_ifeq0 h.1 (tgt := 70) d_Md_grow_32 (by decide) ?_
        refine mj_blk h.1 b_Md_grow_70 rfl trivial ?_
        have hp2 := hp
        unfold mGr at hp2
        rw [if_neg h1] at hp2
        have hs8 : ¬ q.s < 80 := fun z => nI_ge (a := q.s) (b := 80) z (by omega) h2
        have eq1 : mG1 R t ru q = ⟨q.s, q.sz, q.tx, upd q.nx t (q.nx t + 1), mShH t 32 0 q.hl, mShB t 32 0 q.hb, q.S⟩ := by unfold mG1; rw [if_neg hs8]
        refine lp_Md_grow_s l D cA th ls n ck ru t h R q.S q.sz q.tx q.nx 0 q.S.c (by omega) 32 0 q.hl q.hb (by omega) ?_
        intro k9
        refine mj_blk h.1 b_Md_grow_165 rfl ⟨vp_in_nI (by omega) (by decide), vp_in_nI (by omega) (by decide), trivial⟩ ?_
        refine mj_ifeq0 h.1 (tgt := 188) d_Md_grow_177 (by decide) ?_
        refine mj_blk h.1 b_Md_grow_188 rfl trivial ?_
        refine mj_blk h.1 b_Md_grow_189 rfl trivial ?_
        refine mj_lpk [0, 3, 4] rfl ?_
        rw [nI_clamp (n := t) (by omega)]
        rw [Int32.add_zero]
        have nx2 := ih (mG1 R t ru q) (by rw [eq1]; show q.s ≤ 80; omega) (by rw [eq1]; exact hz) (by
          intro k k1 k2
          rw [eq1]
          show mShH t 32 0 q.hl (32 * t + k) = 0
          by_cases k3 : k = 31
          · rw [k3, u_shHe]
          · rw [u_shH0 t q.hl (by omega), if_pos (hzz (k + 1) (by omega) (by omega))]) hp2
        rw [eq1] at nx2
        exact nx2
      · refine mj_blk h.1 b_Md_grow_25 rfl trivial ?_
        refine mj_blk h.1 b_Md_grow_30 rfl trivial ?_
        refine mj_ifeq1 h.1 (tgt := 70) d_Md_grow_32 (by decide) ?_
        have hs8 : q.s < 80 := Nat.lt_of_not_le (fun z => h2 (show nI 80 ≤ nI q.s from nI_le z (by omega)))
        refine mj_blk h.1 b_Md_grow_35 rfl ⟨vp_in_nI (by omega) (by decide), vp_in_nI (by omega) (by decide), by rw [nI_clamp (n := t) (by omega), hz, (show (80 : Int32) * nI t = nI (80 * t) from pk_mul 80 t), nI_add]; exact vp_in_nI (by omega) (by decide), by rw [(show (32 : Int32) * nI t = nI (32 * t) from pk_mul 32 t)]; exact vp_in_nI (by omega) (by decide), vp_in_nI (by omega) (by decide), trivial⟩ ?_
        refine mj_blk h.1 b_Md_grow_70 rfl trivial ?_
        have hp2 := hp
        unfold mGr at hp2
        rw [if_neg h1] at hp2
        rw [nI_clamp (n := t) (by omega), hz, nI_1, (show (80 : Int32) * nI t = nI (80 * t) from pk_mul 80 t), nI_add, nI_clamp (n := 80 * t + q.s) (by omega), (show (32 : Int32) * nI t = nI (32 * t) from pk_mul 32 t), nI_clamp (n := 32 * t) (by omega)]
        obtain ⟨S9, e9⟩ : ∃ S9 : mS, S9 = mGl R t ru q := ⟨_, rfl⟩
        have eq1 : mG1 R t ru q = ⟨q.s + 1, upd q.sz t (nI (q.s + 1)), upd q.tx (80 * t + q.s) (q.hb (32 * t)), upd q.nx t (q.nx t + 1), mShH t 32 0 q.hl, mShB t 32 0 q.hb, ⟨q.S.c + S9.c, S9.2⟩⟩ := by unfold mG1; rw [if_pos hs8, e9]
        have K0 : mROk (mRw R (upd q.sz t (nI (q.s + 1))) (upd q.tx (80 * t + q.s) (q.hb (32 * t)))) t (q.s + 1) ru := ⟨K1.1, by omega, (by show upd q.sz t (nI (q.s + 1)) (mIx t) = _; rw [show mIx t = t from nI_clamp (n := t) (by omega), pk_us]), K1.2.1, K1.2.2.1, K1.2.2.2.1, K1.2.2.2.2⟩
        refine lp_Md_grow_s l D cA th ls n ck ru t h R q.S (upd q.sz t (nI (q.s + 1))) (upd q.tx (80 * t + q.s) (q.hb (32 * t))) q.nx 1 q.S.c (by omega) 32 0 q.hl q.hb (by omega) ?_
        intro k9
        refine mj_blk h.1 b_Md_grow_165 rfl ⟨vp_in_nI (by omega) (by decide), vp_in_nI (by omega) (by decide), trivial⟩ ?_
        refine mj_ifeq1 h.1 (tgt := 188) d_Md_grow_177 (by decide) ?_
        refine mj_blk h.1 b_Md_grow_180 rfl trivial ?_
        refine mj_callV h zGood (ev_Md_look l D cA th ls n ck ru (mRw R (upd q.sz t (nI (q.s + 1))) (upd q.tx (80 * t + q.s) (q.hb (32 * t)))) t (q.s + 1) K0 ⟨0, q.S.2⟩ S9 rfl e9) v_Md_look l_Md_grow_182 d_Md_grow_182 rfl ⟨by decide, by decide⟩ ⟨by decide, by decide⟩ [] rfl rfl rfl rfl rfl rfl (Nat.le_of_ble_eq_true rfl) ?_
        rintro _ _ ⟨rfl, rfl⟩
        refine mj_k rfl rfl ?_
        refine mj_blk h.1 b_Md_grow_185 rfl trivial ?_
        refine mj_blk h.1 b_Md_grow_189 rfl trivial ?_
        refine mj_lpk [0, 3, 4] rfl ?_
        rw [nI_clamp (n := t) (by omega)]
        have nx2 := ih (mG1 R t ru q) (by rw [eq1]; show q.s + 1 ≤ 80; omega) (by rw [eq1]; exact pk_us) (by
          intro k k1 k2
          rw [eq1]
          show mShH t 32 0 q.hl (32 * t + k) = 0
          by_cases k3 : k = 31
          · rw [k3, u_shHe]
          · rw [u_shH0 t q.hl (by omega), if_pos (hzz (k + 1) (by omega) (by omega))]) hp2
        rw [eq1] at nx2
        exact nx2
set_option maxRecDepth 100000 in
set_option maxHeartbeats 4000000 in
theorem ev_Md_grow (R : mR) (K1 : mRO R t ru) (q q' : gT) (hs9 : q.s ≤ 80) (hz : q.sz t = nI q.s) (h0 : q.S.c = 0) (e : q' = mGr R t ru 32 q) : E0_Md_grow l D cA [.ref 199, .int (nI t)] [(199, cMd th ls n ck ru q.S.tr q.S.al), (206, cIs 4 R.cp), (208, cIs 4 R.sp), (212, cIs 8 q.nx), (214, cIs 8 q.sz), (215, cIs 640 q.tx), (216, cZs 256 q.hl), (217, cIs 256 q.hb), (218, cZs 48 q.S.ra), (220, cIs 6 R.rw9), (221, cIs 6 R.rp), (222, cIs 6 R.op), (223, cIs 18 R.cs), (224, cIs 108 R.ct), (225, cIs 18 R.mk'), (226, cIs 18 R.lst), (227, cIs 18 R.spn), (229, cIs 3 q.S.lv), (230, cIs 3 q.S.pl), (232, cIs 96 q.S.at')] (some (.int q'.S.c)) [(199, cMd th ls n ck ru q'.S.tr q'.S.al), (206, cIs 4 R.cp), (208, cIs 4 R.sp), (212, cIs 8 q'.nx), (214, cIs 8 q'.sz), (215, cIs 640 q'.tx), (216, cZs 256 q'.hl), (217, cIs 256 q'.hb), (218, cZs 48 q'.S.ra), (220, cIs 6 R.rw9), (221, cIs 6 R.rp), (222, cIs 6 R.op), (223, cIs 18 R.cs), (224, cIs 108 R.ct), (225, cIs 18 R.mk'), (226, cIs 18 R.lst), (227, cIs 18 R.spn), (229, cIs 3 q'.S.lv), (230, cIs 3 q'.S.pl), (232, cIs 96 q'.S.at')] := by
  refine mj_ev (lv := [(0, .ref 199), (1, .int (nI t))]) (by decide +kernel) (Nat.le_of_ble_eq_true rfl) rfl (fun X h => ?_)
  subst e
  refine mj_blk h.1 b_Md_grow_0 rfl trivial ?_
  have q9 := lp_Md_grow l D cA th ls n ck ru t h R K1 32 q hs9 hz (fun k k1 k2 => absurd k1 (by omega)) ⟨rfl, rfl⟩
  rw [h0] at q9
  exact q9
end MODN
