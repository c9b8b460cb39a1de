/-! The reference: watch (by program: wip/whole/src_md15.py) -/
def mHd (f : Nat → Int32) (ls : Bool) (t : Nat) (nx : Int32) (st : Int32) (da : Nat) : Nat → Nat → (Nat → Int32) → (Nat → Int32) → (Nat → Int32) × (Nat → Int32)
  | 0, _, hl, hb => (hl, hb)
  | r + 1, k, hl, hb => mHd f ls t nx st da r (k + 1) (mHl hl t (st + nI k - nI da - nx)) (mHb hl hb ls t (st + nI k - nI da - nx) (f k))
abbrev mRv (R : mR) (cp sp sz tx : Nat → Int32) : mR := ⟨cp, sp, sz, tx, R.rw9, R.rp, R.op, R.cs, R.ct, R.mk', R.lst, R.spn, R.cN, R.oN⟩
section MODO
variable (l : Launch) (D : va_G) (cA : Nat → ClassId) (ls : Bool) (n : Nat) (ru : Nat) (f : Nat → Int32) (R : mR)

set_option maxRecDepth 100000 in
set_option maxHeartbeats 8000000 in
theorem lp_Md_watch_h {X : mj_X} {post : mj_R} (h : mj_E zG X l D cA m_Md_watch 6 240 0 0 (fun _ => True) post) (ck : Int32) (us ch cp sh sp hr bgn nx en sz tx : Nat → Int32) (S : mS) (t : Nat) (ht : t < 8) (fg st y5 : Int32) (q0 da L : Nat) (hL : L ≤ 100) : ∀ (r k : Nat) (hl hb : Nat → Int32), k + r = L → mj_W zG X 0 0 254 [(9, .int (nI L)), (8, .int (nI L)), (7, .int (nI da)), (6, .int st), (5, .int y5), (4, .int (nI t)), (3, .int fg), (2, .int (nI q0)), (0, .ref 199)] [] [(199, cMd 0 ls n ck ru S.tr S.al), (203, cIs 100 f), (204, cZs 4 us), (205, cIs 4 ch), (206, cIs 4 cp), (207, cIs 4 sh), (208, cIs 4 sp), (209, cIs 4 hr), (211, cZs 8 bgn), (212, cIs 8 nx), (213, cZs 8 en), (214, cIs 8 sz), (215, cIs 640 tx), (216, cZs 256 (mHd f ls t (nx t) st da r k hl hb).1), (217, cIs 256 (mHd f ls t (nx t) st da r k hl hb).2), (218, cZs 48 S.ra), (220, cIs 6 R.rw9), (221, cIs 6 R.rp), (222, cIs 6 R.op), (223, cIs 18 R.cs), (224, cIs 108 R.ct), (225, cIs 18 R.mk'), (226, cIs 18 R.lst), (227, cIs 18 R.spn), (229, cIs 3 S.lv), (230, cIs 3 S.pl), (232, cIs 96 S.at')] → mj_W zG X 0 0 220 [(9, .int (nI k)), (8, .int (nI L)), (7, .int (nI da)), (6, .int st), (5, .int y5), (4, .int (nI t)), (3, .int fg), (2, .int (nI q0)), (0, .ref 199)] [] [(199, cMd 0 ls n ck ru S.tr S.al), (203, cIs 100 f), (204, cZs 4 us), (205, cIs 4 ch), (206, cIs 4 cp), (207, cIs 4 sh), (208, cIs 4 sp), (209, cIs 4 hr), (211, cZs 8 bgn), (212, cIs 8 nx), (213, cZs 8 en), (214, cIs 8 sz), (215, cIs 640 tx), (216, cZs 256 hl), (217, cIs 256 hb), (218, cZs 48 S.ra), (220, cIs 6 R.rw9), (221, cIs 6 R.rp), (222, cIs 6 R.op), (223, cIs 18 R.cs), (224, cIs 108 R.ct), (225, cIs 18 R.mk'), (226, cIs 18 R.lst), (227, cIs 18 R.spn), (229, cIs 3 S.lv), (230, cIs 3 S.pl), (232, cIs 96 S.at')] := by
  intro r
  induction r with
  | zero =>
    intro k hl hb hk K
    refine mj_blk h.1 b_Md_watch_220 rfl trivial ?_
    refine mj_icge h.1 (tgt := 254) d_Md_watch_224 (by decide) (fun h1 => ?_) (fun h1 => ?_)
    · rw [show k = L by omega]
      exact K
    · exact absurd (show nI L ≤ nI k from nI_le (by omega) (by omega)) h1
  | succ r ih =>
    intro k hl hb hk K
    refine mj_blk h.1 b_Md_watch_220 rfl trivial ?_
    refine mj_icge h.1 (tgt := 254) d_Md_watch_224 (by decide) (fun h1 => ?_) (fun h1 => ?_)
    · exact absurd ((nI_leI (by omega) (by omega)).mp h1) (by omega)
    · refine mj_blk h.1 b_Md_watch_227 rfl ⟨vp_in_nI (by omega) (by decide), trivial⟩ ?_
      rw [nI_clamp (n := k) (by omega)]
      refine mj_callV h zGood (ev_Md_hold l D cA _ _ _ _ _ _ _ nx hl hb t ht (st + nI k - nI da) (f k)) v_Md_hold l_Md_watch_245 d_Md_watch_245 rfl ⟨by decide, by decide⟩ ⟨by decide, by decide⟩ [] rfl rfl rfl rfl rfl rfl (Nat.le_of_ble_eq_true rfl) ?_
      rintro _ _ ⟨rfl, rfl⟩
      refine mj_k rfl rfl ?_
      refine mj_blk h.1 b_Md_watch_248 rfl trivial ?_
      rw [show nI k + 1 = nI (k + 1) from (nI_succ k).symm, show mIx t = t from nI_clamp (by omega)]
      exact ih (k + 1) _ _ (by omega) K
set_option maxRecDepth 100000 in
set_option maxHeartbeats 8000000 in
theorem lp_Md_watch_g {X : mj_X} {post : mj_R} (h : mj_E zG X l D cA m_Md_watch 6 240 0 0 (fun _ => True) post) (ck : Int32) (us ch cp sh sp hr bgn nx en sz tx hl hb : Nat → Int32) (S : mS) (t : Nat) (ht : t < 8) (fg st y5 k9 : Int32) (q0 da L s : Nat) (K1 : mRO R t ru) (hs9 : s ≤ 80) (hz : sz t = nI s) (h0 : S.c = 0) (q : gT) (e : q = mGr (mRv R cp sp sz tx) t ru 32 (s, sz, tx, nx, hl, hb, S)) (hp : ∀ en' : Nat → Int32, en' = (if ¬ fg &&& 1 = 0 ∧ q.nx t = st + nI L - nI da then upd en t 1 else en) → post (some (.int q.S.c)) [(199, cMd 0 ls n ck ru q.S.tr q.S.al), (203, cIs 100 f), (204, cZs 4 (upd us (t / 2) (if ¬ en' (2 * (t / 2)) = 0 ∧ ¬ en' (2 * (t / 2) + 1) = 0 then 0 else 1))), (205, cIs 4 ch), (206, cIs 4 cp), (207, cIs 4 sh), (208, cIs 4 sp), (209, cIs 4 hr), (211, cZs 8 bgn), (212, cIs 8 q.nx), (213, cZs 8 en'), (214, cIs 8 q.sz), (215, cIs 640 q.tx), (216, cZs 256 q.hl), (217, cIs 256 q.hb), (218, cZs 48 q.S.ra), (220, cIs 6 R.rw9), (221, cIs 6 R.rp), (222, cIs 6 R.op), (223, cIs 18 R.cs), (224, cIs 108 R.ct), (225, cIs 18 R.mk'), (226, cIs 18 R.lst), (227, cIs 18 R.spn), (229, cIs 3 q.S.lv), (230, cIs 3 q.S.pl), (232, cIs 96 q.S.at')]) : mj_W zG X 0 0 254 [(9, .int k9), (8, .int (nI L)), (7, .int (nI da)), (6, .int st), (5, .int y5), (4, .int (nI t)), (3, .int fg), (2, .int (nI q0)), (0, .ref 199)] [] [(199, cMd 0 ls n ck ru S.tr S.al), (203, cIs 100 f), (204, cZs 4 us), (205, cIs 4 ch), (206, cIs 4 cp), (207, cIs 4 sh), (208, cIs 4 sp), (209, cIs 4 hr), (211, cZs 8 bgn), (212, cIs 8 nx), (213, cZs 8 en), (214, cIs 8 sz), (215, cIs 640 tx), (216, cZs 256 hl), (217, cIs 256 hb), (218, cZs 48 S.ra), (220, cIs 6 R.rw9), (221, cIs 6 R.rp), (222, cIs 6 R.op), (223, cIs 18 R.cs), (224, cIs 108 R.ct), (225, cIs 18 R.mk'), (226, cIs 18 R.lst), (227, cIs 18 R.spn), (229, cIs 3 S.lv), (230, cIs 3 S.pl), (232, cIs 96 S.at')] := by
  refine mj_blk h.1 b_Md_watch_254 rfl trivial ?_
  refine mj_callV h zGood (ev_Md_grow l D cA _ _ _ _ _ t (mRv R cp sp sz tx) K1 (s, sz, tx, nx, hl, hb, S) q hs9 hz h0 e) v_Md_grow l_Md_watch_257 d_Md_watch_257 rfl ⟨by decide, by decide⟩ ⟨by decide, by decide⟩ [] rfl rfl rfl rfl rfl rfl (Nat.le_of_ble_eq_true rfl) ?_
  rintro _ _ ⟨rfl, rfl⟩
  refine mj_k rfl rfl ?_
  refine mj_blk h.1 b_Md_watch_260 rfl trivial ?_
  first | refine mj_ifeqB h.1 (tgt := 294) d_Md_watch_265 (by decide) (fun h21 => ?_) (fun h21 => ?_) | refine mj_ifeq h.1 (tgt := 294) d_Md_watch_265 (by decide) (fun h21 => ?_) (fun h21 => ?_)
  · refine mj_blk h.1 b_Md_watch_294 rfl ⟨by rw [mDiv' t ht, (show (2 : Int32) * nI (t / 2) = nI (2 * (t / 2)) from pk_mul 2 (t / 2))]; exact vp_in_nI (by omega) (by decide), by decide, trivial⟩ ?_
    try rw [nI_clamp (n := t) (by omega)]
    rw [mDiv' t ht, (show (2 : Int32) * nI (t / 2) = nI (2 * (t / 2)) from pk_mul 2 (t / 2)), nI_clamp (n := 2 * (t / 2)) (by omega)]
    first | refine mj_ifeqB h.1 (tgt := 332) d_Md_watch_315 (by decide) (fun h22 => ?_) (fun h22 => ?_) | refine mj_ifeq h.1 (tgt := 332) d_Md_watch_315 (by decide) (fun h22 => ?_) (fun h22 => ?_)
    · refine mj_blk h.1 b_Md_watch_332 rfl trivial ?_
      refine mj_blk h.1 b_Md_watch_337 rfl ⟨vp_in_nI (by omega) (by decide), (by first | exact Or.inl rfl | exact Or.inr rfl), trivial⟩ ?_
      rw [nI_clamp (n := t / 2) (by omega)]
      exact mj_iret h rfl d_Md_watch_340 (by decide) (by decide) (by
  have hq := hp en (if_neg (fun z => z.1 h21)).symm
  rw [if_neg (fun z => z.1 h22)] at hq
  exact hq)
    · refine mj_blk h.1 b_Md_watch_318 rfl ⟨by rw [(show (2 : Int32) * nI (t / 2) = nI (2 * (t / 2)) from pk_mul 2 (t / 2)), nI_1]; exact vp_in_nI (by omega) (by decide), trivial⟩ ?_
      rw [(show (2 : Int32) * nI (t / 2) = nI (2 * (t / 2)) from pk_mul 2 (t / 2)), nI_1, nI_clamp (n := 2 * (t / 2) + 1) (by omega)]
      first | refine mj_ifneB h.1 (tgt := 336) d_Md_watch_329 (by decide) (fun h23 => ?_) (fun h23 => ?_) | refine mj_ifne h.1 (tgt := 336) d_Md_watch_329 (by decide) (fun h23 => ?_) (fun h23 => ?_)
      · refine mj_blk h.1 b_Md_watch_336 rfl trivial ?_
        refine mj_blk h.1 b_Md_watch_337 rfl ⟨vp_in_nI (by omega) (by decide), (by first | exact Or.inl rfl | exact Or.inr rfl), trivial⟩ ?_
        rw [nI_clamp (n := t / 2) (by omega)]
        exact mj_iret h rfl d_Md_watch_340 (by decide) (by decide) (by
  have hq := hp en (if_neg (fun z => z.1 h21)).symm
  rw [if_pos ⟨h22, h23⟩] at hq
  exact hq)
      · refine mj_blk h.1 b_Md_watch_332 rfl trivial ?_
        refine mj_blk h.1 b_Md_watch_337 rfl ⟨vp_in_nI (by omega) (by decide), (by first | exact Or.inl rfl | exact Or.inr rfl), trivial⟩ ?_
        rw [nI_clamp (n := t / 2) (by omega)]
        exact mj_iret h rfl d_Md_watch_340 (by decide) (by decide) (by
  have hq := hp en (if_neg (fun z => z.1 h21)).symm
  rw [if_neg (fun z => z.2 h23)] at hq
  exact hq)
  · refine mj_blk h.1 b_Md_watch_268 rfl ⟨vp_in_nI (by omega) (by decide), trivial⟩ ?_
    rw [nI_clamp (n := t) (by omega)]
    refine mj_icne h.1 (tgt := 294) d_Md_watch_283 (by decide) (fun h24 => ?_) (fun h24 => ?_)
    · refine mj_blk h.1 b_Md_watch_294 rfl ⟨by rw [mDiv' t ht, (show (2 : Int32) * nI (t / 2) = nI (2 * (t / 2)) from pk_mul 2 (t / 2))]; exact vp_in_nI (by omega) (by decide), by decide, trivial⟩ ?_
      try rw [nI_clamp (n := t) (by omega)]
      rw [mDiv' t ht, (show (2 : Int32) * nI (t / 2) = nI (2 * (t / 2)) from pk_mul 2 (t / 2)), nI_clamp (n := 2 * (t / 2)) (by omega)]
      first | refine mj_ifeqB h.1 (tgt := 332) d_Md_watch_315 (by decide) (fun h25 => ?_) (fun h25 => ?_) | refine mj_ifeq h.1 (tgt := 332) d_Md_watch_315 (by decide) (fun h25 => ?_) (fun h25 => ?_)
      · refine mj_blk h.1 b_Md_watch_332 rfl trivial ?_
        refine mj_blk h.1 b_Md_watch_337 rfl ⟨vp_in_nI (by omega) (by decide), (by first | exact Or.inl rfl | exact Or.inr rfl), trivial⟩ ?_
        rw [nI_clamp (n := t / 2) (by omega)]
        exact mj_iret h rfl d_Md_watch_340 (by decide) (by decide) (by
  have hq := hp en (if_neg (fun z => h24 z.2)).symm
  rw [if_neg (fun z => z.1 h25)] at hq
  exact hq)
      · refine mj_blk h.1 b_Md_watch_318 rfl ⟨by rw [(show (2 : Int32) * nI (t / 2) = nI (2 * (t / 2)) from pk_mul 2 (t / 2)), nI_1]; exact vp_in_nI (by omega) (by decide), trivial⟩ ?_
        rw [(show (2 : Int32) * nI (t / 2) = nI (2 * (t / 2)) from pk_mul 2 (t / 2)), nI_1, nI_clamp (n := 2 * (t / 2) + 1) (by omega)]
        first | refine mj_ifneB h.1 (tgt := 336) d_Md_watch_329 (by decide) (fun h26 => ?_) (fun h26 => ?_) | refine mj_ifne h.1 (tgt := 336) d_Md_watch_329 (by decide) (fun h26 => ?_) (fun h26 => ?_)
        · refine mj_blk h.1 b_Md_watch_336 rfl trivial ?_
          refine mj_blk h.1 b_Md_watch_337 rfl ⟨vp_in_nI (by omega) (by decide), (by first | exact Or.inl rfl | exact Or.inr rfl), trivial⟩ ?_
          rw [nI_clamp (n := t / 2) (by omega)]
          exact mj_iret h rfl d_Md_watch_340 (by decide) (by decide) (by
  have hq := hp en (if_neg (fun z => h24 z.2)).symm
  rw [if_pos ⟨h25, h26⟩] at hq
  exact hq)
        · refine mj_blk h.1 b_Md_watch_332 rfl trivial ?_
          refine mj_blk h.1 b_Md_watch_337 rfl ⟨vp_in_nI (by omega) (by decide), (by first | exact Or.inl rfl | exact Or.inr rfl), trivial⟩ ?_
          rw [nI_clamp (n := t / 2) (by omega)]
          exact mj_iret h rfl d_Md_watch_340 (by decide) (by decide) (by
  have hq := hp en (if_neg (fun z => h24 z.2)).symm
  rw [if_neg (fun z => z.2 h26)] at hq
  exact hq)
    · refine mj_blk h.1 b_Md_watch_286 rfl ⟨vp_in_nI (by omega) (by decide), Or.inr rfl, trivial⟩ ?_
      refine mj_blk h.1 b_Md_watch_294 rfl ⟨by rw [mDiv' t ht, (show (2 : Int32) * nI (t / 2) = nI (2 * (t / 2)) from pk_mul 2 (t / 2))]; exact vp_in_nI (by omega) (by decide), by decide, trivial⟩ ?_
      try rw [nI_clamp (n := t) (by omega)]
      rw [mDiv' t ht, (show (2 : Int32) * nI (t / 2) = nI (2 * (t / 2)) from pk_mul 2 (t / 2)), nI_clamp (n := 2 * (t / 2)) (by omega)]
      first | refine mj_ifeqB h.1 (tgt := 332) d_Md_watch_315 (by decide) (fun h27 => ?_) (fun h27 => ?_) | refine mj_ifeq h.1 (tgt := 332) d_Md_watch_315 (by decide) (fun h27 => ?_) (fun h27 => ?_)
      · refine mj_blk h.1 b_Md_watch_332 rfl trivial ?_
        refine mj_blk h.1 b_Md_watch_337 rfl ⟨vp_in_nI (by omega) (by decide), (by first | exact Or.inl rfl | exact Or.inr rfl), trivial⟩ ?_
        rw [nI_clamp (n := t / 2) (by omega)]
        exact mj_iret h rfl d_Md_watch_340 (by decide) (by decide) (by
  have hq := hp (upd en t 1) (if_pos ⟨h21, h24⟩).symm
  rw [if_neg (fun z => z.1 h27)] at hq
  exact hq)
      · refine mj_blk h.1 b_Md_watch_318 rfl ⟨by rw [(show (2 : Int32) * nI (t / 2) = nI (2 * (t / 2)) from pk_mul 2 (t / 2)), nI_1]; exact vp_in_nI (by omega) (by decide), trivial⟩ ?_
        rw [(show (2 : Int32) * nI (t / 2) = nI (2 * (t / 2)) from pk_mul 2 (t / 2)), nI_1, nI_clamp (n := 2 * (t / 2) + 1) (by omega)]
        first | refine mj_ifneB h.1 (tgt := 336) d_Md_watch_329 (by decide) (fun h28 => ?_) (fun h28 => ?_) | refine mj_ifne h.1 (tgt := 336) d_Md_watch_329 (by decide) (fun h28 => ?_) (fun h28 => ?_)
        · refine mj_blk h.1 b_Md_watch_336 rfl trivial ?_
          refine mj_blk h.1 b_Md_watch_337 rfl ⟨vp_in_nI (by omega) (by decide), (by first | exact Or.inl rfl | exact Or.inr rfl), trivial⟩ ?_
          rw [nI_clamp (n := t / 2) (by omega)]
          exact mj_iret h rfl d_Md_watch_340 (by decide) (by decide) (by
  have hq := hp (upd en t 1) (if_pos ⟨h21, h24⟩).symm
  rw [if_pos ⟨h27, h28⟩] at hq
  exact hq)
        · refine mj_blk h.1 b_Md_watch_332 rfl trivial ?_
          refine mj_blk h.1 b_Md_watch_337 rfl ⟨vp_in_nI (by omega) (by decide), (by first | exact Or.inl rfl | exact Or.inr rfl), trivial⟩ ?_
          rw [nI_clamp (n := t / 2) (by omega)]
          exact mj_iret h rfl d_Md_watch_340 (by decide) (by decide) (by
  have hq := hp (upd en t 1) (if_pos ⟨h21, h24⟩).symm
  rw [if_neg (fun z => z.2 h28)] at hq
  exact hq)
set_option maxRecDepth 100000 in
set_option maxHeartbeats 8000000 in
theorem lp_Md_watch_81 {X : mj_X} {post : mj_R} (h : mj_E zG X l D cA m_Md_watch 6 240 0 0 (fun _ => True) post) (ck : Int32) (us ch cp sh sp hr bgn nx en sz tx hl hb : Nat → Int32) (S : mS) (t : Nat) (ht : t < 8) (fg st : Int32) (q0 w da L s : Nat) (hq9 : q0 ≤ 28) (hw : f (q0 + 12) >>> ((4 : Int32) &&& 31) = nI w) (hda : q0 + 4 * w = da) (hdL : da ≤ L) (hL9 : L ≤ 100) (hL : mPair f 2 = nI L) (hst : st = mFour f (q0 + 4) + (if ¬ fg &&& 2 = 0 then 1 else 0)) (K1 : mRO R t ru) (hs9 : s ≤ 80) (hz : sz t = nI s) (h0 : S.c = 0) (nx1 : Int32) (e1 : nx1 = if bgn t = 0 then st else nx t) (q : gT) (eq : q = mGr (mRv R cp sp sz tx) t ru 32 (s, sz, tx, upd nx t nx1, (mHd f ls t nx1 st da (L - da) da hl hb).1, (mHd f ls t nx1 st da (L - da) da hl hb).2, S)) (hp1 : ¬ fg &&& 4 = 0 → post (some (.int 0)) [(199, cMd 0 ls n (ck + 1) ru S.tr S.al), (203, cIs 100 f), (204, cZs 4 (upd us (t / 2) 0)), (205, cIs 4 ch), (206, cIs 4 cp), (207, cIs 4 sh), (208, cIs 4 sp), (209, cIs 4 (upd hr (t / 2) (ck + 1))), (211, cZs 8 bgn), (212, cIs 8 nx), (213, cZs 8 en), (214, cIs 8 sz), (215, cIs 640 tx), (216, cZs 256 hl), (217, cIs 256 hb), (218, cZs 48 S.ra), (220, cIs 6 R.rw9), (221, cIs 6 R.rp), (222, cIs 6 R.op), (223, cIs 18 R.cs), (224, cIs 108 R.ct), (225, cIs 18 R.mk'), (226, cIs 18 R.lst), (227, cIs 18 R.spn), (229, cIs 3 S.lv), (230, cIs 3 S.pl), (232, cIs 96 S.at')]) (hp2 : fg &&& 4 = 0 → ∀ en' : Nat → Int32, en' = (if ¬ fg &&& 1 = 0 ∧ q.nx t = st + nI L - nI da then upd en t 1 else en) → post (some (.int q.S.c)) [(199, cMd 0 ls n (ck + 1) ru q.S.tr q.S.al), (203, cIs 100 f), (204, cZs 4 (upd us (t / 2) (if ¬ en' (2 * (t / 2)) = 0 ∧ ¬ en' (2 * (t / 2) + 1) = 0 then 0 else 1))), (205, cIs 4 ch), (206, cIs 4 cp), (207, cIs 4 sh), (208, cIs 4 sp), (209, cIs 4 (upd hr (t / 2) (ck + 1))), (211, cZs 8 (upd bgn t 1)), (212, cIs 8 q.nx), (213, cZs 8 en'), (214, cIs 8 q.sz), (215, cIs 640 q.tx), (216, cZs 256 q.hl), (217, cIs 256 q.hb), (218, cZs 48 q.S.ra), (220, cIs 6 R.rw9), (221, cIs 6 R.rp), (222, cIs 6 R.op), (223, cIs 18 R.cs), (224, cIs 108 R.ct), (225, cIs 18 R.mk'), (226, cIs 18 R.lst), (227, cIs 18 R.spn), (229, cIs 3 q.S.lv), (230, cIs 3 q.S.pl), (232, cIs 96 q.S.at')]) : mj_W zG X 0 0 81 [(4, .int (nI t)), (3, .int fg), (2, .int (nI q0)), (0, .ref 199)] [] [(199, cMd 0 ls n ck ru S.tr S.al), (203, cIs 100 f), (204, cZs 4 us), (205, cIs 4 ch), (206, cIs 4 cp), (207, cIs 4 sh), (208, cIs 4 sp), (209, cIs 4 hr), (211, cZs 8 bgn), (212, cIs 8 nx), (213, cZs 8 en), (214, cIs 8 sz), (215, cIs 640 tx), (216, cZs 256 hl), (217, cIs 256 hb), (218, cZs 48 S.ra), (220, cIs 6 R.rw9), (221, cIs 6 R.rp), (222, cIs 6 R.op), (223, cIs 18 R.cs), (224, cIs 108 R.ct), (225, cIs 18 R.mk'), (226, cIs 18 R.lst), (227, cIs 18 R.spn), (229, cIs 3 S.lv), (230, cIs 3 S.pl), (232, cIs 96 S.at')] := by
  refine mj_blk h.1 b_Md_watch_81 rfl ⟨by rw [mDiv' t ht]; exact vp_in_nI (by omega) (by decide), by decide, trivial⟩ ?_
  rw [mDiv' t ht, nI_clamp (n := t / 2) (by omega)]
  first | refine mj_ifeqB h.1 (tgt := 122) d_Md_watch_107 (by decide) (fun h41 => ?_) (fun h41 => ?_) | refine mj_ifeq h.1 (tgt := 122) d_Md_watch_107 (by decide) (fun h41 => ?_) (fun h41 => ?_)
  · refine mj_blk h.1 b_Md_watch_122 rfl trivial ?_
    first | refine mj_ifeqB h.1 (tgt := 132) d_Md_watch_125 (by decide) (fun h42 => ?_) (fun h42 => ?_) | refine mj_ifeq h.1 (tgt := 132) d_Md_watch_125 (by decide) (fun h42 => ?_) (fun h42 => ?_)
    · refine mj_blk h.1 b_Md_watch_132 rfl trivial ?_
      refine mj_blk h.1 b_Md_watch_133 rfl trivial ?_
      rw [show nI q0 + 4 = nI (q0 + 4) from nI_add q0 4]
      refine mj_callV h zGood (ev_Md_four l D cA _ _ _ _ _ _ _ _ (q0 + 4) (by omega)) v_Md_four l_Md_watch_139 d_Md_watch_139 rfl ⟨by decide, by decide⟩ ⟨by decide, by decide⟩ [] rfl rfl rfl rfl rfl rfl (Nat.le_of_ble_eq_true rfl) ?_
      rintro _ _ ⟨rfl, rfl⟩
      refine mj_k rfl rfl ?_
      refine mj_blk h.1 b_Md_watch_142 rfl trivial ?_
      refine mj_ifeq0 h.1 (tgt := 151) d_Md_watch_144 (by decide) ?_
      refine mj_blk h.1 b_Md_watch_151 rfl trivial ?_
      refine mj_blk h.1 b_Md_watch_152 rfl ⟨vp_in_nI (by omega) (by decide), trivial⟩ ?_
      rw [nI_clamp (n := t) (by omega)]
      first | refine mj_ifeqB h.1 (tgt := 181) d_Md_watch_168 (by decide) (fun h44 => ?_) (fun h44 => ?_) | refine mj_ifeq h.1 (tgt := 181) d_Md_watch_168 (by decide) (fun h44 => ?_) (fun h44 => ?_)
      · refine mj_blk h.1 b_Md_watch_181 rfl trivial ?_
        try rw [nI_clamp (n := t) (by omega)]
        refine mj_blk h.1 b_Md_watch_183 rfl ⟨by rw [(show nI q0 + 12 = nI (q0 + 12) from nI_add q0 12)]; exact vp_in_nI (by omega) (by decide), vp_in_nI (by omega) (by decide), Or.inr rfl, vp_in_nI (by omega) (by decide), trivial⟩ ?_
        rw [(show nI q0 + 12 = nI (q0 + 12) from nI_add q0 12), nI_clamp (n := q0 + 12) (by omega), hw, show nI q0 + 4 * nI w = nI da by rw [show (4 : Int32) = nI 4 from rfl, pk_mul, nI_add, hda]]
        try rw [nI_clamp (n := t) (by omega)]
        refine mj_callV h zGood (ev_Md_pair l D cA _ _ _ _ _ _ _ _ 2 (by decide)) v_Md_pair l_Md_watch_211 d_Md_watch_211 rfl ⟨by decide, by decide⟩ ⟨by decide, by decide⟩ [] rfl rfl rfl rfl rfl rfl (Nat.le_of_ble_eq_true rfl) ?_
        rintro _ _ ⟨rfl, rfl⟩
        rw [hL]
        refine mj_k rfl rfl ?_
        refine mj_blk h.1 b_Md_watch_214 rfl trivial ?_
        have est : mFour f (q0 + 4) + 0 = st := by rw [hst, if_neg (fun z => z h42)]
        rw [est]
        have e1' : st = nx1 := by rw [e1, if_pos h44]
        rw [show upd nx t st = upd nx t nx1 by rw [e1']]
        refine lp_Md_watch_h l D cA ls n ru f R h _ us ch cp sh sp _ _ _ en sz tx S t ht fg st _ q0 da L hL9 (L - da) da hl hb (by omega) ?_
        rw [show upd nx t nx1 t = nx1 from pk_us]
        exact lp_Md_watch_g l D cA ls n ru f R h _ us ch cp sh sp _ _ _ en sz tx _ _ S t ht fg st _ _ q0 da L s K1 hs9 hz h0 q eq (fun en' ee => hp2 h41 en' ee)
      · refine mj_blk h.1 b_Md_watch_171 rfl ⟨vp_in_nI (by omega) (by decide), trivial⟩ ?_
        try rw [nI_clamp (n := t) (by omega)]
        refine mj_blk h.1 b_Md_watch_183 rfl ⟨by rw [(show nI q0 + 12 = nI (q0 + 12) from nI_add q0 12)]; exact vp_in_nI (by omega) (by decide), vp_in_nI (by omega) (by decide), Or.inr rfl, vp_in_nI (by omega) (by decide), trivial⟩ ?_
        rw [(show nI q0 + 12 = nI (q0 + 12) from nI_add q0 12), nI_clamp (n := q0 + 12) (by omega), hw, show nI q0 + 4 * nI w = nI da by rw [show (4 : Int32) = nI 4 from rfl, pk_mul, nI_add, hda]]
        try rw [nI_clamp (n := t) (by omega)]
        refine mj_callV h zGood (ev_Md_pair l D cA _ _ _ _ _ _ _ _ 2 (by decide)) v_Md_pair l_Md_watch_211 d_Md_watch_211 rfl ⟨by decide, by decide⟩ ⟨by decide, by decide⟩ [] rfl rfl rfl rfl rfl rfl (Nat.le_of_ble_eq_true rfl) ?_
        rintro _ _ ⟨rfl, rfl⟩
        rw [hL]
        refine mj_k rfl rfl ?_
        refine mj_blk h.1 b_Md_watch_214 rfl trivial ?_
        have est : mFour f (q0 + 4) + 0 = st := by rw [hst, if_neg (fun z => z h42)]
        rw [est]
        have e1' : (nx t) = nx1 := by rw [e1, if_neg h44]
        rw [show upd nx t (nx t) = upd nx t nx1 by rw [e1']]
        refine lp_Md_watch_h l D cA ls n ru f R h _ us ch cp sh sp _ _ _ en sz tx S t ht fg st _ q0 da L hL9 (L - da) da hl hb (by omega) ?_
        rw [show upd nx t nx1 t = nx1 from pk_us]
        exact lp_Md_watch_g l D cA ls n ru f R h _ us ch cp sh sp _ _ _ en sz tx _ _ S t ht fg st _ _ q0 da L s K1 hs9 hz h0 q eq (fun en' ee => hp2 h41 en' ee)
    · refine mj_blk h.1 b_Md_watch_128 rfl trivial ?_
      refine mj_blk h.1 b_Md_watch_133 rfl trivial ?_
      rw [show nI q0 + 4 = nI (q0 + 4) from nI_add q0 4]
      refine mj_callV h zGood (ev_Md_four l D cA _ _ _ _ _ _ _ _ (q0 + 4) (by omega)) v_Md_four l_Md_watch_139 d_Md_watch_139 rfl ⟨by decide, by decide⟩ ⟨by decide, by decide⟩ [] rfl rfl rfl rfl rfl rfl (Nat.le_of_ble_eq_true rfl) ?_
      rintro _ _ ⟨rfl, rfl⟩
      refine mj_k rfl rfl ?_
      refine mj_blk h.1 b_Md_watch_142 rfl trivial ?_
      refine mj_ifeq1 h.1 (tgt := 151) d_Md_watch_144 (by decide) ?_
      refine mj_blk h.1 b_Md_watch_147 rfl trivial ?_
      refine mj_blk h.1 b_Md_watch_152 rfl ⟨vp_in_nI (by omega) (by decide), trivial⟩ ?_
      rw [nI_clamp (n := t) (by omega)]
      first | refine mj_ifeqB h.1 (tgt := 181) d_Md_watch_168 (by decide) (fun h46 => ?_) (fun h46 => ?_) | refine mj_ifeq h.1 (tgt := 181) d_Md_watch_168 (by decide) (fun h46 => ?_) (fun h46 => ?_)
      · refine mj_blk h.1 b_Md_watch_181 rfl trivial ?_
        try rw [nI_clamp (n := t) (by omega)]
        refine mj_blk h.1 b_Md_watch_183 rfl ⟨by rw [(show nI q0 + 12 = nI (q0 + 12) from nI_add q0 12)]; exact vp_in_nI (by omega) (by decide), vp_in_nI (by omega) (by decide), Or.inr rfl, vp_in_nI (by omega) (by decide), trivial⟩ ?_
        rw [(show nI q0 + 12 = nI (q0 + 12) from nI_add q0 12), nI_clamp (n := q0 + 12) (by omega), hw, show nI q0 + 4 * nI w = nI da by rw [show (4 : Int32) = nI 4 from rfl, pk_mul, nI_add, hda]]
        try rw [nI_clamp (n := t) (by omega)]
        refine mj_callV h zGood (ev_Md_pair l D cA _ _ _ _ _ _ _ _ 2 (by decide)) v_Md_pair l_Md_watch_211 d_Md_watch_211 rfl ⟨by decide, by decide⟩ ⟨by decide, by decide⟩ [] rfl rfl rfl rfl rfl rfl (Nat.le_of_ble_eq_true rfl) ?_
        rintro _ _ ⟨rfl, rfl⟩
        rw [hL]
        refine mj_k rfl rfl ?_
        refine mj_blk h.1 b_Md_watch_214 rfl trivial ?_
        have est : mFour f (q0 + 4) + 1 = st := by rw [hst, if_pos h42]
        rw [est]
        have e1' : st = nx1 := by rw [e1, if_pos h46]
        rw [show upd nx t st = upd nx t nx1 by rw [e1']]
        refine lp_Md_watch_h l D cA ls n ru f R h _ us ch cp sh sp _ _ _ en sz tx S t ht fg st _ q0 da L hL9 (L - da) da hl hb (by omega) ?_
        rw [show upd nx t nx1 t = nx1 from pk_us]
        exact lp_Md_watch_g l D cA ls n ru f R h _ us ch cp sh sp _ _ _ en sz tx _ _ S t ht fg st _ _ q0 da L s K1 hs9 hz h0 q eq (fun en' ee => hp2 h41 en' ee)
      · refine mj_blk h.1 b_Md_watch_171 rfl ⟨vp_in_nI (by omega) (by decide), trivial⟩ ?_
        try rw [nI_clamp (n := t) (by omega)]
        refine mj_blk h.1 b_Md_watch_183 rfl ⟨by rw [(show nI q0 + 12 = nI (q0 + 12) from nI_add q0 12)]; exact vp_in_nI (by omega) (by decide), vp_in_nI (by omega) (by decide), Or.inr rfl, vp_in_nI (by omega) (by decide), trivial⟩ ?_
        rw [(show nI q0 + 12 = nI (q0 + 12) from nI_add q0 12), nI_clamp (n := q0 + 12) (by omega), hw, show nI q0 + 4 * nI w = nI da by rw [show (4 : Int32) = nI 4 from rfl, pk_mul, nI_add, hda]]
        try rw [nI_clamp (n := t) (by omega)]
        refine mj_callV h zGood (ev_Md_pair l D cA _ _ _ _ _ _ _ _ 2 (by decide)) v_Md_pair l_Md_watch_211 d_Md_watch_211 rfl ⟨by decide, by decide⟩ ⟨by decide, by decide⟩ [] rfl rfl rfl rfl rfl rfl (Nat.le_of_ble_eq_true rfl) ?_
        rintro _ _ ⟨rfl, rfl⟩
        rw [hL]
        refine mj_k rfl rfl ?_
        refine mj_blk h.1 b_Md_watch_214 rfl trivial ?_
        have est : mFour f (q0 + 4) + 1 = st := by rw [hst, if_pos h42]
        rw [est]
        have e1' : (nx t) = nx1 := by rw [e1, if_neg h46]
        rw [show upd nx t (nx t) = upd nx t nx1 by rw [e1']]
        refine lp_Md_watch_h l D cA ls n ru f R h _ us ch cp sh sp _ _ _ en sz tx S t ht fg st _ q0 da L hL9 (L - da) da hl hb (by omega) ?_
        rw [show upd nx t nx1 t = nx1 from pk_us]
        exact lp_Md_watch_g l D cA ls n ru f R h _ us ch cp sh sp _ _ _ en sz tx _ _ S t ht fg st _ _ q0 da L s K1 hs9 hz h0 q eq (fun en' ee => hp2 h41 en' ee)
  · refine mj_blk h.1 b_Md_watch_110 rfl ⟨by rw [mDiv' t ht]; exact vp_in_nI (by omega) (by decide), Or.inl rfl, by decide, trivial⟩ ?_
    rw [mDiv' t ht, nI_clamp (n := t / 2) (by omega)]
    exact mj_iret h rfl d_Md_watch_121 (by decide) (by decide) (hp1 h41)
set_option maxRecDepth 100000 in
set_option maxHeartbeats 4000000 in
theorem ev_Md_watch_f (th : Int32) (ck : Int32) (us ch cp sh sp hr bgn nx en sz tx hl hb : Nat → Int32) (S : mS) (hn : n ≤ 100) (hr0 : 0 < mRea n f True) : E0_Md_watch l D cA [.ref 199] [(199, cMd th ls n ck ru S.tr S.al), (203, cIs 100 f), (204, cZs 4 us), (205, cIs 4 ch), (206, cIs 4 cp), (207, cIs 4 sh), (208, cIs 4 sp), (209, cIs 4 hr), (211, cZs 8 bgn), (212, cIs 8 nx), (213, cZs 8 en), (214, cIs 8 sz), (215, cIs 640 tx), (216, cZs 256 hl), (217, cIs 256 hb), (218, cZs 48 S.ra), (220, cIs 6 R.rw9), (221, cIs 6 R.rp), (222, cIs 6 R.op), (223, cIs 18 R.cs), (224, cIs 108 R.ct), (225, cIs 18 R.mk'), (226, cIs 18 R.lst), (227, cIs 18 R.spn), (229, cIs 3 S.lv), (230, cIs 3 S.pl), (232, cIs 96 S.at')] (some (.int (-1 - mRea n f True))) [(199, cMd 0 ls n ck ru S.tr S.al), (203, cIs 100 f), (204, cZs 4 us), (205, cIs 4 ch), (206, cIs 4 cp), (207, cIs 4 sh), (208, cIs 4 sp), (209, cIs 4 hr), (211, cZs 8 bgn), (212, cIs 8 nx), (213, cZs 8 en), (214, cIs 8 sz), (215, cIs 640 tx), (216, cZs 256 hl), (217, cIs 256 hb), (218, cZs 48 S.ra), (220, cIs 6 R.rw9), (221, cIs 6 R.rp), (222, cIs 6 R.op), (223, cIs 18 R.cs), (224, cIs 108 R.ct), (225, cIs 18 R.mk'), (226, cIs 18 R.lst), (227, cIs 18 R.spn), (229, cIs 3 S.lv), (230, cIs 3 S.pl), (232, cIs 96 S.at')] := by
  refine mj_ev (lv := [(0, .ref 199)]) (by decide +kernel) (Nat.le_of_ble_eq_true rfl) rfl (fun X h => ?_)
  refine mj_blk h.1 b_Md_watch_0 rfl trivial ?_
  refine mj_callV h zGood (ev_Md_reason l D cA _ _ _ _ _ _ n hn f True) v_Md_reason l_Md_watch_7 d_Md_watch_7 rfl ⟨by decide, by decide⟩ ⟨by decide, by decide⟩ [] rfl rfl rfl rfl rfl rfl (Nat.le_of_ble_eq_true rfl) ?_
  rintro _ _ ⟨rfl, rfl⟩
  generalize hx : mRea n f True = x at hr0 ⊢
  refine mj_k rfl rfl ?_
  refine mj_blk h.1 b_Md_watch_10 rfl trivial ?_
  refine mj_ifle h.1 (tgt := 19) d_Md_watch_12 (by decide) (fun h1 => ?_) (fun h1 => ?_)
  · exact absurd hr0 (by rw [Int32.lt_iff_toInt_lt]; rw [Int32.le_iff_toInt_le] at h1; omega)
  · refine mj_blk h.1 b_Md_watch_15 rfl trivial ?_
    exact mj_iret h rfl d_Md_watch_18 (by decide) (by decide) ⟨by rw [hx], rfl⟩
set_option maxRecDepth 100000 in
set_option maxHeartbeats 4000000 in
theorem ev_Md_watch_n (th : Int32) (ck : Int32) (us ch cp sh sp hr bgn nx en sz tx hl hb : Nat → Int32) (S : mS) (hn : n ≤ 100) (hr0 : mRea n f True = 0) (q0 : Nat) (hq9 : q0 ≤ 28) (hq3 : 4 * (f 0 - 64) = nI q0) (hfd : mFnd us ch cp sh sp (mFour f 12) (mPair f q0) (mFour f 16) (mPair f (q0 + 2)) 4 0 = -1) (hno : ¬ (¬ f (q0 + 13) &&& 2 = 0 ∧ f (q0 + 13) &&& 16 = 0)) : E_Md_watch l D cA 0 0 [.ref 199] [(199, cMd th ls n ck ru S.tr S.al), (203, cIs 100 f), (204, cZs 4 us), (205, cIs 4 ch), (206, cIs 4 cp), (207, cIs 4 sh), (208, cIs 4 sp), (209, cIs 4 hr), (211, cZs 8 bgn), (212, cIs 8 nx), (213, cZs 8 en), (214, cIs 8 sz), (215, cIs 640 tx), (216, cZs 256 hl), (217, cIs 256 hb), (218, cZs 48 S.ra), (220, cIs 6 R.rw9), (221, cIs 6 R.rp), (222, cIs 6 R.op), (223, cIs 18 R.cs), (224, cIs 108 R.ct), (225, cIs 18 R.mk'), (226, cIs 18 R.lst), (227, cIs 18 R.spn), (229, cIs 3 S.lv), (230, cIs 3 S.pl), (232, cIs 96 S.at')] (fun _ => True) (fun r1 w1 => r1 = some (.int (-10)) ∧ w1 = [(199, cMd 0 ls n ck ru S.tr S.al), (203, cIs 100 f), (204, cZs 4 us), (205, cIs 4 ch), (206, cIs 4 cp), (207, cIs 4 sh), (208, cIs 4 sp), (209, cIs 4 hr), (211, cZs 8 bgn), (212, cIs 8 nx), (213, cZs 8 en), (214, cIs 8 sz), (215, cIs 640 tx), (216, cZs 256 hl), (217, cIs 256 hb), (218, cZs 48 S.ra), (220, cIs 6 R.rw9), (221, cIs 6 R.rp), (222, cIs 6 R.op), (223, cIs 18 R.cs), (224, cIs 108 R.ct), (225, cIs 18 R.mk'), (226, cIs 18 R.lst), (227, cIs 18 R.spn), (229, cIs 3 S.lv), (230, cIs 3 S.pl), (232, cIs 96 S.at')]) := by
  refine mj_ev (lv := [(0, .ref 199)]) (by decide +kernel) (Nat.le_of_ble_eq_true rfl) rfl (fun X h => ?_)
  refine mj_blk h.1 b_Md_watch_0 rfl trivial ?_
  refine mj_callV h zGood (ev_Md_reason l D cA _ _ _ _ _ _ n hn f True) v_Md_reason l_Md_watch_7 d_Md_watch_7 rfl ⟨by decide, by decide⟩ ⟨by decide, by decide⟩ [] rfl rfl rfl rfl rfl rfl (Nat.le_of_ble_eq_true rfl) ?_
  rintro _ _ ⟨rfl, rfl⟩
  rw [hr0]
  refine mj_k rfl rfl ?_
  refine mj_blk h.1 b_Md_watch_10 rfl trivial ?_
  refine mj_ifle h.1 (tgt := 19) d_Md_watch_12 (by decide) (fun h1 => ?_) (fun h1 => ?_)
  · refine mj_blk h.1 b_Md_watch_19 rfl trivial ?_
    refine mj_callV h zGood (ev_Md_headerSize l D cA _ _ _ _ _ _ n f) v_Md_headerSize l_Md_watch_20 d_Md_watch_20 rfl ⟨by decide, by decide⟩ ⟨by decide, by decide⟩ [] rfl rfl rfl rfl rfl rfl (Nat.le_of_ble_eq_true rfl) ?_
    rintro _ _ ⟨rfl, rfl⟩
    rw [hq3]
    refine mj_k rfl rfl ?_
    refine mj_blk h.1 b_Md_watch_23 rfl ⟨by rw [(show nI q0 + 13 = nI (q0 + 13) from nI_add q0 13)]; exact vp_in_nI (by omega) (by decide), trivial⟩ ?_
    rw [(show nI q0 + 13 = nI (q0 + 13) from nI_add q0 13), nI_clamp (n := q0 + 13) (by omega)]
    refine mj_callV h zGood (ev_Md_find l D cA _ _ _ _ _ _ _ f us ch cp sh sp q0 (by omega)) v_Md_find l_Md_watch_36 d_Md_watch_36 rfl ⟨by decide, by decide⟩ ⟨by decide, by decide⟩ [] rfl rfl rfl rfl rfl rfl (Nat.le_of_ble_eq_true rfl) ?_
    rintro _ _ ⟨rfl, rfl⟩
    rw [hfd]
    refine mj_k rfl rfl ?_
    refine mj_blk h.1 b_Md_watch_39 rfl trivial ?_
    refine mj_ifge h.1 (tgt := 81) d_Md_watch_43 (by decide) (fun h2 => ?_) (fun h2 => ?_)
    · exact absurd h2 (by decide)
    · refine mj_blk h.1 b_Md_watch_46 rfl trivial ?_
      first | refine mj_ifeqB h.1 (tgt := 59) d_Md_watch_49 (by decide) (fun h3 => ?_) (fun h3 => ?_) | refine mj_ifeq h.1 (tgt := 59) d_Md_watch_49 (by decide) (fun h3 => ?_) (fun h3 => ?_)
      · refine mj_blk h.1 b_Md_watch_59 rfl trivial ?_
        exact mj_iret h rfl d_Md_watch_61 (by decide) (by decide) ⟨rfl, rfl⟩
      · refine mj_blk h.1 b_Md_watch_52 rfl trivial ?_
        first | refine mj_ifeqB h.1 (tgt := 62) d_Md_watch_56 (by decide) (fun h4 => ?_) (fun h4 => ?_) | refine mj_ifeq h.1 (tgt := 62) d_Md_watch_56 (by decide) (fun h4 => ?_) (fun h4 => ?_)
        · exact absurd ⟨h3, h4⟩ hno
        · refine mj_blk h.1 b_Md_watch_59 rfl trivial ?_
          exact mj_iret h rfl d_Md_watch_61 (by decide) (by decide) ⟨rfl, rfl⟩
  · exact absurd (by decide) h1
set_option maxRecDepth 100000 in
set_option maxHeartbeats 4000000 in
theorem ev_Md_watch_k (th : Int32) (ck : Int32) (us ch cp sh sp hr bgn nx en sz tx hl hb : Nat → Int32) (S : mS) (hn : n ≤ 100) (hr0 : mRea n f True = 0) (q0 : Nat) (hq9 : q0 ≤ 28) (hq3 : 4 * (f 0 - 64) = nI q0) (t : Nat) (ht : t < 8) (fg st : Int32) (efg : fg = f (q0 + 13)) (w da L s : Nat) (hw : f (q0 + 12) >>> ((4 : Int32) &&& 31) = nI w) (hda : q0 + 4 * w = da) (hdL : da ≤ L) (hL9 : L ≤ 100) (hL : mPair f 2 = nI L) (hst : st = mFour f (q0 + 4) + (if ¬ fg &&& 2 = 0 then 1 else 0)) (K1 : mRO R t ru) (hs9 : s ≤ 80) (hfd : mFnd us ch cp sh sp (mFour f 12) (mPair f q0) (mFour f 16) (mPair f (q0 + 2)) 4 0 = nI t) (hz : sz t = nI s) (h0 : S.c = 0) (nx1 : Int32) (e1 : nx1 = if bgn t = 0 then st else nx t) (q : gT) (eq : q = mGr (mRv R cp sp sz tx) t ru 32 (s, sz, tx, upd nx t nx1, (mHd f ls t nx1 st da (L - da) da hl hb).1, (mHd f ls t nx1 st da (L - da) da hl hb).2, S)) (en' : Nat → Int32) (e2 : en' = if ¬ fg &&& 1 = 0 ∧ q.nx t = st + nI L - nI da then upd en t 1 else en) : E_Md_watch l D cA 0 0 [.ref 199] [(199, cMd th ls n ck ru S.tr S.al), (203, cIs 100 f), (204, cZs 4 us), (205, cIs 4 ch), (206, cIs 4 cp), (207, cIs 4 sh), (208, cIs 4 sp), (209, cIs 4 hr), (211, cZs 8 bgn), (212, cIs 8 nx), (213, cZs 8 en), (214, cIs 8 sz), (215, cIs 640 tx), (216, cZs 256 hl), (217, cIs 256 hb), (218, cZs 48 S.ra), (220, cIs 6 R.rw9), (221, cIs 6 R.rp), (222, cIs 6 R.op), (223, cIs 18 R.cs), (224, cIs 108 R.ct), (225, cIs 18 R.mk'), (226, cIs 18 R.lst), (227, cIs 18 R.spn), (229, cIs 3 S.lv), (230, cIs 3 S.pl), (232, cIs 96 S.at')] (fun _ => True) (fun r1 w1 => (¬ fg &&& 4 = 0 ∧ r1 = some (.int 0) ∧ w1 = [(199, cMd 0 ls n (ck + 1) ru S.tr S.al), (203, cIs 100 f), (204, cZs 4 (upd us (t / 2) 0)), (205, cIs 4 ch), (206, cIs 4 cp), (207, cIs 4 sh), (208, cIs 4 sp), (209, cIs 4 (upd hr (t / 2) (ck + 1))), (211, cZs 8 bgn), (212, cIs 8 nx), (213, cZs 8 en), (214, cIs 8 sz), (215, cIs 640 tx), (216, cZs 256 hl), (217, cIs 256 hb), (218, cZs 48 S.ra), (220, cIs 6 R.rw9), (221, cIs 6 R.rp), (222, cIs 6 R.op), (223, cIs 18 R.cs), (224, cIs 108 R.ct), (225, cIs 18 R.mk'), (226, cIs 18 R.lst), (227, cIs 18 R.spn), (229, cIs 3 S.lv), (230, cIs 3 S.pl), (232, cIs 96 S.at')]) ∨ (fg &&& 4 = 0 ∧ r1 = some (.int q.S.c) ∧ w1 = [(199, cMd 0 ls n (ck + 1) ru q.S.tr q.S.al), (203, cIs 100 f), (204, cZs 4 (upd us (t / 2) (if ¬ en' (2 * (t / 2)) = 0 ∧ ¬ en' (2 * (t / 2) + 1) = 0 then 0 else 1))), (205, cIs 4 ch), (206, cIs 4 cp), (207, cIs 4 sh), (208, cIs 4 sp), (209, cIs 4 (upd hr (t / 2) (ck + 1))), (211, cZs 8 (upd bgn t 1)), (212, cIs 8 q.nx), (213, cZs 8 en'), (214, cIs 8 q.sz), (215, cIs 640 q.tx), (216, cZs 256 q.hl), (217, cIs 256 q.hb), (218, cZs 48 q.S.ra), (220, cIs 6 R.rw9), (221, cIs 6 R.rp), (222, cIs 6 R.op), (223, cIs 18 R.cs), (224, cIs 108 R.ct), (225, cIs 18 R.mk'), (226, cIs 18 R.lst), (227, cIs 18 R.spn), (229, cIs 3 q.S.lv), (230, cIs 3 q.S.pl), (232, cIs 96 q.S.at')])) := by
  refine mj_ev (lv := [(0, .ref 199)]) (by decide +kernel) (Nat.le_of_ble_eq_true rfl) rfl (fun X h => ?_)
  refine mj_blk h.1 b_Md_watch_0 rfl trivial ?_
  refine mj_callV h zGood (ev_Md_reason l D cA _ _ _ _ _ _ n hn f True) v_Md_reason l_Md_watch_7 d_Md_watch_7 rfl ⟨by decide, by decide⟩ ⟨by decide, by decide⟩ [] rfl rfl rfl rfl rfl rfl (Nat.le_of_ble_eq_true rfl) ?_
  rintro _ _ ⟨rfl, rfl⟩
  rw [hr0]
  refine mj_k rfl rfl ?_
  refine mj_blk h.1 b_Md_watch_10 rfl trivial ?_
  refine mj_ifle h.1 (tgt := 19) d_Md_watch_12 (by decide) (fun h1 => ?_) (fun h1 => ?_)
  · refine mj_blk h.1 b_Md_watch_19 rfl trivial ?_
    refine mj_callV h zGood (ev_Md_headerSize l D cA _ _ _ _ _ _ n f) v_Md_headerSize l_Md_watch_20 d_Md_watch_20 rfl ⟨by decide, by decide⟩ ⟨by decide, by decide⟩ [] rfl rfl rfl rfl rfl rfl (Nat.le_of_ble_eq_true rfl) ?_
    rintro _ _ ⟨rfl, rfl⟩
    rw [hq3]
    refine mj_k rfl rfl ?_
    refine mj_blk h.1 b_Md_watch_23 rfl ⟨by rw [(show nI q0 + 13 = nI (q0 + 13) from nI_add q0 13)]; exact vp_in_nI (by omega) (by decide), trivial⟩ ?_
    rw [(show nI q0 + 13 = nI (q0 + 13) from nI_add q0 13), nI_clamp (n := q0 + 13) (by omega)]
    refine mj_callV h zGood (ev_Md_find l D cA _ _ _ _ _ _ _ f us ch cp sh sp q0 (by omega)) v_Md_find l_Md_watch_36 d_Md_watch_36 rfl ⟨by decide, by decide⟩ ⟨by decide, by decide⟩ [] rfl rfl rfl rfl rfl rfl (Nat.le_of_ble_eq_true rfl) ?_
    rintro _ _ ⟨rfl, rfl⟩
    rw [hfd]
    refine mj_k rfl rfl ?_
    refine mj_blk h.1 b_Md_watch_39 rfl trivial ?_
    refine mj_ifge h.1 (tgt := 81) d_Md_watch_43 (by decide) (fun h2 => ?_) (fun h2 => ?_)
    · refine mj_lpk [0, 1, 2, 4] rfl ?_
      rw [← efg]
      exact lp_Md_watch_81 l D cA ls n ru f R h ck us ch cp sh sp hr bgn nx en sz tx hl hb S t ht fg st q0 w da L s hq9 hw hda hdL hL9 hL hst K1 hs9 hz h0 nx1 e1 q eq (fun z => Or.inl ⟨z, rfl, rfl⟩) (fun z en9 ee => Or.inr ⟨z, rfl, by rw [ee, e2]⟩)
    · exact absurd (nI_pos' (by omega)) h2
  · exact absurd (by decide) h1
set_option maxRecDepth 100000 in
set_option maxHeartbeats 4000000 in
theorem ev_Md_watch_m (th : Int32) (ck : Int32) (us ch cp sh sp hr bgn nx en sz tx hl hb : Nat → Int32) (S : mS) (hn : n ≤ 100) (hr0 : mRea n f True = 0) (q0 : Nat) (hq9 : q0 ≤ 28) (hq3 : 4 * (f 0 - 64) = nI q0) (k : Nat) (hk4 : k < 4) (hkr : mRoom us hr 4 0 0 = k) (S9 : mS) (eS9 : S9 = (⟨S.c, S.tr, S.al, mClr mZ6 2 (2 * k) S.ra, S.lv, S.pl, S.at'⟩ : mS)) (t : Nat) (ht : t < 8) (fg st : Int32) (efg : fg = f (q0 + 13)) (w da L s : Nat) (hw : f (q0 + 12) >>> ((4 : Int32) &&& 31) = nI w) (hda : q0 + 4 * w = da) (hdL : da ≤ L) (hL9 : L ≤ 100) (hL : mPair f 2 = nI L) (hst : st = mFour f (q0 + 4) + (if ¬ fg &&& 2 = 0 then 1 else 0)) (K1 : mRO R t ru) (hs9 : s ≤ 80) (htk : t = 2 * k) (hfd : mFnd us ch cp sh sp (mFour f 12) (mPair f q0) (mFour f 16) (mPair f (q0 + 2)) 4 0 = -1) (hyes : ¬ f (q0 + 13) &&& 2 = 0 ∧ f (q0 + 13) &&& 16 = 0) (hz : (mClr mU0 2 (2 * k) sz) t = nI s) (h0 : S9.c = 0) (nx1 : Int32) (e1 : nx1 = if (mClr mU0 2 (2 * k) bgn) t = 0 then st else (mClr mU0 2 (2 * k) nx) t) (q : gT) (eq : q = mGr (mRv R (upd cp k (mPair f q0)) (upd sp k (mPair f (q0 + 2))) (mClr mU0 2 (2 * k) sz) tx) t ru 32 (s, (mClr mU0 2 (2 * k) sz), tx, upd (mClr mU0 2 (2 * k) nx) t nx1, (mHd f ls t nx1 st da (L - da) da (mClr mZ32 2 (2 * k) hl) hb).1, (mHd f ls t nx1 st da (L - da) da (mClr mZ32 2 (2 * k) hl) hb).2, S9)) (en' : Nat → Int32) (e2 : en' = if ¬ fg &&& 1 = 0 ∧ q.nx t = st + nI L - nI da then upd (mClr mU0 2 (2 * k) en) t 1 else (mClr mU0 2 (2 * k) en)) : E_Md_watch l D cA 0 0 [.ref 199] [(199, cMd th ls n ck ru S.tr S.al), (203, cIs 100 f), (204, cZs 4 us), (205, cIs 4 ch), (206, cIs 4 cp), (207, cIs 4 sh), (208, cIs 4 sp), (209, cIs 4 hr), (211, cZs 8 bgn), (212, cIs 8 nx), (213, cZs 8 en), (214, cIs 8 sz), (215, cIs 640 tx), (216, cZs 256 hl), (217, cIs 256 hb), (218, cZs 48 S.ra), (220, cIs 6 R.rw9), (221, cIs 6 R.rp), (222, cIs 6 R.op), (223, cIs 18 R.cs), (224, cIs 108 R.ct), (225, cIs 18 R.mk'), (226, cIs 18 R.lst), (227, cIs 18 R.spn), (229, cIs 3 S.lv), (230, cIs 3 S.pl), (232, cIs 96 S.at')] (fun _ => True) (fun r1 w1 => (¬ fg &&& 4 = 0 ∧ r1 = some (.int 0) ∧ w1 = [(199, cMd 0 ls n (ck + 1) ru S9.tr S9.al), (203, cIs 100 f), (204, cZs 4 (upd (upd us k 1) (t / 2) 0)), (205, cIs 4 (upd ch k (mFour f 12))), (206, cIs 4 (upd cp k (mPair f q0))), (207, cIs 4 (upd sh k (mFour f 16))), (208, cIs 4 (upd sp k (mPair f (q0 + 2)))), (209, cIs 4 (upd hr (t / 2) (ck + 1))), (211, cZs 8 (mClr mU0 2 (2 * k) bgn)), (212, cIs 8 (mClr mU0 2 (2 * k) nx)), (213, cZs 8 (mClr mU0 2 (2 * k) en)), (214, cIs 8 (mClr mU0 2 (2 * k) sz)), (215, cIs 640 tx), (216, cZs 256 (mClr mZ32 2 (2 * k) hl)), (217, cIs 256 hb), (218, cZs 48 S9.ra), (220, cIs 6 R.rw9), (221, cIs 6 R.rp), (222, cIs 6 R.op), (223, cIs 18 R.cs), (224, cIs 108 R.ct), (225, cIs 18 R.mk'), (226, cIs 18 R.lst), (227, cIs 18 R.spn), (229, cIs 3 S9.lv), (230, cIs 3 S9.pl), (232, cIs 96 S9.at')]) ∨ (fg &&& 4 = 0 ∧ r1 = some (.int q.S.c) ∧ w1 = [(199, cMd 0 ls n (ck + 1) ru q.S.tr q.S.al), (203, cIs 100 f), (204, cZs 4 (upd (upd us k 1) (t / 2) (if ¬ en' (2 * (t / 2)) = 0 ∧ ¬ en' (2 * (t / 2) + 1) = 0 then 0 else 1))), (205, cIs 4 (upd ch k (mFour f 12))), (206, cIs 4 (upd cp k (mPair f q0))), (207, cIs 4 (upd sh k (mFour f 16))), (208, cIs 4 (upd sp k (mPair f (q0 + 2)))), (209, cIs 4 (upd hr (t / 2) (ck + 1))), (211, cZs 8 (upd (mClr mU0 2 (2 * k) bgn) t 1)), (212, cIs 8 q.nx), (213, cZs 8 en'), (214, cIs 8 q.sz), (215, cIs 640 q.tx), (216, cZs 256 q.hl), (217, cIs 256 q.hb), (218, cZs 48 q.S.ra), (220, cIs 6 R.rw9), (221, cIs 6 R.rp), (222, cIs 6 R.op), (223, cIs 18 R.cs), (224, cIs 108 R.ct), (225, cIs 18 R.mk'), (226, cIs 18 R.lst), (227, cIs 18 R.spn), (229, cIs 3 q.S.lv), (230, cIs 3 q.S.pl), (232, cIs 96 q.S.at')])) := by
  refine mj_ev (lv := [(0, .ref 199)]) (by decide +kernel) (Nat.le_of_ble_eq_true rfl) rfl (fun X h => ?_)
  refine mj_blk h.1 b_Md_watch_0 rfl trivial ?_
  refine mj_callV h zGood (ev_Md_reason l D cA _ _ _ _ _ _ n hn f True) v_Md_reason l_Md_watch_7 d_Md_watch_7 rfl ⟨by decide, by decide⟩ ⟨by decide, by decide⟩ [] rfl rfl rfl rfl rfl rfl (Nat.le_of_ble_eq_true rfl) ?_
  rintro _ _ ⟨rfl, rfl⟩
  rw [hr0]
  refine mj_k rfl rfl ?_
  refine mj_blk h.1 b_Md_watch_10 rfl trivial ?_
  refine mj_ifle h.1 (tgt := 19) d_Md_watch_12 (by decide) (fun h1 => ?_) (fun h1 => ?_)
  · refine mj_blk h.1 b_Md_watch_19 rfl trivial ?_
    refine mj_callV h zGood (ev_Md_headerSize l D cA _ _ _ _ _ _ n f) v_Md_headerSize l_Md_watch_20 d_Md_watch_20 rfl ⟨by decide, by decide⟩ ⟨by decide, by decide⟩ [] rfl rfl rfl rfl rfl rfl (Nat.le_of_ble_eq_true rfl) ?_
    rintro _ _ ⟨rfl, rfl⟩
    rw [hq3]
    refine mj_k rfl rfl ?_
    refine mj_blk h.1 b_Md_watch_23 rfl ⟨by rw [(show nI q0 + 13 = nI (q0 + 13) from nI_add q0 13)]; exact vp_in_nI (by omega) (by decide), trivial⟩ ?_
    rw [(show nI q0 + 13 = nI (q0 + 13) from nI_add q0 13), nI_clamp (n := q0 + 13) (by omega)]
    refine mj_callV h zGood (ev_Md_find l D cA _ _ _ _ _ _ _ f us ch cp sh sp q0 (by omega)) v_Md_find l_Md_watch_36 d_Md_watch_36 rfl ⟨by decide, by decide⟩ ⟨by decide, by decide⟩ [] rfl rfl rfl rfl rfl rfl (Nat.le_of_ble_eq_true rfl) ?_
    rintro _ _ ⟨rfl, rfl⟩
    rw [hfd]
    refine mj_k rfl rfl ?_
    refine mj_blk h.1 b_Md_watch_39 rfl trivial ?_
    refine mj_ifge h.1 (tgt := 81) d_Md_watch_43 (by decide) (fun h2 => ?_) (fun h2 => ?_)
    · refine mj_lpk [0, 1, 2, 4] rfl ?_
      exact absurd h2 (by decide)
    · refine mj_blk h.1 b_Md_watch_46 rfl trivial ?_
      first | refine mj_ifeqB h.1 (tgt := 59) d_Md_watch_49 (by decide) (fun h3 => ?_) (fun h3 => ?_) | refine mj_ifeq h.1 (tgt := 59) d_Md_watch_49 (by decide) (fun h3 => ?_) (fun h3 => ?_)
      · exact absurd h3 hyes.1
      · refine mj_blk h.1 b_Md_watch_52 rfl trivial ?_
        first | refine mj_ifeqB h.1 (tgt := 62) d_Md_watch_56 (by decide) (fun h4 => ?_) (fun h4 => ?_) | refine mj_ifeq h.1 (tgt := 62) d_Md_watch_56 (by decide) (fun h4 => ?_) (fun h4 => ?_)
        · refine mj_blk h.1 b_Md_watch_62 rfl trivial ?_
          refine mj_callV h zGood (ev_Md_room l D cA _ _ _ _ _ _ _ us hr) v_Md_room l_Md_watch_63 d_Md_watch_63 rfl ⟨by decide, by decide⟩ ⟨by decide, by decide⟩ [] rfl rfl rfl rfl rfl rfl (Nat.le_of_ble_eq_true rfl) ?_
          rintro _ _ ⟨rfl, rfl⟩
          rw [hkr]
          refine mj_k rfl rfl ?_
          refine mj_blk h.1 b_Md_watch_66 rfl trivial ?_
          refine mj_callV h zGood (ev_Md_begin l D cA _ _ _ _ _ _ _ f us ch cp sh sp k q0 hk4 (by omega) bgn nx en sz hl S.ra) v_Md_begin l_Md_watch_72 d_Md_watch_72 rfl ⟨by decide, by decide⟩ ⟨by decide, by decide⟩ [] rfl rfl rfl rfl rfl rfl (Nat.le_of_ble_eq_true rfl) ?_
          rintro _ _ ⟨rfl, rfl⟩
          refine mj_k rfl rfl ?_
          refine mj_blk h.1 b_Md_watch_75 rfl trivial ?_
          refine mj_lpk [0, 2, 3, 5] rfl ?_
          rw [show (2 : Int32) * nI k = nI t by rw [htk]; exact pk_mul 2 k, ← efg]
          have q9 : mj_W zG X 0 0 81 [(4, .int (nI t)), (3, .int fg), (2, .int (nI q0)), (0, .ref 199)] [] [(199, cMd 0 ls n ck ru S9.tr S9.al), (203, cIs 100 f), (204, cZs 4 (upd us k 1)), (205, cIs 4 (upd ch k (mFour f 12))), (206, cIs 4 (upd cp k (mPair f q0))), (207, cIs 4 (upd sh k (mFour f 16))), (208, cIs 4 (upd sp k (mPair f (q0 + 2)))), (209, cIs 4 hr), (211, cZs 8 (mClr mU0 2 (2 * k) bgn)), (212, cIs 8 (mClr mU0 2 (2 * k) nx)), (213, cZs 8 (mClr mU0 2 (2 * k) en)), (214, cIs 8 (mClr mU0 2 (2 * k) sz)), (215, cIs 640 tx), (216, cZs 256 (mClr mZ32 2 (2 * k) hl)), (217, cIs 256 hb), (218, cZs 48 S9.ra), (220, cIs 6 R.rw9), (221, cIs 6 R.rp), (222, cIs 6 R.op), (223, cIs 18 R.cs), (224, cIs 108 R.ct), (225, cIs 18 R.mk'), (226, cIs 18 R.lst), (227, cIs 18 R.spn), (229, cIs 3 S9.lv), (230, cIs 3 S9.pl), (232, cIs 96 S9.at')] := by
            exact lp_Md_watch_81 l D cA ls n ru f R h ck (upd us k 1) (upd ch k (mFour f 12)) (upd cp k (mPair f q0)) (upd sh k (mFour f 16)) (upd sp k (mPair f (q0 + 2))) hr (mClr mU0 2 (2 * k) bgn) (mClr mU0 2 (2 * k) nx) (mClr mU0 2 (2 * k) en) (mClr mU0 2 (2 * k) sz) tx (mClr mZ32 2 (2 * k) hl) hb S9 t ht fg st q0 w da L s hq9 hw hda hdL hL9 hL hst K1 hs9 hz h0 nx1 e1 q eq (fun z => Or.inl ⟨z, rfl, rfl⟩) (fun z en9 ee => Or.inr ⟨z, rfl, by rw [ee, e2]⟩)
          rw [eS9] at q9
          exact q9
        · exact absurd hyes.2 h4
  · exact absurd (by decide) h1
end MODO
