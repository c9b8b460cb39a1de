/-! The law's loop: watch (by program: wip/whole/src_law.py) -/
theorem u_hdr {f : Nat → Int32} {n q w M : Nat} (hn : n ≤ 100) (h20 : 20 ≤ n) (a1 : wIpN n f = q) (a4 : 20 ≤ q) (a5 : q ≤ 28) (a8 : q + 20 ≤ M) (a9 : M ≤ n) (a10 : wTw n f = nI w) {fg fn : Int32} (efg : fg = f (q + 13)) (efn : fn = mFour f (q + 4) + (if ¬ fg &&& 2 = 0 then 1 else 0)) :
    wQuad n f 12 = mFour f 12 ∧ wPair n f (nI q) = mPair f q ∧ wQuad n f 16 = mFour f 16 ∧ wPair n f (nI q + 2) = mPair f (q + 2) ∧ pFg n f = fg ∧ pFn n f = fn ∧ wDs n f = nI (q + 4 * w) := by
  have hg : pFg n f = fg := by
    unfold pFg
    rw [a1, show (13 : Int32) = nI 13 from rfl, nI_add, u_wA hn (by omega), efg]
  refine ⟨u_wQuad hn (by omega) _ rfl, u_wPair hn (by omega) _ rfl, u_wQuad hn (by omega) _ rfl, u_wPair hn (by omega) _ (by rw [show (2 : Int32) = nI 2 from rfl, nI_add]), hg, ?_, ?_⟩
  · unfold pFn
    rw [hg, a1, show nI q + 4 = nI (q + 4) from nI_add q 4, u_wQuad hn (k := q + 4) (by omega) _ rfl, efn]
  · unfold wDs
    rw [a1, a10, show (4 : Int32) = nI 4 from rfl, pk_mul, nI_add, Nat.mul_comm w 4]
theorem lw_RO {T : lwT} (I : lwI T) {t : Nat} (ht : t < 8) : mRO T.R t T.rc := by
  have h6 := I.rul.1
  refine ⟨ht, h6, fun i hi => ?_, I.cs1, I.cs2⟩
  obtain ⟨k1, k2, k3, k4, k5, k6⟩ := I.rul.2 i hi
  rw [show mIx i = i from nI_clamp (by omega)]
  exact ⟨k5, k4⟩
theorem fWay_self (a b c d : Int32) : fWay a b c d a b c d = 0 := by
  unfold fWay
  rw [if_pos ⟨⟨rfl, rfl⟩, ⟨rfl, rfl⟩⟩]
set_option maxRecDepth 100000 in
set_option maxHeartbeats 8000000 in
theorem lw_watch_f {st : Bool} {X : mj_X} {l : Launch} {D : va_G} {cA : Nat → ClassId} {L n0 : Nat} {xs : Nat → Int32} (E : lwE X l D cA L xs n0) {i : Nat} (hi : i + 8 ≤ L) (k : lwG st X (i + 8)) {T : lwT} (I : lwI T) (h0 : ¬ wFault T.n T.f True = 0) : mj_W zG X (100 + i) (4000 + i) 427 (lwL i) [] (lwF st T ++ lwR T) := by
  have hL := E.hL
  have hn1 := I.n1
  obtain ⟨hF, hF2, hF3⟩ := u_fault (f := T.f) (g := fun j => (T.f j).toNatClampNeg) (fun j => (I.by1 j).1) (fun j => (I.by1 j).2) I.n1 True
  have h1 : 0 < mRea T.n T.f True := by
    rcases hF3 with h | h
    · exact absurd (hF.trans h) h0
    · exact h
  refine mj_blk E.h.1 b_Lw_law_427 rfl trivial ?_
  refine mj_callVx E.h zGood (ev_Sw_watch_f l D cA st T.rc T.n T.f T.ph T.ch T.cp T.sh T.sp T.ha T.lv T.tx T.hd T.ts T.hs T.nx T.rr T.bg T.en T.rows T.tot T.a (lwR T) I.n1 T.k1 T.k2 T.k3 T.k4 T.k5 T.k6 T.k7 T.k8 T.bm T.bl T.bt T.fm T.fl T.ft h0) v_Sw_watch l_Lw_law_428 d_Lw_law_428 rfl ⟨by decide, by decide⟩ ⟨by omega, by omega⟩ [] (wf := lwF st T) (Rw := lwR T) (rest := []) rfl rfl rfl (fun q hq => (by rw [mj_wr0] at hq; exact hq)) (rK_nd2 (ρ := []) (rF_K I.fr1 I.rul.1 _) (mj_wr0 _) _ rfl rfl) rfl (Nat.le_of_ble_eq_true rfl) ?_
  rintro _ _ ⟨rfl, rfl⟩
  refine ⟨_, _, _, rfl, rfl, rfl, ?_⟩
  refine mj_blk E.h.1 b_Lw_law_431 rfl trivial ?_
  refine mj_callV E.h zGood (ev_Md_watch_f l D cA st T.n T.rc T.f T.R T.th T.ck T.us T.rh T.rp9 T.rs T.rq T.hr T.bgn T.nxR T.enR T.sz T.txR T.hl T.hb ((0, T.tr, T.al, T.ra, T.lvR, T.pl, T.at9) : mS) I.n1 h1) v_Md_watch l_Lw_law_432 d_Lw_law_432 rfl ⟨by decide, by decide⟩ ⟨by omega, by omega⟩ [] rfl rfl rfl rfl rfl rfl (Nat.le_of_ble_eq_true rfl) ?_
  rintro _ _ ⟨rfl, rfl⟩
  refine mj_k rfl rfl ?_
  refine lw_eq E (by rw [hF]) d_Lw_law_435 (tgt := 831) (by decide) ?_
  have I2 : lwI ((T.rc, T.n, T.f, T.ph, T.ch, T.cp, T.sh, T.sp, T.ha, T.lv), (T.tx, T.hd, T.ts, T.hs, T.nx, T.rr, T.bg, T.en, T.rows, T.tot, T.a), (T.k1, T.k2, T.k3, T.k4, T.k5, T.k6, T.k7, T.k8, T.bm, T.bl, T.bt, T.fm, T.fl, T.ft), (0, T.ck, T.us, T.rh, T.rp9, T.rs, T.rq, T.hr), (T.bgn, T.nxR, T.enR, T.sz, T.txR, T.hl, T.hb, T.tr, T.al, T.ra, T.lvR, T.pl, T.at9), (T.R, T.wy, T.pt, T.os, T.N, T.F, T.g)) := ⟨I.n1, I.by1, I.rel, I.rul, I.cs1, I.cs2, I.fr1⟩
  exact lw_end E k I2 (by omega) (by omega)
set_option maxRecDepth 100000 in
set_option maxHeartbeats 8000000 in
theorem lw_watch_p {st : Bool} {X : mj_X} {l : Launch} {D : va_G} {cA : Nat → ClassId} {L n0 : Nat} {xs : Nat → Int32} (E : lwE X l D cA L xs n0) {i : Nat} (hi : i + 8 ≤ L) (k : lwG st X (i + 8)) {T : lwT} (I : lwI T) (h0 : wFault T.n T.f True = 0) : mj_W zG X (100 + i) (4000 + i) 427 (lwL i) [] (lwF st T ++ lwR T) := by
  have hL := E.hL
  have hn1 := I.n1
  obtain ⟨hF, hF2, hF3⟩ := u_fault (f := T.f) (g := fun j => (T.f j).toNatClampNeg) (fun j => (I.by1 j).1) (fun j => (I.by1 j).2) I.n1 True
  obtain ⟨h20, q, M, w, a1, a2, a3, a4, a5, a6, a7, a8, a9, a10, a11, a12, a13, a14⟩ := hF2 h0
  obtain ⟨fg, efg⟩ : ∃ fg, fg = T.f (q + 13) := ⟨_, rfl⟩
  obtain ⟨fn, efn⟩ : ∃ fn, fn = mFour T.f (q + 4) + (if ¬ fg &&& 2 = 0 then 1 else 0) := ⟨_, rfl⟩
  obtain ⟨b1, b2, b3, b4, b5, b6, b7⟩ := u_hdr I.n1 h20 a1 a4 a5 a8 a9 a10 efg efn
  have hda : q + 4 * w + (M - (q + 4 * w)) = M := by omega
  have hev := ev_Sw_watch l D cA st T.rc T.n T.f T.ph T.ch T.cp T.sh T.sp T.ha T.lv T.tx T.hd T.ts T.hs T.nx T.rr T.bg T.en T.rows T.tot T.a (rlOf T.rc) T.wy T.pt T.os (lwR T) I.rul.1 (rF_K I.fr1 I.rul.1 _) (rF_Q I.fr1) (fun tx ts hts => rF_R I.fr1 I.rul tx ts hts) I.n1 I.rel.2.2.2.1 I.rel.2.2.2.2.1.2.1 T.k1 T.k2 T.k3 T.k4 T.k5 T.k6 T.k7 T.k8 T.bm T.bl T.bt T.fm T.fl T.ft h0 (M - (q + 4 * w)) (by omega) (by rw [a6, b7, pk_sub (by omega)])
  rw [a1, b1, b2, b3, b4, b5, b6, b7] at hev
  have hr0 : mRea T.n T.f True = 0 := hF.symm.trans h0
  have hfind := u_findF (fun j hj => lw_hu I hj) (fun j hj => ⟨(I.rel.2.1 j hj).1, (I.rel.2.1 j hj).2.1, (I.rel.2.1 j hj).2.2.1, (I.rel.2.1 j hj).2.2.2.1⟩) (mFour T.f 12) (mPair T.f q) (mFour T.f 16) (mPair T.f (q + 2)) 4 0 rfl
  refine mj_blk E.h.1 b_Lw_law_427 rfl trivial ?_
  refine mj_callVx E.h zGood (hev) v_Sw_watch l_Lw_law_428 d_Lw_law_428 rfl ⟨by decide, by decide⟩ ⟨by omega, by omega⟩ [] (wf := lwF st T) (Rw := lwR T) (rest := []) rfl rfl rfl (fun q hq => (by rw [mj_wr0] at hq; exact hq)) (rK_nd2 (ρ := []) (rF_K I.fr1 I.rul.1 _) (mj_wr0 _) _ rfl rfl) rfl (Nat.le_of_ble_eq_true rfl) ?_
  intro r1 w1 hpost
  rcases hfind with ⟨n1, n2⟩ | ⟨j, y, hj, hy, f1, f2, f3, f4⟩
  · rcases hpost with ⟨o1, o2, rfl, k1, k2, k3, k4, k5, k6, k7, k8, bm, bl, bt, fm, fl, ft, rfl⟩ | ⟨j', hj', o1, ow⟩ | ⟨o1, o2, kf, hk4, hks, ow⟩
    · refine ⟨_, _, _, rfl, rfl, rfl, ?_⟩
      refine mj_blk E.h.1 b_Lw_law_431 rfl trivial ?_
      refine mj_callV E.h zGood (ev_Md_watch_n l D cA st T.n T.rc T.f T.R T.th T.ck T.us T.rh T.rp9 T.rs T.rq T.hr T.bgn T.nxR T.enR T.sz T.txR T.hl T.hb ((0, T.tr, T.al, T.ra, T.lvR, T.pl, T.at9) : mS) I.n1 hr0 q a5 a3 n2 (by rw [← efg]; exact o2)) v_Md_watch l_Lw_law_432 d_Lw_law_432 rfl ⟨by decide, by decide⟩ ⟨by omega, by omega⟩ [] rfl rfl rfl rfl rfl rfl (Nat.le_of_ble_eq_true rfl) ?_
      rintro _ _ ⟨rfl, rfl⟩
      refine mj_k rfl rfl ?_
      refine lw_eq E (rfl) d_Lw_law_435 (tgt := 831) (by decide) ?_
      have I2 : lwI ((T.rc, T.n, T.f, T.ph, T.ch, T.cp, T.sh, T.sp, T.ha, T.lv), (T.tx, T.hd, T.ts, T.hs, T.nx, T.rr, T.bg, T.en, T.rows, T.tot, T.a), (k1, k2, k3, k4, k5, k6, k7, k8, bm, bl, bt, fm, fl, ft), (0, T.ck, T.us, T.rh, T.rp9, T.rs, T.rq, T.hr), (T.bgn, T.nxR, T.enR, T.sz, T.txR, T.hl, T.hb, T.tr, T.al, T.ra, T.lvR, T.pl, T.at9), (T.R, T.wy, T.pt, T.os, T.N, T.F, T.g)) := ⟨I.n1, I.by1, I.rel, I.rul, I.cs1, I.cs2, I.fr1⟩
      exact lw_end E k I2 (by omega) (by omega)
    · rw [n1] at o1
      cases o1
    · obtain ⟨hr1, hr2⟩ := u_room (fun j hj => lw_hu I hj) (fun j hj => (I.rel.2.1 j hj).2.2.2.2.1)
      have hkr : mRoom T.us T.hr 4 0 0 = kf := hr1.symm.trans hks
      have rel1 := u_beg I.rel hk4 (mFour T.f 12) (mPair T.f q) (mFour T.f 16) (mPair T.f (q + 2))
      have ht2 : 2 * kf / 2 = kf := by omega
      obtain ⟨nx1, en1⟩ : ∃ nx1, nx1 = if (mClr mU0 2 (2 * kf) T.bgn) (2 * kf) = 0 then fn else (mClr mU0 2 (2 * kf) T.nxR) (2 * kf) := ⟨_, rfl⟩
      obtain ⟨G9, eG⟩ : ∃ G9 : gT, G9 = mGr (mRv T.R (upd T.rp9 kf (mPair T.f q)) (upd T.rq kf (mPair T.f (q + 2))) (mClr mU0 2 (2 * kf) T.sz) T.txR) (2 * kf) T.rc 32 (up2 T.ts kf 0 (2 * kf), (mClr mU0 2 (2 * kf) T.sz), T.txR, upd (mClr mU0 2 (2 * kf) T.nxR) (2 * kf) nx1, (mHd T.f st (2 * kf) nx1 fn (q + 4 * w) (M - (q + 4 * w)) (q + 4 * w) (mClr mZ32 2 (2 * kf) T.hl) T.hb).1, (mHd T.f st (2 * kf) nx1 fn (q + 4 * w) (M - (q + 4 * w)) (q + 4 * w) (mClr mZ32 2 (2 * kf) T.hl) T.hb).2, ((0, T.tr, T.al, mClr mZ6 2 (2 * kf) T.ra, T.lvR, T.pl, T.at9) : mS)) := ⟨_, rfl⟩
      obtain ⟨en', ee⟩ : ∃ en' : Nat → Int32, en' = if ¬ fg &&& 1 = 0 ∧ G9.nx (2 * kf) = fn + nI M - nI (q + 4 * w) then upd (mClr mU0 2 (2 * kf) T.enR) (2 * kf) 1 else (mClr mU0 2 (2 * kf) T.enR) := ⟨_, rfl⟩
      have hmd := ev_Md_watch_m l D cA st T.n T.rc T.f T.R T.th T.ck T.us T.rh T.rp9 T.rs T.rq T.hr T.bgn T.nxR T.enR T.sz T.txR T.hl T.hb ((0, T.tr, T.al, T.ra, T.lvR, T.pl, T.at9) : mS) I.n1 hr0 q a5 a3 kf hk4 hkr ((0, T.tr, T.al, mClr mZ6 2 (2 * kf) T.ra, T.lvR, T.pl, T.at9) : mS) rfl (2 * kf) (by omega) fg fn efg w (q + 4 * w) M (up2 T.ts kf 0 (2 * kf)) a11 rfl a14 (by omega) a7 efn (lw_RO I (by omega)) (rel1.2.2.2.1 _) rfl n2 (by rw [← efg]; exact o2) (rel1.2.2.1 (2 * kf) (by omega)).2.1 rfl nx1 en1 G9 eG en' ee
      rw [ht2] at hmd
      rcases ow with ⟨g1, rfl, k1, k2, k3, k4, k5, k6, k7, k8, bm, bl, bt, fm, fl, ft, rfl⟩ | ⟨g1, y, hy, hway, S, eS, rfl, k1, k2, k3, k4, k5, k6, k7, k8, bm, bl, bt, fm, fl, ft, rfl⟩
      · refine ⟨_, _, _, rfl, rfl, rfl, ?_⟩
        refine mj_blk E.h.1 b_Lw_law_431 rfl trivial ?_
        refine mj_callV E.h zGood (hmd) v_Md_watch l_Lw_law_432 d_Lw_law_432 rfl ⟨by decide, by decide⟩ ⟨by omega, by omega⟩ [] rfl rfl rfl rfl rfl rfl (Nat.le_of_ble_eq_true rfl) ?_
        rintro _ _ (⟨g2, rfl, rfl⟩ | ⟨g2, rfl, rfl⟩)
        · refine mj_k rfl rfl ?_
          refine lw_eq E (Int32.sub_self _) d_Lw_law_435 (tgt := 831) (by decide) ?_
          have I2 : lwI ((T.rc, T.n, T.f, T.ph + 1, va_up T.ch kf (mFour T.f 12), va_up T.cp kf (mPair T.f q), va_up T.sh kf (mFour T.f 16), va_up T.sp kf (mPair T.f (q + 2)), va_up T.ha kf (T.ph + 1), va_up (va_up T.lv kf true) kf false), (T.tx, fun t => if t / 2 = kf then sFill 32 0 (T.hd t) else T.hd t, up2 T.ts kf 0, up2 T.hs kf 0, up2 T.nx kf 0, up2 T.rr kf 0, up2 T.bg kf false, up2 T.en kf false, T.rows, T.tot, T.a), (k1, k2, k3, k4, k5, k6, k7, k8, bm, bl, bt, fm, fl, ft), (0, T.ck + 1, upd (upd T.us kf 1) kf 0, upd T.rh kf (mFour T.f 12), upd T.rp9 kf (mPair T.f q), upd T.rs kf (mFour T.f 16), upd T.rq kf (mPair T.f (q + 2)), upd T.hr kf (T.ck + 1)), (mClr mU0 2 (2 * kf) T.bgn, mClr mU0 2 (2 * kf) T.nxR, mClr mU0 2 (2 * kf) T.enR, mClr mU0 2 (2 * kf) T.sz, T.txR, mClr mZ32 2 (2 * kf) T.hl, T.hb, T.tr, T.al, mClr mZ6 2 (2 * kf) T.ra, T.lvR, T.pl, T.at9), (T.R, T.wy, T.pt, T.os, T.N, T.F, T.g)) := ⟨I.n1, I.by1, u_rst rel1 hk4, I.rul, I.cs1, I.cs2, I.fr1⟩
          exact lw_end E k I2 (by omega) (by omega)
        · exact absurd g2 g1
      · have hw0 : fWay (va_up T.ch kf (mFour T.f 12) kf) (va_up T.cp kf (mPair T.f q) kf) (va_up T.sh kf (mFour T.f 16) kf) (va_up T.sp kf (mPair T.f (q + 2)) kf) (mFour T.f 12) (mPair T.f q) (mFour T.f 16) (mPair T.f (q + 2)) = 0 := by
          rw [u_upS, u_upS, u_upS, u_upS]
          exact fWay_self _ _ _ _
        have hy0 : y = 0 := (nI_eq (a := y) (b := 0) (by omega) (by omega)).mp (hway.symm.trans hw0)
        subst hy0
        rw [Nat.add_zero] at eS
        obtain ⟨u1, N2, u2⟩ := u_pkt (S0 := ((0, T.tr, T.al, mClr mZ6 2 (2 * kf) T.ra, T.lvR, T.pl, T.at9) : mS)) rel1 (j := kf) (y := 0) hk4 (by decide) (u_upS _ _ _) (t := 2 * kf) rfl I.by1 I.n1 (da := q + 4 * w) (d := M - (q + 4 * w)) (by omega) fn fg st (R := mRv T.R (upd T.rp9 kf (mPair T.f q)) (upd T.rq kf (mPair T.f (q + 2))) (mClr mU0 2 (2 * kf) T.sz) T.txR) I.rul rfl rfl rfl eS en1 eG (en' := en') (by rw [hda]; exact ee)
        refine ⟨_, _, _, rfl, rfl, rfl, ?_⟩
        refine mj_blk E.h.1 b_Lw_law_431 rfl trivial ?_
        refine mj_callV E.h zGood (hmd) v_Md_watch l_Lw_law_432 d_Lw_law_432 rfl ⟨by decide, by decide⟩ ⟨by omega, by omega⟩ [] rfl rfl rfl rfl rfl rfl (Nat.le_of_ble_eq_true rfl) ?_
        rintro _ _ (⟨g2, rfl, rfl⟩ | ⟨g2, rfl, rfl⟩)
        · exact absurd g1 g2
        · refine mj_k rfl rfl ?_
          refine lw_eq E (u1) d_Lw_law_435 (tgt := 831) (by decide) ?_
          have I2 : lwI ((T.rc, T.n, T.f, T.ph + 1, va_up T.ch kf (mFour T.f 12), va_up T.cp kf (mPair T.f q), va_up T.sh kf (mFour T.f 16), va_up T.sp kf (mPair T.f (q + 2)), va_up T.ha kf (T.ph + 1), va_up (va_up T.lv kf true) kf (if (¬ fg &&& 1 = 0 ∧ S.2.2.2.2.1 = fn + nI (M - (q + 4 * w))) ∧ (up2 T.en kf false) (2 * kf + 1 - 0) = true then false else (va_up T.lv kf true) kf)), (va_up T.tx (2 * kf) S.1, va_up (fun t => if t / 2 = kf then sFill 32 0 (T.hd t) else T.hd t) (2 * kf) S.2.1, va_up (up2 T.ts kf 0) (2 * kf) S.2.2.1, va_up (up2 T.hs kf 0) (2 * kf) S.2.2.2.1, va_up (up2 T.nx kf 0) (2 * kf) S.2.2.2.2.1, va_up (up2 T.rr kf 0) (2 * kf) S.2.2.2.2.2.1, va_up (up2 T.bg kf false) (2 * kf) true, va_up (up2 T.en kf false) (2 * kf) (if ¬ fg &&& 1 = 0 ∧ S.2.2.2.2.1 = fn + nI (M - (q + 4 * w)) then true else (up2 T.en kf false) (2 * kf)), S.2.2.2.2.2.2.1, S.2.2.2.2.2.2.2.1, S.2.2.2.2.2.2.2.2), (k1, k2, k3, k4, k5, k6, k7, k8, bm, bl, bt, fm, fl, ft), (0, T.ck + 1, upd (upd T.us kf 1) kf (if ¬ en' (2 * kf) = 0 ∧ ¬ en' (2 * kf + 1) = 0 then 0 else 1), upd T.rh kf (mFour T.f 12), upd T.rp9 kf (mPair T.f q), upd T.rs kf (mFour T.f 16), upd T.rq kf (mPair T.f (q + 2)), upd T.hr kf (T.ck + 1)), (upd (mClr mU0 2 (2 * kf) T.bgn) (2 * kf) 1, G9.nx, en', G9.sz, G9.tx, G9.hl, G9.hb, G9.S.tr, G9.S.al, G9.S.ra, G9.S.lv, G9.S.pl, G9.S.at'), (T.R, T.wy, T.pt, T.os, N2, T.F, T.g)) := ⟨I.n1, I.by1, u2, I.rul, I.cs1, I.cs2, I.fr1⟩
          exact lw_end E k I2 (by omega) (by omega)
  · rcases hpost with ⟨o1, o2, rfl, k1, k2, k3, k4, k5, k6, k7, k8, bm, bl, bt, fm, fl, ft, rfl⟩ | ⟨j', hj', o1, ow⟩ | ⟨o1, o2, kf, hk4, hks, ow⟩
    · rw [f1] at o1
      cases o1
    · have hjj : j = j' := Option.some.inj (f1.symm.trans o1)
      subst hjj
      have ht2 : (2 * j + y) / 2 = j := by omega
      obtain ⟨nx1, en1⟩ : ∃ nx1, nx1 = if T.bgn (2 * j + y) = 0 then fn else T.nxR (2 * j + y) := ⟨_, rfl⟩
      obtain ⟨G9, eG⟩ : ∃ G9 : gT, G9 = mGr (mRv T.R T.rp9 T.rq T.sz T.txR) (2 * j + y) T.rc 32 (T.ts (2 * j + y), T.sz, T.txR, upd T.nxR (2 * j + y) nx1, (mHd T.f st (2 * j + y) nx1 fn (q + 4 * w) (M - (q + 4 * w)) (q + 4 * w) T.hl T.hb).1, (mHd T.f st (2 * j + y) nx1 fn (q + 4 * w) (M - (q + 4 * w)) (q + 4 * w) T.hl T.hb).2, ((0, T.tr, T.al, T.ra, T.lvR, T.pl, T.at9) : mS)) := ⟨_, rfl⟩
      obtain ⟨en', ee⟩ : ∃ en' : Nat → Int32, en' = if ¬ fg &&& 1 = 0 ∧ G9.nx (2 * j + y) = fn + nI M - nI (q + 4 * w) then upd T.enR (2 * j + y) 1 else T.enR := ⟨_, rfl⟩
      have hmd := ev_Md_watch_k l D cA st T.n T.rc T.f T.R T.th T.ck T.us T.rh T.rp9 T.rs T.rq T.hr T.bgn T.nxR T.enR T.sz T.txR T.hl T.hb ((0, T.tr, T.al, T.ra, T.lvR, T.pl, T.at9) : mS) I.n1 hr0 q a5 a3 (2 * j + y) (by omega) fg fn efg w (q + 4 * w) M (T.ts (2 * j + y)) a11 rfl a14 (by omega) a7 efn (lw_RO I (by omega)) (I.rel.2.2.2.1 _) f4 (lw_sz I _ (by omega)) rfl nx1 en1 G9 eG en' ee
      rw [ht2] at hmd
      rcases ow with ⟨g1, rfl, k1, k2, k3, k4, k5, k6, k7, k8, bm, bl, bt, fm, fl, ft, rfl⟩ | ⟨g1, y', hy', hway, S, eS, rfl, k1, k2, k3, k4, k5, k6, k7, k8, bm, bl, bt, fm, fl, ft, rfl⟩
      · refine ⟨_, _, _, rfl, rfl, rfl, ?_⟩
        refine mj_blk E.h.1 b_Lw_law_431 rfl trivial ?_
        refine mj_callV E.h zGood (hmd) v_Md_watch l_Lw_law_432 d_Lw_law_432 rfl ⟨by decide, by decide⟩ ⟨by omega, by omega⟩ [] rfl rfl rfl rfl rfl rfl (Nat.le_of_ble_eq_true rfl) ?_
        rintro _ _ (⟨g2, rfl, rfl⟩ | ⟨g2, rfl, rfl⟩)
        · refine mj_k rfl rfl ?_
          refine lw_eq E (Int32.sub_self _) d_Lw_law_435 (tgt := 831) (by decide) ?_
          have I2 : lwI ((T.rc, T.n, T.f, T.ph + 1, T.ch, T.cp, T.sh, T.sp, va_up T.ha j (T.ph + 1), va_up T.lv j false), (T.tx, T.hd, T.ts, T.hs, T.nx, T.rr, T.bg, T.en, T.rows, T.tot, T.a), (k1, k2, k3, k4, k5, k6, k7, k8, bm, bl, bt, fm, fl, ft), (0, T.ck + 1, upd T.us j 0, T.rh, T.rp9, T.rs, T.rq, upd T.hr j (T.ck + 1)), (T.bgn, T.nxR, T.enR, T.sz, T.txR, T.hl, T.hb, T.tr, T.al, T.ra, T.lvR, T.pl, T.at9), (T.R, T.wy, T.pt, T.os, T.N, T.F, T.g)) := ⟨I.n1, I.by1, u_rst I.rel hj, I.rul, I.cs1, I.cs2, I.fr1⟩
          exact lw_end E k I2 (by omega) (by omega)
        · exact absurd g2 g1
      · have hyy : y' = y := (nI_eq (by omega) (by omega)).mp (hway.symm.trans f3)
        subst hyy
        obtain ⟨u1, N2, u2⟩ := u_pkt (S0 := ((0, T.tr, T.al, T.ra, T.lvR, T.pl, T.at9) : mS)) I.rel (j := j) (y := y') hj hy' f2 (t := 2 * j + y') rfl I.by1 I.n1 (da := q + 4 * w) (d := M - (q + 4 * w)) (by omega) fn fg st (R := mRv T.R T.rp9 T.rq T.sz T.txR) I.rul rfl rfl rfl eS en1 eG (en' := en') (by rw [hda]; exact ee)
        refine ⟨_, _, _, rfl, rfl, rfl, ?_⟩
        refine mj_blk E.h.1 b_Lw_law_431 rfl trivial ?_
        refine mj_callV E.h zGood (hmd) v_Md_watch l_Lw_law_432 d_Lw_law_432 rfl ⟨by decide, by decide⟩ ⟨by omega, by omega⟩ [] rfl rfl rfl rfl rfl rfl (Nat.le_of_ble_eq_true rfl) ?_
        rintro _ _ (⟨g2, rfl, rfl⟩ | ⟨g2, rfl, rfl⟩)
        · exact absurd g1 g2
        · refine mj_k rfl rfl ?_
          refine lw_eq E (u1) d_Lw_law_435 (tgt := 831) (by decide) ?_
          have I2 : lwI ((T.rc, T.n, T.f, T.ph + 1, T.ch, T.cp, T.sh, T.sp, va_up T.ha j (T.ph + 1), va_up T.lv j (if (¬ fg &&& 1 = 0 ∧ S.2.2.2.2.1 = fn + nI (M - (q + 4 * w))) ∧ T.en (2 * j + 1 - y') = true then false else T.lv j)), (va_up T.tx (2 * j + y') S.1, va_up T.hd (2 * j + y') S.2.1, va_up T.ts (2 * j + y') S.2.2.1, va_up T.hs (2 * j + y') S.2.2.2.1, va_up T.nx (2 * j + y') S.2.2.2.2.1, va_up T.rr (2 * j + y') S.2.2.2.2.2.1, va_up T.bg (2 * j + y') true, va_up T.en (2 * j + y') (if ¬ fg &&& 1 = 0 ∧ S.2.2.2.2.1 = fn + nI (M - (q + 4 * w)) then true else T.en (2 * j + y')), S.2.2.2.2.2.2.1, S.2.2.2.2.2.2.2.1, S.2.2.2.2.2.2.2.2), (k1, k2, k3, k4, k5, k6, k7, k8, bm, bl, bt, fm, fl, ft), (0, T.ck + 1, upd T.us j (if ¬ en' (2 * j) = 0 ∧ ¬ en' (2 * j + 1) = 0 then 0 else 1), T.rh, T.rp9, T.rs, T.rq, upd T.hr j (T.ck + 1)), (upd T.bgn (2 * j + y') 1, G9.nx, en', G9.sz, G9.tx, G9.hl, G9.hb, G9.S.tr, G9.S.al, G9.S.ra, G9.S.lv, G9.S.pl, G9.S.at'), (T.R, T.wy, T.pt, T.os, N2, T.F, T.g)) := ⟨I.n1, I.by1, u2, I.rul, I.cs1, I.cs2, I.fr1⟩
          exact lw_end E k I2 (by omega) (by omega)
    · rw [f1] at o1
      cases o1
set_option maxRecDepth 100000 in
set_option maxHeartbeats 8000000 in
theorem lw_watch {st : Bool} {X : mj_X} {l : Launch} {D : va_G} {cA : Nat → ClassId} {L n0 : Nat} {xs : Nat → Int32} (E : lwE X l D cA L xs n0) {i : Nat} (hi : i + 8 ≤ L) (k : lwG st X (i + 8)) {T : lwT} (I : lwI T)  : mj_W zG X (100 + i) (4000 + i) 427 (lwL i) [] (lwF st T ++ lwR T) := by
  have hL := E.hL
  by_cases h0 : wFault T.n T.f True = 0
  · exact lw_watch_p E hi k I h0
  · exact lw_watch_f E hi k I h0
