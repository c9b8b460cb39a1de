/-! The law's loop: craft, rule, option (by program: wip/whole/src_law.py) -/
def lwV (a b : Int32) : Int64 := (a.toInt64 <<< ((32 : Int32).toInt64 &&& 63)) ||| (b.toInt64 &&& 4294967295)
theorem lg_cmp0 {x y : Int64} (h : x = y) : lg_cmp x y = 0 := by
  subst h
  unfold lg_cmp
  rw [if_neg (by rw [gt_iff_lt, Int64.lt_iff_toInt_lt]; omega), if_pos rfl]
theorem lw_drop {X : mj_X} {i cells slots pc : Nat} {a b : Nat × Value} {w : mj_M} (k : mj_W zG X cells slots pc (lwL i) [] w) : mj_W zG X cells slots pc (a :: b :: lwL i) [] w := mj_lsub (fun q hq => List.mem_cons_of_mem _ (List.mem_cons_of_mem _ hq)) k
theorem u_pair2 {f : Nat → Int32} {n : Nat} (hb : uByt f) (hn : n < 256) (h2 : f 2 = 0) (h3 : f 3 = nI n) : mPair f 2 = nI n := by
  rw [u_pairN (f := f) (g := fun j => (f j).toNatClampNeg) (fun j => (hb j).1) (fun j => (hb j).2) 2]
  show nI (256 * (f 2).toNatClampNeg + (f 3).toNatClampNeg) = _
  rw [h2, h3, nI_clamp (by omega), show (0 : Int32).toNatClampNeg = 0 from rfl]
  congr 1
  omega
theorem lw_lt8 {c : Int32} (h : ¬ 7 < c) : c < 8 := by
  rw [Int32.lt_iff_toInt_lt] at h ⊢
  have : (8 : Int32).toInt = 8 := by decide
  have : (7 : Int32).toInt = 7 := by decide
  omega
set_option maxRecDepth 100000 in
set_option maxHeartbeats 8000000 in
theorem lw_craft_0 {st : Bool} {X : mj_X} {l : Launch} {D : va_G} {cA : Nat → ClassId} {L n0 : Nat} {xs : Nat → Int32} (E : lwE X l D cA L xs n0) {i : Nat} (hi : i + 8 ≤ L) (k : lwG st X (i + 8)) {T : lwT} (I : lwI T) {p1 p3 p4 p6 p7 : Int32} {m : Nat} (hm : m ≤ 8) (hg : ¬ p1 < 0 ∧ ¬ 7 < p1) (e1 : xs (i + 1) = p1) (e2 : xs (i + 2) = 0) (e3 : xs (i + 3) = p3) (e4 : xs (i + 4) = p4) (e5 : xs (i + 5) = nI m) (e6 : xs (i + 6) = p6) (e7 : xs (i + 7) = p7) : mj_W zG X (100 + i) (4000 + i) 120 (lwL i) [] (lwF st T ++ lwR T) := by
  have hL := E.hL
  have hn1 := I.n1
  obtain ⟨f0, x0⟩ : ∃ f0, f0 = mPut m 40 (kM 0 p1 p3 p4 (nI m) T.f) (lwV p6 p7) := ⟨_, rfl⟩
  have hB0 : uByt f0 := by rw [x0]; exact u_craftB 0 p1 p3 p4 m (lwV p6 p7) T.f I.by1
  obtain ⟨c69, c2z, c3z⟩ := u_craftH 0 p1 p3 p4 m hm (lwV p6 p7) T.f
  rw [← x0] at c69 c2z c3z
  have hL0 : mPair f0 2 = nI (40 + m) := u_pair2 hB0 (by omega) c2z c3z
  have hq0 : wIpN (40 + m) f0 = 20 := by
    unfold wIpN
    rw [show (0 : Int32) = nI 0 from rfl, u_wA (by omega) (by omega), c69]
    rfl
  have hq3 : 4 * (f0 0 - 64) = nI 20 := by rw [c69]; rfl
  obtain ⟨f1, x1⟩ : ∃ f1, f1 = upd (upd f0 10 0) 11 0 := ⟨_, rfl⟩
  obtain ⟨f2, x2⟩ : ∃ f2, f2 = upd (upd f1 10 ((65535 - mHs f1 20) >>> ((8 : Int32) &&& 31))) 11 ((65535 - mHs f1 20) &&& 255) := ⟨_, rfl⟩
  obtain ⟨f3, x3⟩ : ∃ f3, f3 = upd (upd f2 (20 + 16) 0) (20 + 17) 0 := ⟨_, rfl⟩
  obtain ⟨f4, x4⟩ : ∃ f4, f4 = upd (upd f3 (20 + 16) ((65535 - mPs f3 20 (40 + m)) >>> ((8 : Int32) &&& 31))) (20 + 17) ((65535 - mPs f3 20 (40 + m)) &&& 255) := ⟨_, rfl⟩
  obtain ⟨c1, c2, c3, c4, c5, c6, c7, c8, c9⟩ := u_close hB0 (n := 40 + m) (q := 20) (L := 40 + m) (by omega) (by omega) hq0 hq3 (by omega) (by omega) hL0 (by omega) (by omega) x1 x2 x3 x4
  have hkW : kW 0 p1 p3 p4 m (lwV p6 p7) T.f = f0 := by rw [u_craft 0 p1 p3 p4 m hm, x0]
  have hev := ew_craft_0 l D cA st n0 T.g T.rc T.n T.f p1 p3 p4 hg.1 (lw_lt8 hg.2) m hm (lwV p6 p7) (40 + m) (by rw [hkW, c1]; exact c8) (by omega) (by rw [hkW, c1, c9]; omega)
  rw [hkW, c2] at hev
  refine mj_blk E.h.1 b_Lw_law_120 rfl trivial ?_
  refine mj_sl2 E.h.1 E.sp E.hL (k := 1) rfl (by omega) e1 d_Lw_law_126 ?_
  refine mj_blk E.h.1 b_Lw_law_127 rfl trivial ?_
  refine mj_sl2 E.h.1 E.sp E.hL (k := 2) rfl (by omega) e2 d_Lw_law_132 ?_
  refine mj_blk E.h.1 b_Lw_law_133 rfl trivial ?_
  refine mj_sl2 E.h.1 E.sp E.hL (k := 3) rfl (by omega) e3 d_Lw_law_138 ?_
  refine mj_blk E.h.1 b_Lw_law_139 rfl trivial ?_
  refine mj_sl2 E.h.1 E.sp E.hL (k := 4) rfl (by omega) e4 d_Lw_law_144 ?_
  refine mj_blk E.h.1 b_Lw_law_145 rfl trivial ?_
  refine mj_sl2 E.h.1 E.sp E.hL (k := 5) rfl (by omega) e5 d_Lw_law_150 ?_
  refine mj_blk E.h.1 b_Lw_law_151 rfl trivial ?_
  refine mj_sl2 E.h.1 E.sp E.hL (k := 6) rfl (by omega) e6 d_Lw_law_157 ?_
  refine mj_blk E.h.1 b_Lw_law_158 rfl trivial ?_
  refine mj_sl2 E.h.1 E.sp E.hL (k := 7) rfl (by omega) e7 d_Lw_law_168 ?_
  refine mj_blk E.h.1 b_Lw_law_169 rfl trivial ?_
  refine mj_callSW1 E.h zGood E.x E.z (hev) sw_craft l_Lw_law_176 ⟨(fun _ h => nomatch h), (fun _ h => nomatch h)⟩ d_Lw_law_176 rfl ⟨by decide, by decide⟩ ⟨by omega, by omega⟩ [] rfl rfl rfl rfl (Nat.le_of_ble_eq_true rfl) ?_
  rintro _ _ ⟨rfl, rfl⟩
  refine ⟨_, _, rfl, rfl, rfl, rfl, ?_⟩
  refine mj_blk E.h.1 b_Lw_law_179 rfl trivial ?_
  refine mj_sl2 E.h.1 E.sp E.hL (k := 1) rfl (by omega) e1 d_Lw_law_187 ?_
  refine mj_blk E.h.1 b_Lw_law_188 rfl trivial ?_
  refine mj_sl2 E.h.1 E.sp E.hL (k := 2) rfl (by omega) e2 d_Lw_law_193 ?_
  refine mj_blk E.h.1 b_Lw_law_194 rfl trivial ?_
  refine mj_sl2 E.h.1 E.sp E.hL (k := 3) rfl (by omega) e3 d_Lw_law_199 ?_
  refine mj_blk E.h.1 b_Lw_law_200 rfl trivial ?_
  refine mj_sl2 E.h.1 E.sp E.hL (k := 4) rfl (by omega) e4 d_Lw_law_205 ?_
  refine mj_blk E.h.1 b_Lw_law_206 rfl trivial ?_
  refine mj_sl2 E.h.1 E.sp E.hL (k := 5) rfl (by omega) e5 d_Lw_law_211 ?_
  refine mj_blk E.h.1 b_Lw_law_212 rfl trivial ?_
  refine mj_sl2 E.h.1 E.sp E.hL (k := 6) rfl (by omega) e6 d_Lw_law_218 ?_
  refine mj_blk E.h.1 b_Lw_law_219 rfl trivial ?_
  refine mj_sl2 E.h.1 E.sp E.hL (k := 7) rfl (by omega) e7 d_Lw_law_229 ?_
  refine mj_blk E.h.1 b_Lw_law_230 rfl trivial ?_
  refine mj_callV E.h zGood (ev_Md_craft_0 l D cA st T.ck T.rc T.tr T.al T.th T.n T.f p1 p3 p4 hg m hm (lwV p6 p7) f0 x0 f1 f2 f3 f4 20 c4 c5 c6 (by omega) (40 + m) c7 (by omega) (by omega) x1 x2 x3 x4) v_Md_craft l_Lw_law_236 d_Lw_law_236 rfl ⟨by decide, by decide⟩ ⟨by omega, by omega⟩ [] rfl rfl rfl rfl rfl rfl (Nat.le_of_ble_eq_true rfl) ?_
  rintro _ _ ⟨rfl, rfl⟩
  refine mj_k rfl rfl ?_
  refine mj_blk E.h.1 b_Lw_law_239 rfl trivial ?_
  refine mj_callV E.h zGood (ev_Md_thrown l D cA _ st _ _ _ _ _) v_Md_thrown l_Lw_law_242 d_Lw_law_242 rfl ⟨by decide, by decide⟩ ⟨by omega, by omega⟩ [] rfl rfl rfl rfl rfl rfl (Nat.le_of_ble_eq_true rfl) ?_
  rintro _ _ ⟨rfl, rfl⟩
  refine mj_k rfl rfl ?_
  refine mj_blk E.h.1 b_Lw_law_245 rfl trivial ?_
  refine lw_eq E rfl d_Lw_law_247 (tgt := 252) (by decide) ?_
  refine mj_blk E.h.1 b_Lw_law_252 rfl trivial ?_
  refine mj_ifne0 E.h.1 (tgt := 269) d_Lw_law_254 (by decide) ?_
  refine mj_blk E.h.1 b_Lw_law_257 rfl trivial ?_
  refine mj_laldo E.h.1 rfl rfl (show vp_in (nI 0) 1 from vp_in_nI (by decide) (by decide)) d_Lw_law_259 ?_
  refine mj_blk E.h.1 b_Lw_law_260 rfl trivial ?_
  refine mj_ifeq E.h.1 (tgt := 269) d_Lw_law_264 (by decide) (fun _ => ?_) (fun h => absurd (lg_cmp0 pk_uLs) h)
  refine mj_blk E.h.1 b_Lw_law_269 rfl trivial ?_
  refine lw_drop ?_
  have I2 : lwI ((T.rc, 40 + m, f4, T.ph, T.ch, T.cp, T.sh, T.sp, T.ha, T.lv), (T.tx, T.hd, T.ts, T.hs, T.nx, T.rr, T.bg, T.en, T.rows, T.tot, T.a), (T.k1, T.k2, T.k3, T.k4, T.k5, T.k6, T.k7, T.k8, T.bm, T.bl, T.bt, T.fm, T.fl, T.ft), (0, T.ck, T.us, T.rh, T.rp9, T.rs, T.rq, T.hr), (T.bgn, T.nxR, T.enR, T.sz, T.txR, T.hl, T.hb, T.tr, T.al, T.ra, T.lvR, T.pl, T.at9), (T.R, T.wy, T.pt, T.os, T.N, T.F, vp_updL T.g 0 (nI (40 + m)).toInt64)) := ⟨(by show 40 + m ≤ 100; omega), c3, I.rel, I.rul, I.cs1, I.cs2, I.fr1⟩
  exact lw_end E k I2 (by omega) (by omega)
set_option maxRecDepth 100000 in
set_option maxHeartbeats 8000000 in
theorem lw_craft_1 {st : Bool} {X : mj_X} {l : Launch} {D : va_G} {cA : Nat → ClassId} {L n0 : Nat} {xs : Nat → Int32} (E : lwE X l D cA L xs n0) {i : Nat} (hi : i + 8 ≤ L) (k : lwG st X (i + 8)) {T : lwT} (I : lwI T) {p1 p3 p4 p6 p7 : Int32} {m : Nat} (hm : m ≤ 8) (hg : ¬ p1 < 0 ∧ ¬ 7 < p1) (e1 : xs (i + 1) = p1) (e2 : xs (i + 2) = 1) (e3 : xs (i + 3) = p3) (e4 : xs (i + 4) = p4) (e5 : xs (i + 5) = nI m) (e6 : xs (i + 6) = p6) (e7 : xs (i + 7) = p7) : mj_W zG X (100 + i) (4000 + i) 120 (lwL i) [] (lwF st T ++ lwR T) := by
  have hL := E.hL
  have hn1 := I.n1
  obtain ⟨f0, x0⟩ : ∃ f0, f0 = mPut m 40 (kM 1 p1 p3 p4 (nI m) T.f) (lwV p6 p7) := ⟨_, rfl⟩
  have hB0 : uByt f0 := by rw [x0]; exact u_craftB 1 p1 p3 p4 m (lwV p6 p7) T.f I.by1
  obtain ⟨c69, c2z, c3z⟩ := u_craftH 1 p1 p3 p4 m hm (lwV p6 p7) T.f
  rw [← x0] at c69 c2z c3z
  have hL0 : mPair f0 2 = nI (40 + m) := u_pair2 hB0 (by omega) c2z c3z
  have hq0 : wIpN (40 + m) f0 = 20 := by
    unfold wIpN
    rw [show (0 : Int32) = nI 0 from rfl, u_wA (by omega) (by omega), c69]
    rfl
  have hq3 : 4 * (f0 0 - 64) = nI 20 := by rw [c69]; rfl
  obtain ⟨f1, x1⟩ : ∃ f1, f1 = upd (upd f0 10 0) 11 0 := ⟨_, rfl⟩
  obtain ⟨f2, x2⟩ : ∃ f2, f2 = upd (upd f1 10 ((65535 - mHs f1 20) >>> ((8 : Int32) &&& 31))) 11 ((65535 - mHs f1 20) &&& 255) := ⟨_, rfl⟩
  obtain ⟨f3, x3⟩ : ∃ f3, f3 = upd (upd f2 (20 + 16) 0) (20 + 17) 0 := ⟨_, rfl⟩
  obtain ⟨f4, x4⟩ : ∃ f4, f4 = upd (upd f3 (20 + 16) ((65535 - mPs f3 20 (40 + m)) >>> ((8 : Int32) &&& 31))) (20 + 17) ((65535 - mPs f3 20 (40 + m)) &&& 255) := ⟨_, rfl⟩
  obtain ⟨c1, c2, c3, c4, c5, c6, c7, c8, c9⟩ := u_close hB0 (n := 40 + m) (q := 20) (L := 40 + m) (by omega) (by omega) hq0 hq3 (by omega) (by omega) hL0 (by omega) (by omega) x1 x2 x3 x4
  have hkW : kW 1 p1 p3 p4 m (lwV p6 p7) T.f = f0 := by rw [u_craft 1 p1 p3 p4 m hm, x0]
  have hev := ew_craft_1 l D cA st n0 T.g T.rc T.n T.f p1 p3 p4 hg.1 (lw_lt8 hg.2) m hm (lwV p6 p7) (40 + m) (by rw [hkW, c1]; exact c8) (by omega) (by rw [hkW, c1, c9]; omega)
  rw [hkW, c2] at hev
  refine mj_blk E.h.1 b_Lw_law_120 rfl trivial ?_
  refine mj_sl2 E.h.1 E.sp E.hL (k := 1) rfl (by omega) e1 d_Lw_law_126 ?_
  refine mj_blk E.h.1 b_Lw_law_127 rfl trivial ?_
  refine mj_sl2 E.h.1 E.sp E.hL (k := 2) rfl (by omega) e2 d_Lw_law_132 ?_
  refine mj_blk E.h.1 b_Lw_law_133 rfl trivial ?_
  refine mj_sl2 E.h.1 E.sp E.hL (k := 3) rfl (by omega) e3 d_Lw_law_138 ?_
  refine mj_blk E.h.1 b_Lw_law_139 rfl trivial ?_
  refine mj_sl2 E.h.1 E.sp E.hL (k := 4) rfl (by omega) e4 d_Lw_law_144 ?_
  refine mj_blk E.h.1 b_Lw_law_145 rfl trivial ?_
  refine mj_sl2 E.h.1 E.sp E.hL (k := 5) rfl (by omega) e5 d_Lw_law_150 ?_
  refine mj_blk E.h.1 b_Lw_law_151 rfl trivial ?_
  refine mj_sl2 E.h.1 E.sp E.hL (k := 6) rfl (by omega) e6 d_Lw_law_157 ?_
  refine mj_blk E.h.1 b_Lw_law_158 rfl trivial ?_
  refine mj_sl2 E.h.1 E.sp E.hL (k := 7) rfl (by omega) e7 d_Lw_law_168 ?_
  refine mj_blk E.h.1 b_Lw_law_169 rfl trivial ?_
  refine mj_callSW1 E.h zGood E.x E.z (hev) sw_craft l_Lw_law_176 ⟨(fun _ h => nomatch h), (fun _ h => nomatch h)⟩ d_Lw_law_176 rfl ⟨by decide, by decide⟩ ⟨by omega, by omega⟩ [] rfl rfl rfl rfl (Nat.le_of_ble_eq_true rfl) ?_
  rintro _ _ ⟨rfl, rfl⟩
  refine ⟨_, _, rfl, rfl, rfl, rfl, ?_⟩
  refine mj_blk E.h.1 b_Lw_law_179 rfl trivial ?_
  refine mj_sl2 E.h.1 E.sp E.hL (k := 1) rfl (by omega) e1 d_Lw_law_187 ?_
  refine mj_blk E.h.1 b_Lw_law_188 rfl trivial ?_
  refine mj_sl2 E.h.1 E.sp E.hL (k := 2) rfl (by omega) e2 d_Lw_law_193 ?_
  refine mj_blk E.h.1 b_Lw_law_194 rfl trivial ?_
  refine mj_sl2 E.h.1 E.sp E.hL (k := 3) rfl (by omega) e3 d_Lw_law_199 ?_
  refine mj_blk E.h.1 b_Lw_law_200 rfl trivial ?_
  refine mj_sl2 E.h.1 E.sp E.hL (k := 4) rfl (by omega) e4 d_Lw_law_205 ?_
  refine mj_blk E.h.1 b_Lw_law_206 rfl trivial ?_
  refine mj_sl2 E.h.1 E.sp E.hL (k := 5) rfl (by omega) e5 d_Lw_law_211 ?_
  refine mj_blk E.h.1 b_Lw_law_212 rfl trivial ?_
  refine mj_sl2 E.h.1 E.sp E.hL (k := 6) rfl (by omega) e6 d_Lw_law_218 ?_
  refine mj_blk E.h.1 b_Lw_law_219 rfl trivial ?_
  refine mj_sl2 E.h.1 E.sp E.hL (k := 7) rfl (by omega) e7 d_Lw_law_229 ?_
  refine mj_blk E.h.1 b_Lw_law_230 rfl trivial ?_
  refine mj_callV E.h zGood (ev_Md_craft_1 l D cA st T.ck T.rc T.tr T.al T.th T.n T.f p1 p3 p4 hg m hm (lwV p6 p7) f0 x0 f1 f2 f3 f4 20 c4 c5 c6 (by omega) (40 + m) c7 (by omega) (by omega) x1 x2 x3 x4) v_Md_craft l_Lw_law_236 d_Lw_law_236 rfl ⟨by decide, by decide⟩ ⟨by omega, by omega⟩ [] rfl rfl rfl rfl rfl rfl (Nat.le_of_ble_eq_true rfl) ?_
  rintro _ _ ⟨rfl, rfl⟩
  refine mj_k rfl rfl ?_
  refine mj_blk E.h.1 b_Lw_law_239 rfl trivial ?_
  refine mj_callV E.h zGood (ev_Md_thrown l D cA _ st _ _ _ _ _) v_Md_thrown l_Lw_law_242 d_Lw_law_242 rfl ⟨by decide, by decide⟩ ⟨by omega, by omega⟩ [] rfl rfl rfl rfl rfl rfl (Nat.le_of_ble_eq_true rfl) ?_
  rintro _ _ ⟨rfl, rfl⟩
  refine mj_k rfl rfl ?_
  refine mj_blk E.h.1 b_Lw_law_245 rfl trivial ?_
  refine lw_eq E rfl d_Lw_law_247 (tgt := 252) (by decide) ?_
  refine mj_blk E.h.1 b_Lw_law_252 rfl trivial ?_
  refine mj_ifne0 E.h.1 (tgt := 269) d_Lw_law_254 (by decide) ?_
  refine mj_blk E.h.1 b_Lw_law_257 rfl trivial ?_
  refine mj_laldo E.h.1 rfl rfl (show vp_in (nI 0) 1 from vp_in_nI (by decide) (by decide)) d_Lw_law_259 ?_
  refine mj_blk E.h.1 b_Lw_law_260 rfl trivial ?_
  refine mj_ifeq E.h.1 (tgt := 269) d_Lw_law_264 (by decide) (fun _ => ?_) (fun h => absurd (lg_cmp0 pk_uLs) h)
  refine mj_blk E.h.1 b_Lw_law_269 rfl trivial ?_
  refine lw_drop ?_
  have I2 : lwI ((T.rc, 40 + m, f4, T.ph, T.ch, T.cp, T.sh, T.sp, T.ha, T.lv), (T.tx, T.hd, T.ts, T.hs, T.nx, T.rr, T.bg, T.en, T.rows, T.tot, T.a), (T.k1, T.k2, T.k3, T.k4, T.k5, T.k6, T.k7, T.k8, T.bm, T.bl, T.bt, T.fm, T.fl, T.ft), (0, T.ck, T.us, T.rh, T.rp9, T.rs, T.rq, T.hr), (T.bgn, T.nxR, T.enR, T.sz, T.txR, T.hl, T.hb, T.tr, T.al, T.ra, T.lvR, T.pl, T.at9), (T.R, T.wy, T.pt, T.os, T.N, T.F, vp_updL T.g 0 (nI (40 + m)).toInt64)) := ⟨(by show 40 + m ≤ 100; omega), c3, I.rel, I.rul, I.cs1, I.cs2, I.fr1⟩
  exact lw_end E k I2 (by omega) (by omega)
set_option maxRecDepth 100000 in
set_option maxHeartbeats 8000000 in
theorem lw_craft_b {st : Bool} {X : mj_X} {l : Launch} {D : va_G} {cA : Nat → ClassId} {L n0 : Nat} {xs : Nat → Int32} (E : lwE X l D cA L xs n0) {i : Nat} (hi : i + 8 ≤ L) (k : lwG st X (i + 8)) {T : lwT} (I : lwI T) {p1 p2 p3 p4 p5 p6 p7 : Int32} (e1 : xs (i + 1) = p1) (e2 : xs (i + 2) = p2) (e3 : xs (i + 3) = p3) (e4 : xs (i + 4) = p4) (e5 : xs (i + 5) = p5) (e6 : xs (i + 6) = p6) (e7 : xs (i + 7) = p7) (hb : ¬ (¬ p1 < 0 ∧ ¬ 7 < p1 ∧ ¬ p2 < 0 ∧ ¬ 1 < p2 ∧ ¬ p5 < 0 ∧ p5 ≤ 8)) : mj_W zG X (100 + i) (4000 + i) 120 (lwL i) [] (lwF st T ++ lwR T) := by
  have hL := E.hL
  refine mj_blk E.h.1 b_Lw_law_120 rfl trivial ?_
  refine mj_sl2 E.h.1 E.sp E.hL (k := 1) rfl (by omega) e1 d_Lw_law_126 ?_
  refine mj_blk E.h.1 b_Lw_law_127 rfl trivial ?_
  refine mj_sl2 E.h.1 E.sp E.hL (k := 2) rfl (by omega) e2 d_Lw_law_132 ?_
  refine mj_blk E.h.1 b_Lw_law_133 rfl trivial ?_
  refine mj_sl2 E.h.1 E.sp E.hL (k := 3) rfl (by omega) e3 d_Lw_law_138 ?_
  refine mj_blk E.h.1 b_Lw_law_139 rfl trivial ?_
  refine mj_sl2 E.h.1 E.sp E.hL (k := 4) rfl (by omega) e4 d_Lw_law_144 ?_
  refine mj_blk E.h.1 b_Lw_law_145 rfl trivial ?_
  refine mj_sl2 E.h.1 E.sp E.hL (k := 5) rfl (by omega) e5 d_Lw_law_150 ?_
  refine mj_blk E.h.1 b_Lw_law_151 rfl trivial ?_
  refine mj_sl2 E.h.1 E.sp E.hL (k := 6) rfl (by omega) e6 d_Lw_law_157 ?_
  refine mj_blk E.h.1 b_Lw_law_158 rfl trivial ?_
  refine mj_sl2 E.h.1 E.sp E.hL (k := 7) rfl (by omega) e7 d_Lw_law_168 ?_
  refine mj_blk E.h.1 b_Lw_law_169 rfl trivial ?_
  refine mj_callSW1 E.h zGood E.x E.z (ew_craft_b l E.fl D cA st n0 T.g T.rc p1 p2 p3 p4 p5 (lwV p6 p7) hb) sw_craft l_Lw_law_176 ⟨(fun _ h => nomatch h), (fun _ h => nomatch h)⟩ d_Lw_law_176 rfl ⟨by decide, by decide⟩ ⟨by omega, by omega⟩ [] rfl rfl rfl rfl (Nat.le_of_ble_eq_true rfl) ?_
  rintro _ _ ⟨rfl, rfl⟩
  refine ⟨_, _, rfl, rfl, rfl, rfl, ?_⟩
  refine mj_blk E.h.1 b_Lw_law_179 rfl trivial ?_
  refine mj_sl2 E.h.1 E.sp E.hL (k := 1) rfl (by omega) e1 d_Lw_law_187 ?_
  refine mj_blk E.h.1 b_Lw_law_188 rfl trivial ?_
  refine mj_sl2 E.h.1 E.sp E.hL (k := 2) rfl (by omega) e2 d_Lw_law_193 ?_
  refine mj_blk E.h.1 b_Lw_law_194 rfl trivial ?_
  refine mj_sl2 E.h.1 E.sp E.hL (k := 3) rfl (by omega) e3 d_Lw_law_199 ?_
  refine mj_blk E.h.1 b_Lw_law_200 rfl trivial ?_
  refine mj_sl2 E.h.1 E.sp E.hL (k := 4) rfl (by omega) e4 d_Lw_law_205 ?_
  refine mj_blk E.h.1 b_Lw_law_206 rfl trivial ?_
  refine mj_sl2 E.h.1 E.sp E.hL (k := 5) rfl (by omega) e5 d_Lw_law_211 ?_
  refine mj_blk E.h.1 b_Lw_law_212 rfl trivial ?_
  refine mj_sl2 E.h.1 E.sp E.hL (k := 6) rfl (by omega) e6 d_Lw_law_218 ?_
  refine mj_blk E.h.1 b_Lw_law_219 rfl trivial ?_
  refine mj_sl2 E.h.1 E.sp E.hL (k := 7) rfl (by omega) e7 d_Lw_law_229 ?_
  refine mj_blk E.h.1 b_Lw_law_230 rfl trivial ?_
  refine mj_callV E.h zGood (ev_Md_craft_x l D cA st T.ck T.rc T.tr T.al T.th T.n T.f p1 p2 p3 p4 p5 hb (lwV p6 p7)) v_Md_craft l_Lw_law_236 d_Lw_law_236 rfl ⟨by decide, by decide⟩ ⟨by omega, by omega⟩ [] rfl rfl rfl rfl rfl rfl (Nat.le_of_ble_eq_true rfl) ?_
  rintro _ _ ⟨rfl, rfl⟩
  refine mj_k rfl rfl ?_
  refine mj_blk E.h.1 b_Lw_law_239 rfl trivial ?_
  refine mj_callV E.h zGood (ev_Md_thrown l D cA _ st _ _ _ _ _) v_Md_thrown l_Lw_law_242 d_Lw_law_242 rfl ⟨by decide, by decide⟩ ⟨by omega, by omega⟩ [] rfl rfl rfl rfl rfl rfl (Nat.le_of_ble_eq_true rfl) ?_
  rintro _ _ ⟨rfl, rfl⟩
  refine mj_k rfl rfl ?_
  refine mj_blk E.h.1 b_Lw_law_245 rfl trivial ?_
  refine lw_eq E rfl d_Lw_law_247 (tgt := 252) (by decide) ?_
  refine mj_blk E.h.1 b_Lw_law_252 rfl trivial ?_
  refine mj_ifne E.h.1 (tgt := 269) d_Lw_law_254 (by decide) (fun _ => ?_) (fun h => absurd h (by decide))
  refine mj_blk E.h.1 b_Lw_law_269 rfl trivial ?_
  refine lw_drop ?_
  have I2 : lwI ((T.rc, T.n, T.f, T.ph, T.ch, T.cp, T.sh, T.sp, T.ha, T.lv), (T.tx, T.hd, T.ts, T.hs, T.nx, T.rr, T.bg, T.en, T.rows, T.tot, T.a), (T.k1, T.k2, T.k3, T.k4, T.k5, T.k6, T.k7, T.k8, T.bm, T.bl, T.bt, T.fm, T.fl, T.ft), (1, T.ck, T.us, T.rh, T.rp9, T.rs, T.rq, T.hr), (T.bgn, T.nxR, T.enR, T.sz, T.txR, T.hl, T.hb, T.tr, T.al, T.ra, T.lvR, T.pl, T.at9), (T.R, T.wy, T.pt, T.os, T.N, T.F, T.g)) := ⟨I.n1, I.by1, I.rel, I.rul, I.cs1, I.cs2, I.fr1⟩
  exact lw_end E k I2 (by omega) (by omega)
theorem lw_y01 {y : Int32} (h0 : ¬ y < 0) (h1 : ¬ 1 < y) : y = 0 ∨ y = 1 := by
  by_cases a : y = 0
  · exact Or.inl a
  · by_cases b : y = 1
    · exact Or.inr b
    · exact absurd (lw_y2 a b) (fun h => h.elim h0 h1)
set_option maxRecDepth 100000 in
set_option maxHeartbeats 8000000 in
theorem lw_craft {st : Bool} {X : mj_X} {l : Launch} {D : va_G} {cA : Nat → ClassId} {L n0 : Nat} {xs : Nat → Int32} (E : lwE X l D cA L xs n0) {i : Nat} (hi : i + 8 ≤ L) (k : lwG st X (i + 8)) {T : lwT} (I : lwI T) {p1 p2 p3 p4 p5 p6 p7 : Int32} (e1 : xs (i + 1) = p1) (e2 : xs (i + 2) = p2) (e3 : xs (i + 3) = p3) (e4 : xs (i + 4) = p4) (e5 : xs (i + 5) = p5) (e6 : xs (i + 6) = p6) (e7 : xs (i + 7) = p7) : mj_W zG X (100 + i) (4000 + i) 120 (lwL i) [] (lwF st T ++ lwR T) := by
  have hL := E.hL
  by_cases hb : ¬ p1 < 0 ∧ ¬ 7 < p1 ∧ ¬ p2 < 0 ∧ ¬ 1 < p2 ∧ ¬ p5 < 0 ∧ p5 ≤ 8
  · obtain ⟨m, hm, rfl⟩ := nI_of2 (M := 8) (n := 8) (by decide) hb.2.2.2.2.1 hb.2.2.2.2.2
    rcases lw_y01 hb.2.2.1 hb.2.2.2.1 with rfl | rfl
    · exact lw_craft_0 E hi k I hm ⟨hb.1, hb.2.1⟩ e1 e2 e3 e4 e5 e6 e7
    · exact lw_craft_1 E hi k I hm ⟨hb.1, hb.2.1⟩ e1 e2 e3 e4 e5 e6 e7
  · exact lw_craft_b E hi k I e1 e2 e3 e4 e5 e6 e7 hb
