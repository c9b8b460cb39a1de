/-! The law's loop: alter, wipe, put, seal, wire, alerts, alert (by program: wip/whole/src_law.py) -/
set_option maxRecDepth 100000 in
set_option maxHeartbeats 8000000 in
theorem lw_wire {st : Bool} {X : mj_X} {l : Launch} {D : va_G} {cA : Nat → ClassId} {L n0 : Nat} {xs : Nat → Int32} (E : lwE X l D cA L xs n0) {i : Nat} (hi : i + 8 ≤ L) (k : lwG st X (i + 8)) {T : lwT} (I : lwI T) {p1 : Int32} (e1 : xs (i + 1) = p1) : mj_W zG X (100 + i) (4000 + i) 402 (lwL i) [] (lwF st T ++ lwR T) := by
  have hL := E.hL
  refine mj_blk E.h.1 b_Lw_law_402 rfl trivial ?_
  refine mj_sl2 E.h.1 E.sp E.hL (k := 1) rfl (by omega) e1 d_Lw_law_408 ?_
  refine mj_callV E.h zGood (ev_Sw_wire l D cA st T.rc T.n I.n1 T.f p1) v_Sw_wire l_Lw_law_409 d_Lw_law_409 rfl ⟨by decide, by decide⟩ ⟨by omega, by omega⟩ [] rfl rfl rfl rfl rfl rfl (Nat.le_of_ble_eq_true rfl) ?_
  rintro _ _ ⟨rfl, rfl⟩
  refine mj_k rfl rfl ?_
  refine mj_blk E.h.1 b_Lw_law_412 rfl trivial ?_
  refine mj_sl2 E.h.1 E.sp E.hL (k := 1) rfl (by omega) e1 d_Lw_law_418 ?_
  refine mj_callV E.h zGood (ev_Md_wire l D cA T.th st T.ck T.rc T.tr T.al T.n I.n1 T.f p1) v_Md_wire l_Lw_law_419 d_Lw_law_419 rfl ⟨by decide, by decide⟩ ⟨by omega, by omega⟩ [] rfl rfl rfl rfl rfl rfl (Nat.le_of_ble_eq_true rfl) ?_
  rintro _ _ ⟨rfl, rfl⟩
  refine mj_k rfl rfl ?_
  refine lw_eq E (rfl) d_Lw_law_422 (tgt := 831) (by decide) ?_
  have I2 : lwI ((T.rc, T.n, T.f, T.ph, T.ch, T.cp, T.sh, T.sp, T.ha, T.lv), (T.tx, T.hd, T.ts, T.hs, T.nx, T.rr, T.bg, T.en, T.rows, T.tot, T.a), (T.k1, T.k2, T.k3, T.k4, T.k5, T.k6, T.k7, T.k8, T.bm, T.bl, T.bt, T.fm, T.fl, T.ft), (0, T.ck, T.us, T.rh, T.rp9, T.rs, T.rq, T.hr), (T.bgn, T.nxR, T.enR, T.sz, T.txR, T.hl, T.hb, T.tr, T.al, T.ra, T.lvR, T.pl, T.at9), (T.R, T.wy, T.pt, T.os, T.N, T.F, T.g)) := ⟨I.n1, I.by1, I.rel, I.rul, I.cs1, I.cs2, I.fr1⟩
  exact lw_end E k I2 (by omega) (by omega)
set_option maxRecDepth 100000 in
set_option maxHeartbeats 8000000 in
theorem lw_alter {st : Bool} {X : mj_X} {l : Launch} {D : va_G} {cA : Nat → ClassId} {L n0 : Nat} {xs : Nat → Int32} (E : lwE X l D cA L xs n0) {i : Nat} (hi : i + 8 ≤ L) (k : lwG st X (i + 8)) {T : lwT} (I : lwI T) {p1 p2 : Int32} (e1 : xs (i + 1) = p1) (e2 : xs (i + 2) = p2) : mj_W zG X (100 + i) (4000 + i) 272 (lwL i) [] (lwF st T ++ lwR T) := by
  have hL := E.hL
  refine mj_blk E.h.1 b_Lw_law_272 rfl trivial ?_
  refine mj_sl2 E.h.1 E.sp E.hL (k := 1) rfl (by omega) e1 d_Lw_law_278 ?_
  refine mj_blk E.h.1 b_Lw_law_279 rfl trivial ?_
  refine mj_sl2 E.h.1 E.sp E.hL (k := 2) rfl (by omega) e2 d_Lw_law_284 ?_
  refine mj_callV E.h zGood (ev_Sw_alter l D cA st T.rc T.n I.n1 T.f p1 p2) v_Sw_alter l_Lw_law_285 d_Lw_law_285 rfl ⟨by decide, by decide⟩ ⟨by omega, by omega⟩ [] rfl rfl rfl rfl rfl rfl (Nat.le_of_ble_eq_true rfl) ?_
  rintro _ _ ⟨rfl, rfl⟩
  refine mj_k rfl rfl ?_
  refine mj_blk E.h.1 b_Lw_law_288 rfl trivial ?_
  refine mj_sl2 E.h.1 E.sp E.hL (k := 1) rfl (by omega) e1 d_Lw_law_294 ?_
  refine mj_blk E.h.1 b_Lw_law_295 rfl trivial ?_
  refine mj_sl2 E.h.1 E.sp E.hL (k := 2) rfl (by omega) e2 d_Lw_law_300 ?_
  refine mj_callV E.h zGood (ev_Md_alter l D cA T.th st T.ck T.rc T.tr T.al T.n I.n1 T.f p1 p2) v_Md_alter l_Lw_law_301 d_Lw_law_301 rfl ⟨by decide, by decide⟩ ⟨by omega, by omega⟩ [] rfl rfl rfl rfl rfl rfl (Nat.le_of_ble_eq_true rfl) ?_
  rintro _ _ ⟨rfl, rfl⟩
  refine mj_k rfl rfl ?_
  refine lw_eq E (rfl) d_Lw_law_304 (tgt := 831) (by decide) ?_
  have I2 : lwI ((T.rc, T.n, (if 0 ≤ p1 ∧ p1 < nI T.n then upd T.f p1.toNatClampNeg (T.f p1.toNatClampNeg ^^^ (p2 &&& 255)) else T.f), T.ph, T.ch, T.cp, T.sh, T.sp, T.ha, T.lv), (T.tx, T.hd, T.ts, T.hs, T.nx, T.rr, T.bg, T.en, T.rows, T.tot, T.a), (T.k1, T.k2, T.k3, T.k4, T.k5, T.k6, T.k7, T.k8, T.bm, T.bl, T.bt, T.fm, T.fl, T.ft), (0, T.ck, T.us, T.rh, T.rp9, T.rs, T.rq, T.hr), (T.bgn, T.nxR, T.enR, T.sz, T.txR, T.hl, T.hb, T.tr, T.al, T.ra, T.lvR, T.pl, T.at9), (T.R, T.wy, T.pt, T.os, T.N, T.F, T.g)) := ⟨I.n1, (by show uByt (if 0 ≤ p1 ∧ p1 < nI T.n then upd T.f p1.toNatClampNeg (T.f p1.toNatClampNeg ^^^ (p2 &&& 255)) else T.f); split; exact u_altB I.by1 _ _; exact I.by1), I.rel, I.rul, I.cs1, I.cs2, I.fr1⟩
  exact lw_end E k I2 (by omega) (by omega)
set_option maxRecDepth 100000 in
set_option maxHeartbeats 8000000 in
theorem lw_wipe {st : Bool} {X : mj_X} {l : Launch} {D : va_G} {cA : Nat → ClassId} {L n0 : Nat} {xs : Nat → Int32} (E : lwE X l D cA L xs n0) {i : Nat} (hi : i + 8 ≤ L) (k : lwG st X (i + 8)) {T : lwT} (I : lwI T)  : mj_W zG X (100 + i) (4000 + i) 309 (lwL i) [] (lwF st T ++ lwR T) := by
  have hL := E.hL
  refine mj_blk E.h.1 b_Lw_law_309 rfl trivial ?_
  refine mj_callV E.h zGood (ev_Sw_wipe l D cA st T.rc T.n I.n1 T.f) v_Sw_wipe l_Lw_law_310 d_Lw_law_310 rfl ⟨by decide, by decide⟩ ⟨by omega, by omega⟩ [] rfl rfl rfl rfl rfl rfl (Nat.le_of_ble_eq_true rfl) ?_
  rintro _ _ ⟨rfl, rfl⟩
  refine mj_k rfl rfl ?_
  refine mj_blk E.h.1 b_Lw_law_313 rfl trivial ?_
  refine mj_callV E.h zGood (ev_Md_wipe l D cA T.th st T.ck T.rc T.tr T.al T.n T.f) v_Md_wipe l_Lw_law_314 d_Lw_law_314 rfl ⟨by decide, by decide⟩ ⟨by omega, by omega⟩ [] rfl rfl rfl rfl rfl rfl (Nat.le_of_ble_eq_true rfl) ?_
  rintro _ _ ⟨rfl, rfl⟩
  refine mj_k rfl rfl ?_
  refine mj_blk E.h.1 b_Lw_law_317 rfl trivial ?_
  have I2 : lwI ((T.rc, 0, T.f, T.ph, T.ch, T.cp, T.sh, T.sp, T.ha, T.lv), (T.tx, T.hd, T.ts, T.hs, T.nx, T.rr, T.bg, T.en, T.rows, T.tot, T.a), (T.k1, T.k2, T.k3, T.k4, T.k5, T.k6, T.k7, T.k8, T.bm, T.bl, T.bt, T.fm, T.fl, T.ft), (0, T.ck, T.us, T.rh, T.rp9, T.rs, T.rq, T.hr), (T.bgn, T.nxR, T.enR, T.sz, T.txR, T.hl, T.hb, T.tr, T.al, T.ra, T.lvR, T.pl, T.at9), (T.R, T.wy, T.pt, T.os, T.N, T.F, T.g)) := ⟨Nat.zero_le _, I.by1, I.rel, I.rul, I.cs1, I.cs2, I.fr1⟩
  exact lw_end E k I2 (by omega) (by omega)
set_option maxRecDepth 100000 in
set_option maxHeartbeats 8000000 in
theorem lw_put0 {st : Bool} {X : mj_X} {l : Launch} {D : va_G} {cA : Nat → ClassId} {L n0 : Nat} {xs : Nat → Int32} (E : lwE X l D cA L xs n0) {i : Nat} (hi : i + 8 ≤ L) (k : lwG st X (i + 8)) {T : lwT} (I : lwI T) {p1 : Int32} (e1 : xs (i + 1) = p1) {p2 p3 : Int32} (e2 : xs (i + 2) = p2) (e3 : xs (i + 3) = p3) (hk : p1 < 1 ∨ 8 < p1) : mj_W zG X (100 + i) (4000 + i) 320 (lwL i) [] (lwF st T ++ lwR T) := by
  have hL := E.hL
  refine mj_blk E.h.1 b_Lw_law_320 rfl trivial ?_
  refine mj_sl2 E.h.1 E.sp E.hL (k := 1) rfl (by omega) e1 d_Lw_law_326 ?_
  refine mj_blk E.h.1 b_Lw_law_327 rfl trivial ?_
  refine mj_sl2 E.h.1 E.sp E.hL (k := 2) rfl (by omega) e2 d_Lw_law_332 ?_
  refine mj_blk E.h.1 b_Lw_law_333 rfl trivial ?_
  refine mj_sl2 E.h.1 E.sp E.hL (k := 3) rfl (by omega) e3 d_Lw_law_342 ?_
  refine mj_blk E.h.1 b_Lw_law_343 rfl trivial ?_
  refine mj_callV E.h zGood (ev_Sw_put0 l D cA st T.rc T.n I.n1 T.f p1 _ hk) v_Sw_put l_Lw_law_349 d_Lw_law_349 rfl ⟨by decide, by decide⟩ ⟨by omega, by omega⟩ [] rfl rfl rfl rfl rfl rfl (Nat.le_of_ble_eq_true rfl) ?_
  rintro _ _ ⟨rfl, rfl⟩
  refine mj_k rfl rfl ?_
  refine mj_blk E.h.1 b_Lw_law_352 rfl trivial ?_
  refine mj_sl2 E.h.1 E.sp E.hL (k := 1) rfl (by omega) e1 d_Lw_law_358 ?_
  refine mj_blk E.h.1 b_Lw_law_359 rfl trivial ?_
  refine mj_sl2 E.h.1 E.sp E.hL (k := 2) rfl (by omega) e2 d_Lw_law_364 ?_
  refine mj_blk E.h.1 b_Lw_law_365 rfl trivial ?_
  refine mj_sl2 E.h.1 E.sp E.hL (k := 3) rfl (by omega) e3 d_Lw_law_374 ?_
  refine mj_blk E.h.1 b_Lw_law_375 rfl trivial ?_
  refine mj_callV E.h zGood (ev_Md_put0 l D cA T.th st T.ck T.rc T.tr T.al T.n T.f p1 _ hk) v_Md_put l_Lw_law_381 d_Lw_law_381 rfl ⟨by decide, by decide⟩ ⟨by omega, by omega⟩ [] rfl rfl rfl rfl rfl rfl (Nat.le_of_ble_eq_true rfl) ?_
  rintro _ _ ⟨rfl, rfl⟩
  refine mj_k rfl rfl ?_
  refine lw_eq E rfl d_Lw_law_384 (tgt := 831) (by decide) ?_
  have I2 : lwI ((T.rc, T.n, T.f, T.ph, T.ch, T.cp, T.sh, T.sp, T.ha, T.lv), (T.tx, T.hd, T.ts, T.hs, T.nx, T.rr, T.bg, T.en, T.rows, T.tot, T.a), (T.k1, T.k2, T.k3, T.k4, T.k5, T.k6, T.k7, T.k8, T.bm, T.bl, T.bt, T.fm, T.fl, T.ft), (0, T.ck, T.us, T.rh, T.rp9, T.rs, T.rq, T.hr), (T.bgn, T.nxR, T.enR, T.sz, T.txR, T.hl, T.hb, T.tr, T.al, T.ra, T.lvR, T.pl, T.at9), (T.R, T.wy, T.pt, T.os, T.N, T.F, T.g)) := ⟨I.n1, I.by1, I.rel, I.rul, I.cs1, I.cs2, I.fr1⟩
  exact lw_end E k I2 (by omega) (by omega)
set_option maxRecDepth 100000 in
set_option maxHeartbeats 8000000 in
theorem lw_put2 {st : Bool} {X : mj_X} {l : Launch} {D : va_G} {cA : Nat → ClassId} {L n0 : Nat} {xs : Nat → Int32} (E : lwE X l D cA L xs n0) {i : Nat} (hi : i + 8 ≤ L) (k : lwG st X (i + 8)) {T : lwT} (I : lwI T) {j : Nat} (e1 : xs (i + 1) = nI j) {p2 p3 : Int32} (e2 : xs (i + 2) = p2) (e3 : xs (i + 3) = p3) (hj1 : 1 ≤ j) (hj : j ≤ 8) (hc : ¬ T.n + j ≤ 100) : mj_W zG X (100 + i) (4000 + i) 320 (lwL i) [] (lwF st T ++ lwR T) := by
  have hL := E.hL
  refine mj_blk E.h.1 b_Lw_law_320 rfl trivial ?_
  refine mj_sl2 E.h.1 E.sp E.hL (k := 1) rfl (by omega) e1 d_Lw_law_326 ?_
  refine mj_blk E.h.1 b_Lw_law_327 rfl trivial ?_
  refine mj_sl2 E.h.1 E.sp E.hL (k := 2) rfl (by omega) e2 d_Lw_law_332 ?_
  refine mj_blk E.h.1 b_Lw_law_333 rfl trivial ?_
  refine mj_sl2 E.h.1 E.sp E.hL (k := 3) rfl (by omega) e3 d_Lw_law_342 ?_
  refine mj_blk E.h.1 b_Lw_law_343 rfl trivial ?_
  refine mj_callV E.h zGood (ev_Sw_put2 l D cA st T.rc T.n I.n1 T.f j hj1 hj hc _) v_Sw_put l_Lw_law_349 d_Lw_law_349 rfl ⟨by decide, by decide⟩ ⟨by omega, by omega⟩ [] rfl rfl rfl rfl rfl rfl (Nat.le_of_ble_eq_true rfl) ?_
  rintro _ _ ⟨rfl, rfl⟩
  refine mj_k rfl rfl ?_
  refine mj_blk E.h.1 b_Lw_law_352 rfl trivial ?_
  refine mj_sl2 E.h.1 E.sp E.hL (k := 1) rfl (by omega) e1 d_Lw_law_358 ?_
  refine mj_blk E.h.1 b_Lw_law_359 rfl trivial ?_
  refine mj_sl2 E.h.1 E.sp E.hL (k := 2) rfl (by omega) e2 d_Lw_law_364 ?_
  refine mj_blk E.h.1 b_Lw_law_365 rfl trivial ?_
  refine mj_sl2 E.h.1 E.sp E.hL (k := 3) rfl (by omega) e3 d_Lw_law_374 ?_
  refine mj_blk E.h.1 b_Lw_law_375 rfl trivial ?_
  refine mj_callV E.h zGood (ev_Md_put2 l D cA T.th st T.ck T.rc T.tr T.al T.n I.n1 T.f j hj1 hj hc _) v_Md_put l_Lw_law_381 d_Lw_law_381 rfl ⟨by decide, by decide⟩ ⟨by omega, by omega⟩ [] rfl rfl rfl rfl rfl rfl (Nat.le_of_ble_eq_true rfl) ?_
  rintro _ _ ⟨rfl, rfl⟩
  refine mj_k rfl rfl ?_
  refine lw_eq E rfl d_Lw_law_384 (tgt := 831) (by decide) ?_
  have I2 : lwI ((T.rc, T.n, T.f, T.ph, T.ch, T.cp, T.sh, T.sp, T.ha, T.lv), (T.tx, T.hd, T.ts, T.hs, T.nx, T.rr, T.bg, T.en, T.rows, T.tot, T.a), (T.k1, T.k2, T.k3, T.k4, T.k5, T.k6, T.k7, T.k8, T.bm, T.bl, T.bt, T.fm, T.fl, T.ft), (0, T.ck, T.us, T.rh, T.rp9, T.rs, T.rq, T.hr), (T.bgn, T.nxR, T.enR, T.sz, T.txR, T.hl, T.hb, T.tr, T.al, T.ra, T.lvR, T.pl, T.at9), (T.R, T.wy, T.pt, T.os, T.N, T.F, T.g)) := ⟨I.n1, I.by1, I.rel, I.rul, I.cs1, I.cs2, I.fr1⟩
  exact lw_end E k I2 (by omega) (by omega)
set_option maxRecDepth 100000 in
set_option maxHeartbeats 8000000 in
theorem lw_put1 {st : Bool} {X : mj_X} {l : Launch} {D : va_G} {cA : Nat → ClassId} {L n0 : Nat} {xs : Nat → Int32} (E : lwE X l D cA L xs n0) {i : Nat} (hi : i + 8 ≤ L) (k : lwG st X (i + 8)) {T : lwT} (I : lwI T) {j : Nat} (e1 : xs (i + 1) = nI j) {p2 p3 : Int32} (e2 : xs (i + 2) = p2) (e3 : xs (i + 3) = p3) (hj1 : 1 ≤ j) (hj : j ≤ 8) (hc : T.n + j ≤ 100) : mj_W zG X (100 + i) (4000 + i) 320 (lwL i) [] (lwF st T ++ lwR T) := by
  have hL := E.hL
  refine mj_blk E.h.1 b_Lw_law_320 rfl trivial ?_
  refine mj_sl2 E.h.1 E.sp E.hL (k := 1) rfl (by omega) e1 d_Lw_law_326 ?_
  refine mj_blk E.h.1 b_Lw_law_327 rfl trivial ?_
  refine mj_sl2 E.h.1 E.sp E.hL (k := 2) rfl (by omega) e2 d_Lw_law_332 ?_
  refine mj_blk E.h.1 b_Lw_law_333 rfl trivial ?_
  refine mj_sl2 E.h.1 E.sp E.hL (k := 3) rfl (by omega) e3 d_Lw_law_342 ?_
  refine mj_blk E.h.1 b_Lw_law_343 rfl trivial ?_
  refine mj_callV E.h zGood (ev_Sw_put1 l D cA st T.rc T.n I.n1 T.f j hj1 hj hc _) v_Sw_put l_Lw_law_349 d_Lw_law_349 rfl ⟨by decide, by decide⟩ ⟨by omega, by omega⟩ [] rfl rfl rfl rfl rfl rfl (Nat.le_of_ble_eq_true rfl) ?_
  rintro _ _ ⟨rfl, rfl⟩
  refine mj_k rfl rfl ?_
  rw [u_app j T.n T.f hj]
  refine mj_blk E.h.1 b_Lw_law_352 rfl trivial ?_
  refine mj_sl2 E.h.1 E.sp E.hL (k := 1) rfl (by omega) e1 d_Lw_law_358 ?_
  refine mj_blk E.h.1 b_Lw_law_359 rfl trivial ?_
  refine mj_sl2 E.h.1 E.sp E.hL (k := 2) rfl (by omega) e2 d_Lw_law_364 ?_
  refine mj_blk E.h.1 b_Lw_law_365 rfl trivial ?_
  refine mj_sl2 E.h.1 E.sp E.hL (k := 3) rfl (by omega) e3 d_Lw_law_374 ?_
  refine mj_blk E.h.1 b_Lw_law_375 rfl trivial ?_
  refine mj_callV E.h zGood (ev_Md_put1 l D cA T.th st T.ck T.rc T.tr T.al T.n I.n1 T.f j hj1 hj hc _) v_Md_put l_Lw_law_381 d_Lw_law_381 rfl ⟨by decide, by decide⟩ ⟨by omega, by omega⟩ [] rfl rfl rfl rfl rfl rfl (Nat.le_of_ble_eq_true rfl) ?_
  rintro _ _ ⟨rfl, rfl⟩
  refine mj_k rfl rfl ?_
  refine lw_eq E rfl d_Lw_law_384 (tgt := 831) (by decide) ?_
  exact lw_end E k (T := ((T.rc, T.n + j, mPut j T.n T.f _, T.ph, T.ch, T.cp, T.sh, T.sp, T.ha, T.lv), (T.tx, T.hd, T.ts, T.hs, T.nx, T.rr, T.bg, T.en, T.rows, T.tot, T.a), (T.k1, T.k2, T.k3, T.k4, T.k5, T.k6, T.k7, T.k8, T.bm, T.bl, T.bt, T.fm, T.fl, T.ft), (0, T.ck, T.us, T.rh, T.rp9, T.rs, T.rq, T.hr), (T.bgn, T.nxR, T.enR, T.sz, T.txR, T.hl, T.hb, T.tr, T.al, T.ra, T.lvR, T.pl, T.at9), (T.R, T.wy, T.pt, T.os, T.N, T.F, T.g))) ⟨hc, u_putB j T.n T.f I.by1, I.rel, I.rul, I.cs1, I.cs2, I.fr1⟩ (by omega) (by omega)
set_option maxRecDepth 100000 in
set_option maxHeartbeats 8000000 in
theorem lw_put {st : Bool} {X : mj_X} {l : Launch} {D : va_G} {cA : Nat → ClassId} {L n0 : Nat} {xs : Nat → Int32} (E : lwE X l D cA L xs n0) {i : Nat} (hi : i + 8 ≤ L) (k : lwG st X (i + 8)) {T : lwT} (I : lwI T) {p1 p2 p3 : Int32} (e1 : xs (i + 1) = p1) (e2 : xs (i + 2) = p2) (e3 : xs (i + 3) = p3) : mj_W zG X (100 + i) (4000 + i) 320 (lwL i) [] (lwF st T ++ lwR T) := by
  have hL := E.hL
  by_cases h1 : p1 < 1
  · exact lw_put0 E hi k I e1 e2 e3 (Or.inl h1)
  · by_cases h2 : 8 < p1
    · exact lw_put0 E hi k I e1 e2 e3 (Or.inr h2)
    · obtain ⟨j, hj1, hj, rfl⟩ := qNum h1 h2
      by_cases h3 : T.n + j ≤ 100
      · exact lw_put1 E hi k I e1 e2 e3 hj1 hj h3
      · exact lw_put2 E hi k I e1 e2 e3 hj1 hj h3
set_option maxRecDepth 100000 in
set_option maxHeartbeats 8000000 in
theorem lw_seal {st : Bool} {X : mj_X} {l : Launch} {D : va_G} {cA : Nat → ClassId} {L n0 : Nat} {xs : Nat → Int32} (E : lwE X l D cA L xs n0) {i : Nat} (hi : i + 8 ≤ L) (k : lwG st X (i + 8)) {T : lwT} (I : lwI T)  : mj_W zG X (100 + i) (4000 + i) 389 (lwL i) [] (lwF st T ++ lwR T) := by
  have hL := E.hL
  obtain ⟨hF, hF2, hF3⟩ := u_fault (f := T.f) (g := fun j => (T.f j).toNatClampNeg) (fun j => (I.by1 j).1) (fun j => (I.by1 j).2) I.n1 False
  by_cases h0 : wFault T.n T.f False = 0
  · obtain ⟨h20, q, M, w, a1, a2, a3, a4, a5, a6, a7, a8, a9, a10⟩ := hF2 h0
    obtain ⟨f1, x1⟩ : ∃ f1, f1 = upd (upd T.f 10 0) 11 0 := ⟨_, rfl⟩
    obtain ⟨f2, x2⟩ : ∃ f2, f2 = upd (upd f1 10 ((65535 - mHs f1 q) >>> ((8 : Int32) &&& 31))) 11 ((65535 - mHs f1 q) &&& 255) := ⟨_, rfl⟩
    obtain ⟨f3, x3⟩ : ∃ f3, f3 = upd (upd f2 (q + 16) 0) (q + 17) 0 := ⟨_, rfl⟩
    obtain ⟨f4, x4⟩ : ∃ f4, f4 = upd (upd f3 (q + 16) ((65535 - mPs f3 q M) >>> ((8 : Int32) &&& 31))) (q + 17) ((65535 - mPs f3 q M) &&& 255) := ⟨_, rfl⟩
    obtain ⟨c1, c2, c3, c4, c5, c6, c7, c8, c9⟩ := u_close I.by1 I.n1 h20 a1 a3 a4 a5 a7 a8 a9 x1 x2 x3 x4
    have hn1 := I.n1
    refine mj_blk E.h.1 b_Lw_law_389 rfl trivial ?_
    refine mj_callV E.h zGood (ev_Sw_seal1 l D cA st T.rc T.n I.n1 T.f h0 M (by rw [c1]; exact c8) (by omega) (by rw [c1, c9]; omega)) v_Sw_seal l_Lw_law_390 d_Lw_law_390 rfl ⟨by decide, by decide⟩ ⟨by omega, by omega⟩ [] rfl rfl rfl rfl rfl rfl (Nat.le_of_ble_eq_true rfl) ?_
    rintro _ _ ⟨rfl, rfl⟩
    refine mj_k rfl rfl ?_
    rw [c2]
    refine mj_blk E.h.1 b_Lw_law_393 rfl trivial ?_
    refine mj_callV E.h zGood (ev_Md_seal1 l D cA T.th st T.ck T.rc T.tr T.al T.n T.f I.n1 (by rw [← hF]; exact h0) f1 f2 f3 f4 q c4 c5 c6 (by omega) M c7 (by omega) (by omega) x1 x2 x3 x4) v_Md_seal l_Lw_law_394 d_Lw_law_394 rfl ⟨by decide, by decide⟩ ⟨by omega, by omega⟩ [] rfl rfl rfl rfl rfl rfl (Nat.le_of_ble_eq_true rfl) ?_
    rintro _ _ ⟨rfl, rfl⟩
    refine mj_k rfl rfl ?_
    refine lw_eq E rfl d_Lw_law_397 (tgt := 831) (by decide) ?_
    have I2 : lwI ((T.rc, T.n, f4, T.ph, T.ch, T.cp, T.sh, T.sp, T.ha, T.lv), (T.tx, T.hd, T.ts, T.hs, T.nx, T.rr, T.bg, T.en, T.rows, T.tot, T.a), (T.k1, T.k2, T.k3, T.k4, T.k5, T.k6, T.k7, T.k8, T.bm, T.bl, T.bt, T.fm, T.fl, T.ft), (0, T.ck, T.us, T.rh, T.rp9, T.rs, T.rq, T.hr), (T.bgn, T.nxR, T.enR, T.sz, T.txR, T.hl, T.hb, T.tr, T.al, T.ra, T.lvR, T.pl, T.at9), (T.R, T.wy, T.pt, T.os, T.N, T.F, T.g)) := ⟨I.n1, c3, I.rel, I.rul, I.cs1, I.cs2, I.fr1⟩
    exact lw_end E k I2 (by omega) (by omega)
  · have h1 : 0 < mRea T.n T.f False := by
      rcases hF3 with h | h
      · exact absurd (hF.trans h) h0
      · exact h
    refine mj_blk E.h.1 b_Lw_law_389 rfl trivial ?_
    refine mj_callV E.h zGood (ev_Sw_seal0 l D cA st T.rc T.n I.n1 T.f h0) v_Sw_seal l_Lw_law_390 d_Lw_law_390 rfl ⟨by decide, by decide⟩ ⟨by omega, by omega⟩ [] rfl rfl rfl rfl rfl rfl (Nat.le_of_ble_eq_true rfl) ?_
    rintro _ _ ⟨rfl, rfl⟩
    refine mj_k rfl rfl ?_
    refine mj_blk E.h.1 b_Lw_law_393 rfl trivial ?_
    refine mj_callV E.h zGood (ev_Md_seal0 l D cA T.th st T.ck T.rc T.tr T.al T.n I.n1 T.f h1) v_Md_seal l_Lw_law_394 d_Lw_law_394 rfl ⟨by decide, by decide⟩ ⟨by omega, by omega⟩ [] rfl rfl rfl rfl rfl rfl (Nat.le_of_ble_eq_true rfl) ?_
    rintro _ _ ⟨rfl, rfl⟩
    refine mj_k rfl rfl ?_
    refine lw_eq E rfl d_Lw_law_397 (tgt := 831) (by decide) ?_
    have I2 : lwI ((T.rc, T.n, T.f, T.ph, T.ch, T.cp, T.sh, T.sp, T.ha, T.lv), (T.tx, T.hd, T.ts, T.hs, T.nx, T.rr, T.bg, T.en, T.rows, T.tot, T.a), (T.k1, T.k2, T.k3, T.k4, T.k5, T.k6, T.k7, T.k8, T.bm, T.bl, T.bt, T.fm, T.fl, T.ft), (0, T.ck, T.us, T.rh, T.rp9, T.rs, T.rq, T.hr), (T.bgn, T.nxR, T.enR, T.sz, T.txR, T.hl, T.hb, T.tr, T.al, T.ra, T.lvR, T.pl, T.at9), (T.R, T.wy, T.pt, T.os, T.N, T.F, T.g)) := ⟨I.n1, I.by1, I.rel, I.rul, I.cs1, I.cs2, I.fr1⟩
    exact lw_end E k I2 (by omega) (by omega)
set_option maxRecDepth 100000 in
set_option maxHeartbeats 8000000 in
theorem lw_alerts {st : Bool} {X : mj_X} {l : Launch} {D : va_G} {cA : Nat → ClassId} {L n0 : Nat} {xs : Nat → Int32} (E : lwE X l D cA L xs n0) {i : Nat} (hi : i + 8 ≤ L) (k : lwG st X (i + 8)) {T : lwT} (I : lwI T)  : mj_W zG X (100 + i) (4000 + i) 781 (lwL i) [] (lwF st T ++ lwR T) := by
  have hL := E.hL
  refine mj_blk E.h.1 b_Lw_law_781 rfl trivial ?_
  refine mj_callV E.h zGood (ev_Sw_alerts l D cA st T.rc T.rows T.tot (nI T.a - 1)) v_Sw_alerts l_Lw_law_782 d_Lw_law_782 rfl ⟨by decide, by decide⟩ ⟨by omega, by omega⟩ [] rfl rfl rfl rfl rfl rfl (Nat.le_of_ble_eq_true rfl) ?_
  rintro _ _ ⟨rfl, rfl⟩
  refine mj_k rfl rfl ?_
  refine mj_blk E.h.1 b_Lw_law_785 rfl trivial ?_
  refine mj_callV E.h zGood (ev_Md_alerts l D cA T.th st T.n T.ck T.rc T.tr T.al) v_Md_alerts l_Lw_law_786 d_Lw_law_786 rfl ⟨by decide, by decide⟩ ⟨by omega, by omega⟩ [] rfl rfl rfl rfl rfl rfl (Nat.le_of_ble_eq_true rfl) ?_
  rintro _ _ ⟨rfl, rfl⟩
  refine mj_k rfl rfl ?_
  refine lw_eq E (I.rel.2.2.2.2.2.1.trans I.rel.2.2.2.2.2.2.symm) d_Lw_law_789 (tgt := 831) (by decide) ?_
  have I2 : lwI ((T.rc, T.n, T.f, T.ph, T.ch, T.cp, T.sh, T.sp, T.ha, T.lv), (T.tx, T.hd, T.ts, T.hs, T.nx, T.rr, T.bg, T.en, T.rows, T.tot, T.a), (T.k1, T.k2, T.k3, T.k4, T.k5, T.k6, T.k7, T.k8, T.bm, T.bl, T.bt, T.fm, T.fl, T.ft), (0, T.ck, T.us, T.rh, T.rp9, T.rs, T.rq, T.hr), (T.bgn, T.nxR, T.enR, T.sz, T.txR, T.hl, T.hb, T.tr, T.al, T.ra, T.lvR, T.pl, T.at9), (T.R, T.wy, T.pt, T.os, T.N, T.F, T.g)) := ⟨I.n1, I.by1, I.rel, I.rul, I.cs1, I.cs2, I.fr1⟩
  exact lw_end E k I2 (by omega) (by omega)
theorem lw_hb {T : lwT} (I : lwI T) : (∃ b : Nat, b < 24 ∧ nI T.a - 1 = nI b) ∨ T.tot = 0 := by
  obtain ⟨h1, h2, -⟩ := I.rel.2.2.2.2.1
  rcases h1 with h1 | h1
  · refine Or.inr ?_
    rw [I.rel.2.2.2.2.2.1, h1]
    rfl
  · exact Or.inl ⟨T.a - 1, by omega, pk_sub1 (by omega)⟩
set_option maxRecDepth 100000 in
set_option maxHeartbeats 8000000 in
theorem lw_alert {st : Bool} {X : mj_X} {l : Launch} {D : va_G} {cA : Nat → ClassId} {L n0 : Nat} {xs : Nat → Int32} (E : lwE X l D cA L xs n0) {i : Nat} (hi : i + 8 ≤ L) (k : lwG st X (i + 8)) {T : lwT} (I : lwI T) {p1 p2 : Int32} (e1 : xs (i + 1) = p1) (e2 : xs (i + 2) = p2) : mj_W zG X (100 + i) (4000 + i) 794 (lwL i) [] (lwF st T ++ lwR T) := by
  have hL := E.hL
  refine mj_blk E.h.1 b_Lw_law_794 rfl trivial ?_
  refine mj_sl2 E.h.1 E.sp E.hL (k := 1) rfl (by omega) e1 d_Lw_law_800 ?_
  refine mj_blk E.h.1 b_Lw_law_801 rfl trivial ?_
  refine mj_sl2 E.h.1 E.sp E.hL (k := 2) rfl (by omega) e2 d_Lw_law_806 ?_
  refine mj_callV E.h zGood (ev_Sw_alert l D cA st T.rc T.rows T.tot (nI T.a - 1) (lw_hb I) p1 p2) v_Sw_alert l_Lw_law_807 d_Lw_law_807 rfl ⟨by decide, by decide⟩ ⟨by omega, by omega⟩ [] rfl rfl rfl rfl rfl rfl (Nat.le_of_ble_eq_true rfl) ?_
  rintro _ _ ⟨rfl, rfl⟩
  refine mj_k rfl rfl ?_
  refine mj_blk E.h.1 b_Lw_law_810 rfl trivial ?_
  refine mj_sl2 E.h.1 E.sp E.hL (k := 1) rfl (by omega) e1 d_Lw_law_816 ?_
  refine mj_blk E.h.1 b_Lw_law_817 rfl trivial ?_
  refine mj_sl2 E.h.1 E.sp E.hL (k := 2) rfl (by omega) e2 d_Lw_law_822 ?_
  refine mj_callV E.h zGood (ev_Md_alert l D cA T.th st T.n T.ck T.rc T.tr T.al T.at9 p1 p2) v_Md_alert l_Lw_law_823 d_Lw_law_823 rfl ⟨by decide, by decide⟩ ⟨by omega, by omega⟩ [] rfl rfl rfl rfl rfl rfl (Nat.le_of_ble_eq_true rfl) ?_
  rintro _ _ ⟨rfl, rfl⟩
  refine mj_k rfl rfl ?_
  refine lw_eq E (by rw [I.rel.2.2.2.2.2.1, I.rel.2.2.2.2.2.2]; exact u_read I.rel.2.2.2.2.1 p1 p2) d_Lw_law_826 (tgt := 831) (by decide) ?_
  have I2 : lwI ((T.rc, T.n, T.f, T.ph, T.ch, T.cp, T.sh, T.sp, T.ha, T.lv), (T.tx, T.hd, T.ts, T.hs, T.nx, T.rr, T.bg, T.en, T.rows, T.tot, T.a), (T.k1, T.k2, T.k3, T.k4, T.k5, T.k6, T.k7, T.k8, T.bm, T.bl, T.bt, T.fm, T.fl, T.ft), (0, T.ck, T.us, T.rh, T.rp9, T.rs, T.rq, T.hr), (T.bgn, T.nxR, T.enR, T.sz, T.txR, T.hl, T.hb, T.tr, T.al, T.ra, T.lvR, T.pl, T.at9), (T.R, T.wy, T.pt, T.os, T.N, T.F, T.g)) := ⟨I.n1, I.by1, I.rel, I.rul, I.cs1, I.cs2, I.fr1⟩
  exact lw_end E k I2 (by omega) (by omega)
