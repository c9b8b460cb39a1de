/-! The law's loop: rule, option (by program: wip/whole/src_law.py) -/
set_option maxRecDepth 100000 in
set_option maxHeartbeats 8000000 in
theorem lw_rule_g {st : Bool} {X : mj_X} {l : Launch} {D : va_G} {cA : Nat → ClassId} {L n0 : Nat} {xs : Nat → Int32} (E : lwE X l D cA L xs n0) {i : Nat} (hi : i + 8 ≤ L) (k : lwG st X (i + 8)) {T : lwT} (I : lwI T) {p1 p2 : Int32} (e1 : xs (i + 1) = p1) (e2 : xs (i + 2) = p2) (hg : ¬ p1 < 0 ∧ ¬ 2 < p1 ∧ ¬ p2 < 0 ∧ p2 ≤ 65535) (h6 : T.rc < 6) : mj_W zG X (100 + i) (4000 + i) 440 (lwL i) [] (lwF st T ++ lwR T) := by
  have hL := E.hL
  refine mj_blk E.h.1 b_Lw_law_440 rfl trivial ?_
  refine mj_sl2 E.h.1 E.sp E.hL (k := 1) rfl (by omega) e1 d_Lw_law_446 ?_
  refine mj_blk E.h.1 b_Lw_law_447 rfl trivial ?_
  refine mj_sl2 E.h.1 E.sp E.hL (k := 2) rfl (by omega) e2 d_Lw_law_452 ?_
  refine mj_blk E.h.1 b_Lw_law_453 rfl trivial ?_
  have hks : ∀ p, 100 + 10 * T.rc ≤ p → mj_nw p T.F := fun p hp => rF_fresh I.fr1 (fun r hr h => by have := I.fr1.1 r hr; omega)
  have hfr : ∀ p, 100 + 10 * T.rc ≤ p → p < 102 + 10 * T.rc → mj_nw p (lwF st T ++ lwR T) ∧ mj_nl p (lwL i) ∧ mj_ns2 p [] := fun p hp hp2 => ⟨lw_nw rfl ⟨by omega, by omega⟩ (fun r hr => by omega) (hks p hp), rg_nl rfl ⟨by omega, by omega⟩, fun _ h => nomatch h⟩
  refine mj_callSW0 E.h zGood E.x E.z (ew_rule l D cA st n0 T.g T.rc h6 p1 p2 hg) sw_rule l_Lw_law_454 ⟨(fun _ h => nomatch h), List.forall_mem_cons.mpr ⟨List.mem_cons_of_mem _ (List.mem_cons_of_mem _ List.mem_cons_self), (fun _ h => nomatch h)⟩⟩ d_Lw_law_454 rfl ⟨by decide, by decide⟩ ⟨by omega, by omega⟩ [] [(100 + 10 * T.rc, 100 + 10 * T.rc), (101 + 10 * T.rc, 101 + 10 * T.rc)] (rest := []) ?_ (by rw [mj_wr0]; rfl) rfl (Nat.le_of_ble_eq_true rfl) ?_ ?_ ?_ ?_ ?_ ?_
  · intro q hq
    rw [mj_wr0] at hq
    simp only [List.mem_cons, List.not_mem_nil, or_false] at hq
    rcases hq with rfl | rfl | rfl
    · exact List.mem_append_left _ List.mem_cons_self
    · exact List.mem_append_right _ List.mem_cons_self
    · exact List.mem_append_left _ (List.mem_of_getElem? (i := 70) rfl)
  · intro q hq x hx
    simp only [List.mem_cons, List.not_mem_nil, or_false] at hx
    rcases hx with rfl | rfl
    · exact kR_no hq ⟨by omega, by omega⟩ (fun j hj => by omega)
    · exact kR_no hq ⟨by omega, by omega⟩ (fun j hj => by omega)
  · intro x hx
    simp only [List.mem_cons, List.not_mem_nil, or_false] at hx
    rcases hx with rfl | rfl <;> rfl
  · refine List.pairwise_cons.mpr ⟨fun x hx => ?_, List.pairwise_singleton _ _⟩
    rcases List.mem_singleton.mp hx with rfl
    show 100 + 10 * T.rc ≠ 101 + 10 * T.rc
    omega
  · intro x hx
    simp only [List.mem_cons, List.not_mem_nil, or_false] at hx
    rcases hx with rfl | rfl
    · exact hfr _ (by omega) (by omega)
    · exact hfr _ (by omega) (by omega)
  · intro x hx hk
    have hk := List.mem_singleton.mp hk
    simp only [List.mem_cons, List.not_mem_nil, or_false] at hx
    rcases hx with rfl | rfl
    · have hk : 100 + 10 * T.rc = 301 := hk
      omega
    · have hk : 101 + 10 * T.rc = 301 := hk
      omega
  rintro _ _ ⟨rfl, rfl⟩ hpw
  have hF2 := rF_rule I.fr1 p1 p2
  obtain ⟨j1, j2⟩ := lw_join (A := lwF st T) (A2 := lwC st (T.rc + 1) ((T.rc, T.n, T.f, T.ph, T.ch, T.cp, T.sh, T.sp, T.ha, T.lv), (T.tx, T.hd, T.ts, T.hs, T.nx, T.rr, T.bg, T.en, T.rows, T.tot, T.a), (T.k1, T.k2, T.k3, T.k4, T.k5, T.k6, T.k7, T.k8, T.bm, T.bl, T.bt, T.fm, T.fl, T.ft), (T.th, T.ck, T.us, T.rh, T.rp9, T.rs, T.rq, T.hr), (T.bgn, T.nxR, T.enR, T.sz, T.txR, T.hl, T.hb, T.tr, T.al, T.ra, T.lvR, T.pl, T.at9), (T.R, T.wy, T.pt, T.os, T.N, T.F, vp_updL T.g 0 (nI T.rc).toInt64))) (w1 := [(50, cSw st (T.rc + 1)), (300, cLg (vp_updL T.g 0 (nI T.rc).toInt64))]) (d5 := cRs (rlOf (T.rc + 1))) (F2 := T.F ++ [(100 + 10 * T.rc, cRu (101 + 10 * T.rc) p1 p2 0), (101 + 10 * T.rc, cOs [none, none, none])]) (Nw := [(100 + 10 * T.rc, cRu (101 + 10 * T.rc) p1 p2 0), (101 + 10 * T.rc, cOs [none, none, none])]) rfl rfl rfl hpw hF2.2.2 (fun q hq => rF_key hF2 (by omega) hq) (fun q hq => rF_key I.fr1 I.rul.1 hq) (fun q hq => rF_key hF2 (by omega) (List.mem_append_right _ hq)) (fun q hq => (List.mem_append.mp hq).elim (fun h => Or.inr ⟨h, fun z hz => by
      simp only [List.mem_cons, List.not_mem_nil, or_false] at hz
      rcases hz with rfl | rfl
      · exact fun e => (hks _ (by omega) q h).1 e.symm
      · exact fun e => (hks _ (by omega) q h).1 e.symm⟩) (fun h => Or.inl h))
  refine ⟨_, _, ⟨rfl, j1, fun q hq => ?_⟩, fun z hz => ?_, sw9_rule st _ p1 p2 T.rc h6, rfl, ?_⟩
  · rw [mj_wr0]
    rcases j2 q hq with h | ⟨h, h2⟩
    · refine Or.inl ?_
      rcases h with h | rfl | h
      · simp only [List.mem_cons, List.not_mem_nil, or_false] at h
        rcases h with rfl | rfl
        · exact List.mem_append_left _ List.mem_cons_self
        · exact List.mem_append_left _ (List.mem_cons_of_mem _ (List.mem_cons_of_mem _ List.mem_cons_self))
      · exact List.mem_append_left _ (List.mem_cons_of_mem _ List.mem_cons_self)
      · exact List.mem_append_right _ h
    · refine Or.inr ⟨h, fun z hz => h2 z ?_⟩
      rcases List.mem_append.mp hz with hz | hz
      · simp only [List.mem_cons, List.not_mem_nil, or_false] at hz
        rcases hz with rfl | rfl | rfl
        · exact Or.inl List.mem_cons_self
        · exact Or.inr (Or.inl rfl)
        · exact Or.inl (List.mem_cons_of_mem _ List.mem_cons_self)
      · exact Or.inr (Or.inr hz)
  · simp only [List.mem_cons, List.not_mem_nil, or_false] at hz
    rcases hz with rfl | rfl | rfl
    · exact ⟨_, List.mem_append_left _ List.mem_cons_self, rfl⟩
    · exact ⟨_, List.mem_append_left _ (List.mem_cons_of_mem _ List.mem_cons_self), rfl⟩
    · exact ⟨_, List.mem_append_left _ (List.mem_cons_of_mem _ (List.mem_cons_of_mem _ List.mem_cons_self)), rfl⟩
  show mj_W zG X (100 + i + 2) (4000 + i + 7) 457 (lwL i) [.int 0] _
  refine mj_blk E.h.1 b_Lw_law_457 rfl trivial ?_
  refine mj_sl2 E.h.1 E.sp E.hL (k := 1) rfl (by omega) e1 d_Lw_law_465 ?_
  refine mj_blk E.h.1 b_Lw_law_466 rfl trivial ?_
  refine mj_sl2 E.h.1 E.sp E.hL (k := 2) rfl (by omega) e2 d_Lw_law_471 ?_
  refine mj_callV E.h zGood (ev_Md_rule0 l D cA T.th st T.n T.ck T.rc T.tr T.al T.R.rw9 T.R.rp T.R.op p1 p2 hg h6) v_Md_rule l_Lw_law_472 d_Lw_law_472 rfl ⟨by decide, by decide⟩ ⟨by omega, by omega⟩ [] rfl rfl rfl rfl rfl rfl (Nat.le_of_ble_eq_true rfl) ?_
  rintro _ _ ⟨rfl, rfl⟩
  refine mj_k rfl rfl ?_
  refine mj_blk E.h.1 b_Lw_law_475 rfl trivial ?_
  refine mj_callV E.h zGood (ev_Md_thrown l D cA _ st _ _ _ _ _) v_Md_thrown l_Lw_law_478 d_Lw_law_478 rfl ⟨by decide, by decide⟩ ⟨by omega, by omega⟩ [] rfl rfl rfl rfl rfl rfl (Nat.le_of_ble_eq_true rfl) ?_
  rintro _ _ ⟨rfl, rfl⟩
  refine mj_k rfl rfl ?_
  refine mj_blk E.h.1 b_Lw_law_481 rfl trivial ?_
  refine lw_eq E rfl d_Lw_law_483 (tgt := 488) (by decide) ?_
  refine mj_blk E.h.1 b_Lw_law_488 rfl trivial ?_
  refine mj_ifne0 E.h.1 (tgt := 505) d_Lw_law_490 (by decide) ?_
  refine mj_blk E.h.1 b_Lw_law_493 rfl trivial ?_
  refine mj_laldo E.h.1 rfl rfl (show vp_in (nI 0) 1 from vp_in_nI (by decide) (by decide)) d_Lw_law_495 ?_
  refine mj_blk E.h.1 b_Lw_law_496 rfl trivial ?_
  refine mj_ifeq E.h.1 (tgt := 505) d_Lw_law_500 (by decide) (fun _ => ?_) (fun h => absurd (lg_cmp0 pk_uLs) h)
  refine mj_blk E.h.1 b_Lw_law_505 rfl trivial ?_
  refine lw_drop ?_
  have I2 : lwI ((T.rc + 1, T.n, T.f, T.ph, T.ch, T.cp, T.sh, T.sp, T.ha, T.lv), (T.tx, T.hd, T.ts, T.hs, T.nx, T.rr, T.bg, T.en, T.rows, T.tot, T.a), (T.k1, T.k2, T.k3, T.k4, T.k5, T.k6, T.k7, T.k8, T.bm, T.bl, T.bt, T.fm, T.fl, T.ft), (0, T.ck, T.us, T.rh, T.rp9, T.rs, T.rq, T.hr), (T.bgn, T.nxR, T.enR, T.sz, T.txR, T.hl, T.hb, T.tr, T.al, T.ra, T.lvR, T.pl, T.at9), ((T.R.cp, T.R.sp, T.R.sz, T.R.tx, upd T.R.rw9 T.rc p1, upd T.R.rp T.rc p2, upd T.R.op T.rc 0, T.R.cs, T.R.ct, T.R.mk', T.R.lst, T.R.spn, T.R.cN, va_up T.R.oN T.rc 0), va_up T.wy T.rc p1, va_up T.pt T.rc p2, va_up T.os T.rc [], T.N, T.F ++ [(100 + 10 * T.rc, cRu (101 + 10 * T.rc) p1 p2 0), (101 + 10 * T.rc, cOs [none, none, none])], vp_updL T.g 0 (nI T.rc).toInt64)) := ⟨I.n1, I.by1, I.rel, u_rule I.rul h6 p1 p2, I.cs1, I.cs2, hF2⟩
  exact lw_end E k I2 (by omega) (by omega)
set_option maxRecDepth 100000 in
set_option maxHeartbeats 8000000 in
theorem lw_rule_b {st : Bool} {X : mj_X} {l : Launch} {D : va_G} {cA : Nat → ClassId} {L n0 : Nat} {xs : Nat → Int32} (E : lwE X l D cA L xs n0) {i : Nat} (hi : i + 8 ≤ L) (k : lwG st X (i + 8)) {T : lwT} (I : lwI T) {p1 p2 : Int32} (e1 : xs (i + 1) = p1) (e2 : xs (i + 2) = p2) (hb : ¬ (¬ p1 < 0 ∧ ¬ 2 < p1 ∧ ¬ p2 < 0 ∧ p2 ≤ 65535)) : mj_W zG X (100 + i) (4000 + i) 440 (lwL i) [] (lwF st T ++ lwR T) := by
  have hL := E.hL
  refine mj_blk E.h.1 b_Lw_law_440 rfl trivial ?_
  refine mj_sl2 E.h.1 E.sp E.hL (k := 1) rfl (by omega) e1 d_Lw_law_446 ?_
  refine mj_blk E.h.1 b_Lw_law_447 rfl trivial ?_
  refine mj_sl2 E.h.1 E.sp E.hL (k := 2) rfl (by omega) e2 d_Lw_law_452 ?_
  refine mj_blk E.h.1 b_Lw_law_453 rfl trivial ?_
  refine mj_callSW1 E.h zGood E.x E.z (ew_rule_b l E.fl D cA st n0 T.g T.rc p1 p2 hb) sw_rule l_Lw_law_454 ⟨(fun _ h => nomatch h), (fun _ h => nomatch h)⟩ d_Lw_law_454 rfl ⟨by decide, by decide⟩ ⟨by omega, by omega⟩ [] rfl rfl rfl rfl (Nat.le_of_ble_eq_true rfl) ?_
  rintro _ _ ⟨rfl, rfl⟩
  refine ⟨_, _, rfl, rfl, rfl, rfl, ?_⟩
  refine mj_blk E.h.1 b_Lw_law_457 rfl trivial ?_
  refine mj_sl2 E.h.1 E.sp E.hL (k := 1) rfl (by omega) e1 d_Lw_law_465 ?_
  refine mj_blk E.h.1 b_Lw_law_466 rfl trivial ?_
  refine mj_sl2 E.h.1 E.sp E.hL (k := 2) rfl (by omega) e2 d_Lw_law_471 ?_
  refine mj_callV E.h zGood (ev_Md_rule1 l D cA T.th st T.n T.ck T.rc T.tr T.al T.R.rw9 T.R.rp T.R.op p1 p2 hb) v_Md_rule l_Lw_law_472 d_Lw_law_472 rfl ⟨by decide, by decide⟩ ⟨by omega, by omega⟩ [] rfl rfl rfl rfl rfl rfl (Nat.le_of_ble_eq_true rfl) ?_
  rintro _ _ ⟨rfl, rfl⟩
  refine mj_k rfl rfl ?_
  refine mj_blk E.h.1 b_Lw_law_475 rfl trivial ?_
  refine mj_callV E.h zGood (ev_Md_thrown l D cA _ st _ _ _ _ _) v_Md_thrown l_Lw_law_478 d_Lw_law_478 rfl ⟨by decide, by decide⟩ ⟨by omega, by omega⟩ [] rfl rfl rfl rfl rfl rfl (Nat.le_of_ble_eq_true rfl) ?_
  rintro _ _ ⟨rfl, rfl⟩
  refine mj_k rfl rfl ?_
  refine mj_blk E.h.1 b_Lw_law_481 rfl trivial ?_
  refine lw_eq E rfl d_Lw_law_483 (tgt := 488) (by decide) ?_
  refine mj_blk E.h.1 b_Lw_law_488 rfl trivial ?_
  refine mj_ifne E.h.1 (tgt := 505) d_Lw_law_490 (by decide) (fun _ => ?_) (fun h => absurd h (by decide))
  refine mj_blk E.h.1 b_Lw_law_505 rfl trivial ?_
  refine lw_drop ?_
  have I2 : lwI ((T.rc, T.n, T.f, T.ph, T.ch, T.cp, T.sh, T.sp, T.ha, T.lv), (T.tx, T.hd, T.ts, T.hs, T.nx, T.rr, T.bg, T.en, T.rows, T.tot, T.a), (T.k1, T.k2, T.k3, T.k4, T.k5, T.k6, T.k7, T.k8, T.bm, T.bl, T.bt, T.fm, T.fl, T.ft), (1, T.ck, T.us, T.rh, T.rp9, T.rs, T.rq, T.hr), (T.bgn, T.nxR, T.enR, T.sz, T.txR, T.hl, T.hb, T.tr, T.al, T.ra, T.lvR, T.pl, T.at9), (T.R, T.wy, T.pt, T.os, T.N, T.F, T.g)) := ⟨I.n1, I.by1, I.rel, I.rul, I.cs1, I.cs2, I.fr1⟩
  exact lw_end E k I2 (by omega) (by omega)
set_option maxRecDepth 100000 in
set_option maxHeartbeats 8000000 in
theorem lw_rule_6 {st : Bool} {X : mj_X} {l : Launch} {D : va_G} {cA : Nat → ClassId} {L n0 : Nat} {xs : Nat → Int32} (E : lwE X l D cA L xs n0) {i : Nat} (hi : i + 8 ≤ L) (k : lwG st X (i + 8)) {T : lwT} (I : lwI T) {p1 p2 : Int32} (e1 : xs (i + 1) = p1) (e2 : xs (i + 2) = p2) (hg : ¬ p1 < 0 ∧ ¬ 2 < p1 ∧ ¬ p2 < 0 ∧ p2 ≤ 65535) (h6 : T.rc = 6) : mj_W zG X (100 + i) (4000 + i) 440 (lwL i) [] (lwF st T ++ lwR T) := by
  have hL := E.hL
  have hev := ew_rule_6 l E.fl D cA st n0 T.g p1 p2 hg
  rw [← h6] at hev
  refine mj_blk E.h.1 b_Lw_law_440 rfl trivial ?_
  refine mj_sl2 E.h.1 E.sp E.hL (k := 1) rfl (by omega) e1 d_Lw_law_446 ?_
  refine mj_blk E.h.1 b_Lw_law_447 rfl trivial ?_
  refine mj_sl2 E.h.1 E.sp E.hL (k := 2) rfl (by omega) e2 d_Lw_law_452 ?_
  refine mj_blk E.h.1 b_Lw_law_453 rfl trivial ?_
  refine mj_callSW1 E.h zGood E.x E.z (hev) sw_rule l_Lw_law_454 ⟨(fun _ h => nomatch h), (fun _ h => nomatch h)⟩ d_Lw_law_454 rfl ⟨by decide, by decide⟩ ⟨by omega, by omega⟩ [] rfl rfl rfl rfl (Nat.le_of_ble_eq_true rfl) ?_
  rintro _ _ ⟨rfl, rfl⟩
  refine ⟨_, _, rfl, rfl, rfl, rfl, ?_⟩
  refine mj_blk E.h.1 b_Lw_law_457 rfl trivial ?_
  refine mj_sl2 E.h.1 E.sp E.hL (k := 1) rfl (by omega) e1 d_Lw_law_465 ?_
  refine mj_blk E.h.1 b_Lw_law_466 rfl trivial ?_
  refine mj_sl2 E.h.1 E.sp E.hL (k := 2) rfl (by omega) e2 d_Lw_law_471 ?_
  refine mj_callV E.h zGood (ev_Md_rule2 l D cA T.th st T.n T.ck T.rc T.tr T.al T.R.rw9 T.R.rp T.R.op p1 p2 hg h6) v_Md_rule l_Lw_law_472 d_Lw_law_472 rfl ⟨by decide, by decide⟩ ⟨by omega, by omega⟩ [] rfl rfl rfl rfl rfl rfl (Nat.le_of_ble_eq_true rfl) ?_
  rintro _ _ ⟨rfl, rfl⟩
  refine mj_k rfl rfl ?_
  refine mj_blk E.h.1 b_Lw_law_475 rfl trivial ?_
  refine mj_callV E.h zGood (ev_Md_thrown l D cA _ st _ _ _ _ _) v_Md_thrown l_Lw_law_478 d_Lw_law_478 rfl ⟨by decide, by decide⟩ ⟨by omega, by omega⟩ [] rfl rfl rfl rfl rfl rfl (Nat.le_of_ble_eq_true rfl) ?_
  rintro _ _ ⟨rfl, rfl⟩
  refine mj_k rfl rfl ?_
  refine mj_blk E.h.1 b_Lw_law_481 rfl trivial ?_
  refine lw_eq E rfl d_Lw_law_483 (tgt := 488) (by decide) ?_
  refine mj_blk E.h.1 b_Lw_law_488 rfl trivial ?_
  refine mj_ifne E.h.1 (tgt := 505) d_Lw_law_490 (by decide) (fun _ => ?_) (fun h => absurd h (by decide))
  refine mj_blk E.h.1 b_Lw_law_505 rfl trivial ?_
  refine lw_drop ?_
  have I2 : lwI ((T.rc, T.n, T.f, T.ph, T.ch, T.cp, T.sh, T.sp, T.ha, T.lv), (T.tx, T.hd, T.ts, T.hs, T.nx, T.rr, T.bg, T.en, T.rows, T.tot, T.a), (T.k1, T.k2, T.k3, T.k4, T.k5, T.k6, T.k7, T.k8, T.bm, T.bl, T.bt, T.fm, T.fl, T.ft), (2, T.ck, T.us, T.rh, T.rp9, T.rs, T.rq, T.hr), (T.bgn, T.nxR, T.enR, T.sz, T.txR, T.hl, T.hb, T.tr, T.al, T.ra, T.lvR, T.pl, T.at9), (T.R, T.wy, T.pt, T.os, T.N, T.F, T.g)) := ⟨I.n1, I.by1, I.rel, I.rul, I.cs1, I.cs2, I.fr1⟩
  exact lw_end E k I2 (by omega) (by omega)
set_option maxRecDepth 100000 in
set_option maxHeartbeats 8000000 in
theorem lw_rule {st : Bool} {X : mj_X} {l : Launch} {D : va_G} {cA : Nat → ClassId} {L n0 : Nat} {xs : Nat → Int32} (E : lwE X l D cA L xs n0) {i : Nat} (hi : i + 8 ≤ L) (k : lwG st X (i + 8)) {T : lwT} (I : lwI T) {p1 p2 : Int32} (e1 : xs (i + 1) = p1) (e2 : xs (i + 2) = p2) : mj_W zG X (100 + i) (4000 + i) 440 (lwL i) [] (lwF st T ++ lwR T) := by
  have hL := E.hL
  by_cases hg : ¬ p1 < 0 ∧ ¬ 2 < p1 ∧ ¬ p2 < 0 ∧ p2 ≤ 65535
  · by_cases h6 : T.rc < 6
    · exact lw_rule_g E hi k I e1 e2 hg h6
    · exact lw_rule_6 E hi k I e1 e2 hg (by have := I.rul.1; omega)
  · exact lw_rule_b E hi k I e1 e2 hg
set_option maxRecDepth 100000 in
set_option maxHeartbeats 8000000 in
theorem lw_option_b {st : Bool} {X : mj_X} {l : Launch} {D : va_G} {cA : Nat → ClassId} {L n0 : Nat} {xs : Nat → Int32} (E : lwE X l D cA L xs n0) {i : Nat} (hi : i + 8 ≤ L) (k : lwG st X (i + 8)) {T : lwT} (I : lwI T) {p1 : Int32} (e1 : xs (i + 1) = p1) {p2 p3 p4 p5 p6 : Int32} (e2 : xs (i + 2) = p2) (e3 : xs (i + 3) = p3) (e4 : xs (i + 4) = p4) (e5 : xs (i + 5) = p5) (e6 : xs (i + 6) = p6) (hb : ¬ (¬ p1 < 1 ∧ ¬ 6 < p1 ∧ ¬ p4 < 0 ∧ ¬ 7 < p4 ∧ ¬ p5 < -80 ∧ ¬ 80 < p5 ∧ ¬ p6 < 0 ∧ p6 ≤ 80)) : mj_W zG X (100 + i) (4000 + i) 508 (lwL i) [] (lwF st T ++ lwR T) := by
  have hL := E.hL
  refine mj_blk E.h.1 b_Lw_law_508 rfl trivial ?_
  refine mj_sl2 E.h.1 E.sp E.hL (k := 1) rfl (by omega) e1 d_Lw_law_514 ?_
  refine mj_blk E.h.1 b_Lw_law_515 rfl trivial ?_
  refine mj_sl2 E.h.1 E.sp E.hL (k := 2) rfl (by omega) e2 d_Lw_law_520 ?_
  refine mj_blk E.h.1 b_Lw_law_521 rfl trivial ?_
  refine mj_sl2 E.h.1 E.sp E.hL (k := 3) rfl (by omega) e3 d_Lw_law_530 ?_
  refine mj_blk E.h.1 b_Lw_law_531 rfl trivial ?_
  refine mj_sl2 E.h.1 E.sp E.hL (k := 4) rfl (by omega) e4 d_Lw_law_542 ?_
  refine mj_blk E.h.1 b_Lw_law_543 rfl trivial ?_
  refine mj_sl2 E.h.1 E.sp E.hL (k := 5) rfl (by omega) e5 d_Lw_law_548 ?_
  refine mj_blk E.h.1 b_Lw_law_549 rfl trivial ?_
  refine mj_sl2 E.h.1 E.sp E.hL (k := 6) rfl (by omega) e6 d_Lw_law_555 ?_
  refine mj_blk E.h.1 b_Lw_law_556 rfl trivial ?_
  refine mj_callSW1 E.h zGood E.x E.z (ew_option_b l E.fl D cA st n0 T.g T.rc p1 (lwV p2 p3) p4 p5 p6 hb) sw_option l_Lw_law_557 ⟨(fun _ h => nomatch h), (fun _ h => nomatch h)⟩ d_Lw_law_557 rfl ⟨by decide, by decide⟩ ⟨by omega, by omega⟩ [] rfl rfl rfl rfl (Nat.le_of_ble_eq_true rfl) ?_
  rintro _ _ ⟨rfl, rfl⟩
  refine ⟨_, _, rfl, rfl, rfl, rfl, ?_⟩
  refine mj_blk E.h.1 b_Lw_law_560 rfl trivial ?_
  refine mj_sl2 E.h.1 E.sp E.hL (k := 1) rfl (by omega) e1 d_Lw_law_568 ?_
  refine mj_blk E.h.1 b_Lw_law_569 rfl trivial ?_
  refine mj_sl2 E.h.1 E.sp E.hL (k := 2) rfl (by omega) e2 d_Lw_law_574 ?_
  refine mj_blk E.h.1 b_Lw_law_575 rfl trivial ?_
  refine mj_sl2 E.h.1 E.sp E.hL (k := 3) rfl (by omega) e3 d_Lw_law_584 ?_
  refine mj_blk E.h.1 b_Lw_law_585 rfl trivial ?_
  refine mj_sl2 E.h.1 E.sp E.hL (k := 4) rfl (by omega) e4 d_Lw_law_596 ?_
  refine mj_blk E.h.1 b_Lw_law_597 rfl trivial ?_
  refine mj_sl2 E.h.1 E.sp E.hL (k := 5) rfl (by omega) e5 d_Lw_law_602 ?_
  refine mj_blk E.h.1 b_Lw_law_603 rfl trivial ?_
  refine mj_sl2 E.h.1 E.sp E.hL (k := 6) rfl (by omega) e6 d_Lw_law_609 ?_
  refine mj_callV E.h zGood (ev_Md_option1 l D cA st T.n T.ck T.rc T.tr T.al T.th T.R.op T.R.cs T.R.ct T.R.mk' T.R.lst T.R.spn p1 p4 p5 p6 (lwV p2 p3) hb) v_Md_option l_Lw_law_610 d_Lw_law_610 rfl ⟨by decide, by decide⟩ ⟨by omega, by omega⟩ [] rfl rfl rfl rfl rfl rfl (Nat.le_of_ble_eq_true rfl) ?_
  rintro _ _ ⟨rfl, rfl⟩
  refine mj_k rfl rfl ?_
  refine mj_blk E.h.1 b_Lw_law_613 rfl trivial ?_
  refine mj_callV E.h zGood (ev_Md_thrown l D cA _ st _ _ _ _ _) v_Md_thrown l_Lw_law_616 d_Lw_law_616 rfl ⟨by decide, by decide⟩ ⟨by omega, by omega⟩ [] rfl rfl rfl rfl rfl rfl (Nat.le_of_ble_eq_true rfl) ?_
  rintro _ _ ⟨rfl, rfl⟩
  refine mj_k rfl rfl ?_
  refine mj_blk E.h.1 b_Lw_law_619 rfl trivial ?_
  refine lw_eq E rfl d_Lw_law_621 (tgt := 626) (by decide) ?_
  refine mj_blk E.h.1 b_Lw_law_626 rfl trivial ?_
  refine mj_ifne E.h.1 (tgt := 643) d_Lw_law_628 (by decide) (fun _ => ?_) (fun h => absurd h (by decide))
  refine mj_blk E.h.1 b_Lw_law_643 rfl trivial ?_
  refine lw_drop ?_
  have I2 : lwI ((T.rc, T.n, T.f, T.ph, T.ch, T.cp, T.sh, T.sp, T.ha, T.lv), (T.tx, T.hd, T.ts, T.hs, T.nx, T.rr, T.bg, T.en, T.rows, T.tot, T.a), (T.k1, T.k2, T.k3, T.k4, T.k5, T.k6, T.k7, T.k8, T.bm, T.bl, T.bt, T.fm, T.fl, T.ft), (1, T.ck, T.us, T.rh, T.rp9, T.rs, T.rq, T.hr), (T.bgn, T.nxR, T.enR, T.sz, T.txR, T.hl, T.hb, T.tr, T.al, T.ra, T.lvR, T.pl, T.at9), (T.R, T.wy, T.pt, T.os, T.N, T.F, T.g)) := ⟨I.n1, I.by1, I.rel, I.rul, I.cs1, I.cs2, I.fr1⟩
  exact lw_end E k I2 (by omega) (by omega)
theorem lw_last {T : lwT} (I : lwI T) (h0 : 0 < T.rc) : (T.os (T.rc - 1)).length ≤ 3 ∧ T.R.op (T.rc - 1) = nI (T.os (T.rc - 1)).length ∧ T.R.oN (T.rc - 1) = (T.os (T.rc - 1)).length ∧ (100 + 10 * (T.rc - 1), cRu (101 + 10 * (T.rc - 1)) (T.wy (T.rc - 1)) (T.pt (T.rc - 1)) (T.os (T.rc - 1)).length) ∈ T.F ∧ (101 + 10 * (T.rc - 1), cOs (olOf (T.rc - 1) (T.os (T.rc - 1)).length)) ∈ T.F := by
  obtain ⟨k1, k2, k3, k4, k5, k6⟩ := I.rul.2 (T.rc - 1) (by omega)
  have h3 := I.fr1.1 (T.rc - 1) (by omega)
  exact ⟨h3, by rw [k5, k3], k3.symm, (I.fr1.2.1 _).mpr ⟨T.rc - 1, by omega, (rC_mem h3 _).mpr (Or.inl rfl)⟩, (I.fr1.2.1 _).mpr ⟨T.rc - 1, by omega, (rC_mem h3 _).mpr (Or.inr (Or.inl rfl))⟩⟩
theorem lw_keep {w wc : mj_M} (hpw : mj_pw w) (hmem : ∀ q ∈ wc, q ∈ w) (q : Nat × mj_C) (hq : q ∈ w) : q ∈ wc ∨ (q ∈ w ∧ ∀ z ∈ wc, z.1 ≠ q.1) := by
  by_cases h : ∃ z ∈ wc, z.1 = q.1
  · obtain ⟨z, hz, e⟩ := h
    have hz2 := hmem z hz
    refine Or.inl ?_
    have : z = q := by
      clear hmem hz
      induction w with
      | nil => cases hq
      | cons a w ih =>
        obtain ⟨p1, p2⟩ := List.pairwise_cons.mp hpw
        rcases List.mem_cons.mp hq with h1 | h1
        · rcases List.mem_cons.mp hz2 with h2 | h2
          · rw [h1, h2]
          · exact absurd (by rw [← h1]; exact e.symm) (p1 z h2)
        · rcases List.mem_cons.mp hz2 with h2 | h2
          · exact absurd (by rw [← h2]; exact e) (p1 q h1)
          · exact ih p2 h1 h2
    rw [← this]
    exact hz
  · exact Or.inr ⟨hq, fun z hz e => h ⟨z, hz, e⟩⟩
set_option maxRecDepth 100000 in
set_option maxHeartbeats 8000000 in
theorem lw_option_0 {st : Bool} {X : mj_X} {l : Launch} {D : va_G} {cA : Nat → ClassId} {L n0 : Nat} {xs : Nat → Int32} (E : lwE X l D cA L xs n0) {i : Nat} (hi : i + 8 ≤ L) (k : lwG st X (i + 8)) {T : lwT} (I : lwI T) {p1 : Int32} (e1 : xs (i + 1) = p1) {p2 p3 p4 p5 p6 : Int32} (e2 : xs (i + 2) = p2) (e3 : xs (i + 3) = p3) (e4 : xs (i + 4) = p4) (e5 : xs (i + 5) = p5) (e6 : xs (i + 6) = p6) (hg : ¬ p1 < 1 ∧ ¬ 6 < p1 ∧ ¬ p4 < 0 ∧ ¬ 7 < p4 ∧ ¬ p5 < -80 ∧ ¬ 80 < p5 ∧ ¬ p6 < 0 ∧ p6 ≤ 80) (hz : T.rc = 0) : mj_W zG X (100 + i) (4000 + i) 508 (lwL i) [] (lwF st T ++ lwR T) := by
  have hL := E.hL
  have hmem : ∀ q ∈ ([(50, cSw st T.rc), (53, cRs (rlOf T.rc)), (300, cLg T.g)] : mj_M), q ∈ lwF st T ++ lwR T := by
    intro q hq
    simp only [List.mem_cons, List.not_mem_nil, or_false] at hq
    rcases hq with rfl | rfl | rfl
    · exact List.mem_append_left _ List.mem_cons_self
    · exact List.mem_append_right _ List.mem_cons_self
    · exact List.mem_append_left _ (List.mem_of_getElem? (i := 70) rfl)
  have hev : mj_EvW zG l D cA m_Lw_option h_option 7 270 1 6 [.ref 50, .int p1, .long (lwV p2 p3), .int p4, .int p5, .int p6, .ref 300] [(50, cSw st T.rc), (53, cRs (rlOf T.rc)), (300, cLg T.g)] [0, 40, 50, 51, 53, 60, 70, 300] Z_0 TLx n0 (fun r1 w1 => r1 = some (.int 2) ∧ w1 = [(50, cSw st T.rc), (53, cRs (rlOf T.rc)), (300, cLg T.g)]) := by
    rw [hz]
    exact ew_option_0 l E.fl D cA st n0 T.g p1 (lwV p2 p3) p4 p5 p6 hg
  have hsw : mj_sw9 [0, 40, 50, 51, 53, 60, 70, 300] [(50, cSw st T.rc), (53, cRs (rlOf T.rc)), (300, cLg T.g)] = true := by
    rw [hz]
    rfl
  refine mj_blk E.h.1 b_Lw_law_508 rfl trivial ?_
  refine mj_sl2 E.h.1 E.sp E.hL (k := 1) rfl (by omega) e1 d_Lw_law_514 ?_
  refine mj_blk E.h.1 b_Lw_law_515 rfl trivial ?_
  refine mj_sl2 E.h.1 E.sp E.hL (k := 2) rfl (by omega) e2 d_Lw_law_520 ?_
  refine mj_blk E.h.1 b_Lw_law_521 rfl trivial ?_
  refine mj_sl2 E.h.1 E.sp E.hL (k := 3) rfl (by omega) e3 d_Lw_law_530 ?_
  refine mj_blk E.h.1 b_Lw_law_531 rfl trivial ?_
  refine mj_sl2 E.h.1 E.sp E.hL (k := 4) rfl (by omega) e4 d_Lw_law_542 ?_
  refine mj_blk E.h.1 b_Lw_law_543 rfl trivial ?_
  refine mj_sl2 E.h.1 E.sp E.hL (k := 5) rfl (by omega) e5 d_Lw_law_548 ?_
  refine mj_blk E.h.1 b_Lw_law_549 rfl trivial ?_
  refine mj_sl2 E.h.1 E.sp E.hL (k := 6) rfl (by omega) e6 d_Lw_law_555 ?_
  refine mj_blk E.h.1 b_Lw_law_556 rfl trivial ?_
  refine mj_callSW0 E.h zGood E.x E.z (hev) sw_option l_Lw_law_557 ⟨(fun _ h => nomatch h), (fun _ h => nomatch h)⟩ d_Lw_law_557 rfl ⟨by decide, by decide⟩ ⟨by omega, by omega⟩ [] [] (rest := []) ?_ (by rw [mj_wr0]; rfl) rfl (Nat.le_of_ble_eq_true rfl) (fun _ _ _ h => nomatch h) (fun _ h => nomatch h) List.Pairwise.nil (fun _ h => nomatch h) (fun _ h => nomatch h) ?_
  · intro q hq
    rw [mj_wr0] at hq
    exact hmem q hq
  rintro _ _ ⟨rfl, rfl⟩ hpw
  refine ⟨_, lwF st T ++ lwR T, ⟨rfl, hpw, fun q hq => ?_⟩, fun z hz => ⟨z, hz, rfl⟩, hsw, rfl, ?_⟩
  · rw [mj_wr0]
    exact lw_keep hpw hmem q hq
  show mj_W zG X (100 + i + 1) (4000 + i + 6) 560 (lwL i) [.int 2] _
  refine mj_blk E.h.1 b_Lw_law_560 rfl trivial ?_
  refine mj_sl2 E.h.1 E.sp E.hL (k := 1) rfl (by omega) e1 d_Lw_law_568 ?_
  refine mj_blk E.h.1 b_Lw_law_569 rfl trivial ?_
  refine mj_sl2 E.h.1 E.sp E.hL (k := 2) rfl (by omega) e2 d_Lw_law_574 ?_
  refine mj_blk E.h.1 b_Lw_law_575 rfl trivial ?_
  refine mj_sl2 E.h.1 E.sp E.hL (k := 3) rfl (by omega) e3 d_Lw_law_584 ?_
  refine mj_blk E.h.1 b_Lw_law_585 rfl trivial ?_
  refine mj_sl2 E.h.1 E.sp E.hL (k := 4) rfl (by omega) e4 d_Lw_law_596 ?_
  refine mj_blk E.h.1 b_Lw_law_597 rfl trivial ?_
  refine mj_sl2 E.h.1 E.sp E.hL (k := 5) rfl (by omega) e5 d_Lw_law_602 ?_
  refine mj_blk E.h.1 b_Lw_law_603 rfl trivial ?_
  refine mj_sl2 E.h.1 E.sp E.hL (k := 6) rfl (by omega) e6 d_Lw_law_609 ?_
  refine mj_callV E.h zGood (ev_Md_option2 l D cA st T.n T.ck T.rc T.tr T.al T.th T.R.op T.R.cs T.R.ct T.R.mk' T.R.lst T.R.spn p1 p4 p5 p6 (lwV p2 p3) hg I.rul.1 (Or.inl hz)) v_Md_option l_Lw_law_610 d_Lw_law_610 rfl ⟨by decide, by decide⟩ ⟨by omega, by omega⟩ [] rfl rfl rfl rfl rfl rfl (Nat.le_of_ble_eq_true rfl) ?_
  rintro _ _ ⟨rfl, rfl⟩
  refine mj_k rfl rfl ?_
  refine mj_blk E.h.1 b_Lw_law_613 rfl trivial ?_
  refine mj_callV E.h zGood (ev_Md_thrown l D cA _ st _ _ _ _ _) v_Md_thrown l_Lw_law_616 d_Lw_law_616 rfl ⟨by decide, by decide⟩ ⟨by omega, by omega⟩ [] rfl rfl rfl rfl rfl rfl (Nat.le_of_ble_eq_true rfl) ?_
  rintro _ _ ⟨rfl, rfl⟩
  refine mj_k rfl rfl ?_
  refine mj_blk E.h.1 b_Lw_law_619 rfl trivial ?_
  refine lw_eq E rfl d_Lw_law_621 (tgt := 626) (by decide) ?_
  refine mj_blk E.h.1 b_Lw_law_626 rfl trivial ?_
  refine mj_ifne E.h.1 (tgt := 643) d_Lw_law_628 (by decide) (fun _ => ?_) (fun h => absurd h (by decide))
  refine mj_blk E.h.1 b_Lw_law_643 rfl trivial ?_
  refine lw_drop ?_
  have I2 : lwI ((T.rc, T.n, T.f, T.ph, T.ch, T.cp, T.sh, T.sp, T.ha, T.lv), (T.tx, T.hd, T.ts, T.hs, T.nx, T.rr, T.bg, T.en, T.rows, T.tot, T.a), (T.k1, T.k2, T.k3, T.k4, T.k5, T.k6, T.k7, T.k8, T.bm, T.bl, T.bt, T.fm, T.fl, T.ft), (2, T.ck, T.us, T.rh, T.rp9, T.rs, T.rq, T.hr), (T.bgn, T.nxR, T.enR, T.sz, T.txR, T.hl, T.hb, T.tr, T.al, T.ra, T.lvR, T.pl, T.at9), (T.R, T.wy, T.pt, T.os, T.N, T.F, T.g)) := ⟨I.n1, I.by1, I.rel, I.rul, I.cs1, I.cs2, I.fr1⟩
  exact lw_end E k I2 (by omega) (by omega)
theorem lw_opt3 {st : Bool} {l : Launch} (hfl : l.flags = pinnedFlags ++ [noTraceFlag]) {D : va_G} {cA : Nat → ClassId} {n0 : Nat} (g : Nat → Int64) (rc : Nat) (h0 : 0 < rc) (h6 : rc ≤ 6) (c : Int32) (v : Int64) (m a b wy pt : Int32) (hg : ¬ c < 1 ∧ ¬ 6 < c ∧ ¬ m < 0 ∧ ¬ 7 < m ∧ ¬ a < -80 ∧ ¬ 80 < a ∧ ¬ b < 0 ∧ b ≤ 80) :
    mj_EvW zG l D cA m_Lw_option h_option 7 270 1 6 [.ref 50, .int c, .long v, .int m, .int a, .int b, .ref 300] [(50, cSw st rc), (53, cRs (rlOf rc)), (100 + 10 * (rc - 1), cRu (101 + 10 * (rc - 1)) wy pt 3), (300, cLg g)] (kO (rc - 1) 0) Z_0 TLx n0 (fun r1 w1 => r1 = some (.int 2) ∧ w1 = [(50, cSw st rc), (53, cRs (rlOf rc)), (100 + 10 * (rc - 1), cRu (101 + 10 * (rc - 1)) wy pt 3), (300, cLg g)]) ∧ mj_sw9 (kO (rc - 1) 0) [(50, cSw st rc), (53, cRs (rlOf rc)), (100 + 10 * (rc - 1), cRu (101 + 10 * (rc - 1)) wy pt 3), (300, cLg g)] = true := by
  match rc, h0, h6 with
  | 1, _, _ => exact ⟨ew_option_3 l hfl D cA st n0 g 0 (by decide) c v m a b wy pt hg, rfl⟩
  | 2, _, _ => exact ⟨ew_option_3 l hfl D cA st n0 g 1 (by decide) c v m a b wy pt hg, rfl⟩
  | 3, _, _ => exact ⟨ew_option_3 l hfl D cA st n0 g 2 (by decide) c v m a b wy pt hg, rfl⟩
  | 4, _, _ => exact ⟨ew_option_3 l hfl D cA st n0 g 3 (by decide) c v m a b wy pt hg, rfl⟩
  | 5, _, _ => exact ⟨ew_option_3 l hfl D cA st n0 g 4 (by decide) c v m a b wy pt hg, rfl⟩
  | 6, _, _ => exact ⟨ew_option_3 l hfl D cA st n0 g 5 (by decide) c v m a b wy pt hg, rfl⟩
  | rc + 7, _, h => omega
set_option maxRecDepth 100000 in
set_option maxHeartbeats 8000000 in
theorem lw_option_3 {st : Bool} {X : mj_X} {l : Launch} {D : va_G} {cA : Nat → ClassId} {L n0 : Nat} {xs : Nat → Int32} (E : lwE X l D cA L xs n0) {i : Nat} (hi : i + 8 ≤ L) (k : lwG st X (i + 8)) {T : lwT} (I : lwI T) {p1 : Int32} (e1 : xs (i + 1) = p1) {p2 p3 p4 p5 p6 : Int32} (e2 : xs (i + 2) = p2) (e3 : xs (i + 3) = p3) (e4 : xs (i + 4) = p4) (e5 : xs (i + 5) = p5) (e6 : xs (i + 6) = p6) (hg : ¬ p1 < 1 ∧ ¬ 6 < p1 ∧ ¬ p4 < 0 ∧ ¬ 7 < p4 ∧ ¬ p5 < -80 ∧ ¬ 80 < p5 ∧ ¬ p6 < 0 ∧ p6 ≤ 80) (h0 : 0 < T.rc) (h3 : (T.os (T.rc - 1)).length = 3) : mj_W zG X (100 + i) (4000 + i) 508 (lwL i) [] (lwF st T ++ lwR T) := by
  have hL := E.hL
  obtain ⟨q1, q2, q3, q4, q5⟩ := lw_last I h0
  rw [h3] at q2 q4
  have hmem : ∀ q ∈ ([(50, cSw st T.rc), (53, cRs (rlOf T.rc)), (100 + 10 * (T.rc - 1), cRu (101 + 10 * (T.rc - 1)) (T.wy (T.rc - 1)) (T.pt (T.rc - 1)) 3), (300, cLg T.g)] : mj_M), q ∈ lwF st T ++ lwR T := by
    intro q hq
    simp only [List.mem_cons, List.not_mem_nil, or_false] at hq
    rcases hq with rfl | rfl | rfl | rfl
    · exact List.mem_append_left _ List.mem_cons_self
    · exact List.mem_append_right _ List.mem_cons_self
    · exact List.mem_append_right _ (List.mem_cons_of_mem _ q4)
    · exact List.mem_append_left _ (List.mem_of_getElem? (i := 70) rfl)
  obtain ⟨hev, hsw⟩ := lw_opt3 (st := st) (D := D) (cA := cA) (n0 := n0) E.fl T.g T.rc h0 I.rul.1 p1 (lwV p2 p3) p4 p5 p6 (T.wy (T.rc - 1)) (T.pt (T.rc - 1)) hg
  refine mj_blk E.h.1 b_Lw_law_508 rfl trivial ?_
  refine mj_sl2 E.h.1 E.sp E.hL (k := 1) rfl (by omega) e1 d_Lw_law_514 ?_
  refine mj_blk E.h.1 b_Lw_law_515 rfl trivial ?_
  refine mj_sl2 E.h.1 E.sp E.hL (k := 2) rfl (by omega) e2 d_Lw_law_520 ?_
  refine mj_blk E.h.1 b_Lw_law_521 rfl trivial ?_
  refine mj_sl2 E.h.1 E.sp E.hL (k := 3) rfl (by omega) e3 d_Lw_law_530 ?_
  refine mj_blk E.h.1 b_Lw_law_531 rfl trivial ?_
  refine mj_sl2 E.h.1 E.sp E.hL (k := 4) rfl (by omega) e4 d_Lw_law_542 ?_
  refine mj_blk E.h.1 b_Lw_law_543 rfl trivial ?_
  refine mj_sl2 E.h.1 E.sp E.hL (k := 5) rfl (by omega) e5 d_Lw_law_548 ?_
  refine mj_blk E.h.1 b_Lw_law_549 rfl trivial ?_
  refine mj_sl2 E.h.1 E.sp E.hL (k := 6) rfl (by omega) e6 d_Lw_law_555 ?_
  refine mj_blk E.h.1 b_Lw_law_556 rfl trivial ?_
  refine mj_callSW0 E.h zGood E.x E.z (hev) sw_option l_Lw_law_557 ⟨(fun _ h => nomatch h), (fun _ h => nomatch h)⟩ d_Lw_law_557 rfl ⟨by decide, by decide⟩ ⟨by omega, by omega⟩ [] [] (rest := []) ?_ (by rw [mj_wr0]; exact nd_of (by simp only [List.map_cons, List.map_nil, List.pairwise_cons, List.mem_cons, List.not_mem_nil, or_false, forall_eq_or_imp, forall_eq, List.Pairwise.nil, and_true, false_implies, implies_true]; have := I.rul.1; omega)) rfl (Nat.le_of_ble_eq_true rfl) (fun _ _ _ h => nomatch h) (fun _ h => nomatch h) List.Pairwise.nil (fun _ h => nomatch h) (fun _ h => nomatch h) ?_
  · intro q hq
    rw [mj_wr0] at hq
    exact hmem q hq
  rintro _ _ ⟨rfl, rfl⟩ hpw
  refine ⟨_, lwF st T ++ lwR T, ⟨rfl, hpw, fun q hq => ?_⟩, fun z hz => ⟨z, hz, rfl⟩, (by rw [List.map_nil, List.append_nil]; exact hsw), rfl, ?_⟩
  · rw [mj_wr0]
    exact lw_keep hpw hmem q hq
  show mj_W zG X (100 + i + 1) (4000 + i + 6) 560 (lwL i) [.int 2] _
  refine mj_blk E.h.1 b_Lw_law_560 rfl trivial ?_
  refine mj_sl2 E.h.1 E.sp E.hL (k := 1) rfl (by omega) e1 d_Lw_law_568 ?_
  refine mj_blk E.h.1 b_Lw_law_569 rfl trivial ?_
  refine mj_sl2 E.h.1 E.sp E.hL (k := 2) rfl (by omega) e2 d_Lw_law_574 ?_
  refine mj_blk E.h.1 b_Lw_law_575 rfl trivial ?_
  refine mj_sl2 E.h.1 E.sp E.hL (k := 3) rfl (by omega) e3 d_Lw_law_584 ?_
  refine mj_blk E.h.1 b_Lw_law_585 rfl trivial ?_
  refine mj_sl2 E.h.1 E.sp E.hL (k := 4) rfl (by omega) e4 d_Lw_law_596 ?_
  refine mj_blk E.h.1 b_Lw_law_597 rfl trivial ?_
  refine mj_sl2 E.h.1 E.sp E.hL (k := 5) rfl (by omega) e5 d_Lw_law_602 ?_
  refine mj_blk E.h.1 b_Lw_law_603 rfl trivial ?_
  refine mj_sl2 E.h.1 E.sp E.hL (k := 6) rfl (by omega) e6 d_Lw_law_609 ?_
  refine mj_callV E.h zGood (ev_Md_option2 l D cA st T.n T.ck T.rc T.tr T.al T.th T.R.op T.R.cs T.R.ct T.R.mk' T.R.lst T.R.spn p1 p4 p5 p6 (lwV p2 p3) hg I.rul.1 (Or.inr q2)) v_Md_option l_Lw_law_610 d_Lw_law_610 rfl ⟨by decide, by decide⟩ ⟨by omega, by omega⟩ [] rfl rfl rfl rfl rfl rfl (Nat.le_of_ble_eq_true rfl) ?_
  rintro _ _ ⟨rfl, rfl⟩
  refine mj_k rfl rfl ?_
  refine mj_blk E.h.1 b_Lw_law_613 rfl trivial ?_
  refine mj_callV E.h zGood (ev_Md_thrown l D cA _ st _ _ _ _ _) v_Md_thrown l_Lw_law_616 d_Lw_law_616 rfl ⟨by decide, by decide⟩ ⟨by omega, by omega⟩ [] rfl rfl rfl rfl rfl rfl (Nat.le_of_ble_eq_true rfl) ?_
  rintro _ _ ⟨rfl, rfl⟩
  refine mj_k rfl rfl ?_
  refine mj_blk E.h.1 b_Lw_law_619 rfl trivial ?_
  refine lw_eq E rfl d_Lw_law_621 (tgt := 626) (by decide) ?_
  refine mj_blk E.h.1 b_Lw_law_626 rfl trivial ?_
  refine mj_ifne E.h.1 (tgt := 643) d_Lw_law_628 (by decide) (fun _ => ?_) (fun h => absurd h (by decide))
  refine mj_blk E.h.1 b_Lw_law_643 rfl trivial ?_
  refine lw_drop ?_
  have I2 : lwI ((T.rc, T.n, T.f, T.ph, T.ch, T.cp, T.sh, T.sp, T.ha, T.lv), (T.tx, T.hd, T.ts, T.hs, T.nx, T.rr, T.bg, T.en, T.rows, T.tot, T.a), (T.k1, T.k2, T.k3, T.k4, T.k5, T.k6, T.k7, T.k8, T.bm, T.bl, T.bt, T.fm, T.fl, T.ft), (2, T.ck, T.us, T.rh, T.rp9, T.rs, T.rq, T.hr), (T.bgn, T.nxR, T.enR, T.sz, T.txR, T.hl, T.hb, T.tr, T.al, T.ra, T.lvR, T.pl, T.at9), (T.R, T.wy, T.pt, T.os, T.N, T.F, T.g)) := ⟨I.n1, I.by1, I.rel, I.rul, I.cs1, I.cs2, I.fr1⟩
  exact lw_end E k I2 (by omega) (by omega)
theorem lw_optg {st : Bool} {l : Launch} {D : va_G} {cA : Nat → ClassId} {n0 : Nat} (g : Nat → Int64) (rc c : Nat) (h0 : 0 < rc) (h6 : rc ≤ 6) (hc : c < 3) (cz : Nat) (v : Int64) (m a b wy pt : Int32) (hg : ¬ nI cz < 1 ∧ ¬ 6 < nI cz ∧ ¬ m < 0 ∧ ¬ 7 < m ∧ ¬ a < -80 ∧ ¬ 80 < a ∧ ¬ b < 0 ∧ b ≤ 80) :
    mj_EvW zG l D cA m_Lw_option h_option 7 270 1 7 [.ref 50, .int (nI cz), .long v, .int m, .int a, .int b, .ref 300] [(50, cSw st rc), (53, cRs (rlOf rc)), (100 + 10 * (rc - 1), cRu (101 + 10 * (rc - 1)) wy pt c), (101 + 10 * (rc - 1), cOs (olOf (rc - 1) c)), (300, cLg g)] (kO (rc - 1) c) Z_0 TLx n0 (fun r1 w1 => r1 = some (.int 0) ∧ w1 = [(50, cSw st rc), (53, cRs (rlOf rc)), (100 + 10 * (rc - 1), cRu (101 + 10 * (rc - 1)) wy pt (c + 1)), (101 + 10 * (rc - 1), cOs (olOf (rc - 1) (c + 1))), (300, cLg (vp_updL g 0 (nI (c + 1)).toInt64))] ++ [(102 + 10 * (rc - 1) + c, cOt (uNew cz v m a b))]) ∧
    mj_sw9 (kO (rc - 1) c ++ [(102 + 10 * (rc - 1) + c, 102 + 10 * (rc - 1) + c)].map Prod.fst) ([(50, cSw st rc), (53, cRs (rlOf rc)), (100 + 10 * (rc - 1), cRu (101 + 10 * (rc - 1)) wy pt (c + 1)), (101 + 10 * (rc - 1), cOs (olOf (rc - 1) (c + 1))), (300, cLg (vp_updL g 0 (nI (c + 1)).toInt64))] ++ [(102 + 10 * (rc - 1) + c, cOt (uNew cz v m a b))]) = true := by
  match rc, h0, h6 with
  | 1, _, _ => exact ⟨ew_option l D cA st n0 g 0 c (by decide) hc wy pt cz v m a b hg, sw9_opt st _ wy pt _ 0 c (by decide) hc⟩
  | 2, _, _ => exact ⟨ew_option l D cA st n0 g 1 c (by decide) hc wy pt cz v m a b hg, sw9_opt st _ wy pt _ 1 c (by decide) hc⟩
  | 3, _, _ => exact ⟨ew_option l D cA st n0 g 2 c (by decide) hc wy pt cz v m a b hg, sw9_opt st _ wy pt _ 2 c (by decide) hc⟩
  | 4, _, _ => exact ⟨ew_option l D cA st n0 g 3 c (by decide) hc wy pt cz v m a b hg, sw9_opt st _ wy pt _ 3 c (by decide) hc⟩
  | 5, _, _ => exact ⟨ew_option l D cA st n0 g 4 c (by decide) hc wy pt cz v m a b hg, sw9_opt st _ wy pt _ 4 c (by decide) hc⟩
  | 6, _, _ => exact ⟨ew_option l D cA st n0 g 5 c (by decide) hc wy pt cz v m a b hg, sw9_opt st _ wy pt _ 5 c (by decide) hc⟩
  | rc + 7, _, h => omega
theorem rF_opt1 {rc c : Nat} (h0 : 0 < rc) {wy pt : Nat → Int32} {os : Nat → List oT} {F : mj_M} (h : rF rc wy pt os F) (hc : (os (rc - 1)).length = c) (hc3 : c < 3) (o : oT) : rF rc wy pt (va_up os (rc - 1) (os (rc - 1) ++ [o])) (rCut (100 + 10 * (rc - 1)) (101 + 10 * (rc - 1)) F ++ [(100 + 10 * (rc - 1), cRu (101 + 10 * (rc - 1)) (wy (rc - 1)) (pt (rc - 1)) (c + 1)), (101 + 10 * (rc - 1), cOs (olOf (rc - 1) (c + 1))), (102 + 10 * (rc - 1) + c, cOt o)]) := by
  obtain ⟨r, rfl⟩ : ∃ r, rc = r + 1 := ⟨rc - 1, by omega⟩
  exact rF_opt h hc hc3 o
theorem lw_csU {cs : Nat → Int32} {cN : Nat → Nat} {x c j : Nat} (hj : j < 18) (h : cs (mIx j) = nI (cN j)) : upd cs x (nI c) (mIx j) = nI (va_up cN x c j) := by
  have e : mIx j = j := nI_clamp (by omega)
  rw [e] at h ⊢
  by_cases hx : j = x
  · subst hx
    rw [pk_us, u_upS]
  · rw [pk_un hx, u_upN _ _ hx]
    exact h
theorem lw_cNU {cN : Nat → Nat} {x c j : Nat} (hc : c ≤ 6) (h : cN j ≤ 6) : va_up cN x c j ≤ 6 := by
  by_cases hx : j = x
  · subst hx
    rw [u_upS]
    exact hc
  · rw [u_upN _ _ hx]
    exact h
set_option maxRecDepth 100000 in
set_option maxHeartbeats 8000000 in
theorem lw_option_g {st : Bool} {X : mj_X} {l : Launch} {D : va_G} {cA : Nat → ClassId} {L n0 : Nat} {xs : Nat → Int32} (E : lwE X l D cA L xs n0) {i : Nat} (hi : i + 8 ≤ L) (k : lwG st X (i + 8)) {T : lwT} (I : lwI T) {cz : Nat} (hc1 : 1 ≤ cz) (hc6 : cz ≤ 6) (e1 : xs (i + 1) = nI cz) {p2 p3 p4 p5 p6 : Int32} (e2 : xs (i + 2) = p2) (e3 : xs (i + 3) = p3) (e4 : xs (i + 4) = p4) (e5 : xs (i + 5) = p5) (e6 : xs (i + 6) = p6) (hg : ¬ nI cz < 1 ∧ ¬ 6 < nI cz ∧ ¬ p4 < 0 ∧ ¬ 7 < p4 ∧ ¬ p5 < -80 ∧ ¬ 80 < p5 ∧ ¬ p6 < 0 ∧ p6 ≤ 80) (h0 : 0 < T.rc) (h3 : (T.os (T.rc - 1)).length < 3) : mj_W zG X (100 + i) (4000 + i) 508 (lwL i) [] (lwF st T ++ lwR T) := by
  have hL := E.hL
  obtain ⟨q1, q2, q3, q4, q5⟩ := lw_last I h0
  have h6 := I.rul.1
  obtain ⟨hev, hsw⟩ := lw_optg (st := st) (l := l) (D := D) (cA := cA) (n0 := n0) T.g T.rc (T.os (T.rc - 1)).length h0 I.rul.1 h3 cz (lwV p2 p3) p4 p5 p6 (T.wy (T.rc - 1)) (T.pt (T.rc - 1)) hg
  refine mj_blk E.h.1 b_Lw_law_508 rfl trivial ?_
  refine mj_sl2 E.h.1 E.sp E.hL (k := 1) rfl (by omega) e1 d_Lw_law_514 ?_
  refine mj_blk E.h.1 b_Lw_law_515 rfl trivial ?_
  refine mj_sl2 E.h.1 E.sp E.hL (k := 2) rfl (by omega) e2 d_Lw_law_520 ?_
  refine mj_blk E.h.1 b_Lw_law_521 rfl trivial ?_
  refine mj_sl2 E.h.1 E.sp E.hL (k := 3) rfl (by omega) e3 d_Lw_law_530 ?_
  refine mj_blk E.h.1 b_Lw_law_531 rfl trivial ?_
  refine mj_sl2 E.h.1 E.sp E.hL (k := 4) rfl (by omega) e4 d_Lw_law_542 ?_
  refine mj_blk E.h.1 b_Lw_law_543 rfl trivial ?_
  refine mj_sl2 E.h.1 E.sp E.hL (k := 5) rfl (by omega) e5 d_Lw_law_548 ?_
  refine mj_blk E.h.1 b_Lw_law_549 rfl trivial ?_
  refine mj_sl2 E.h.1 E.sp E.hL (k := 6) rfl (by omega) e6 d_Lw_law_555 ?_
  refine mj_blk E.h.1 b_Lw_law_556 rfl trivial ?_
  have hks : mj_nw (102 + 10 * (T.rc - 1) + (T.os (T.rc - 1)).length) T.F := rF_fresh I.fr1 (fun r hr h => by
    have h9 := I.fr1.1 r hr
    by_cases hr2 : r = T.rc - 1
    · subst hr2
      omega
    · omega)
  refine mj_callSW0 E.h zGood E.x E.z hev sw_option l_Lw_law_557 ⟨(fun _ h => nomatch h), (fun _ h => nomatch h)⟩ d_Lw_law_557 rfl ⟨by decide, by decide⟩ ⟨by omega, by omega⟩ [] [(102 + 10 * (T.rc - 1) + (T.os (T.rc - 1)).length, 102 + 10 * (T.rc - 1) + (T.os (T.rc - 1)).length)] (rest := []) ?_ (by rw [mj_wr0]; exact nd_of (by simp only [List.map_cons, List.map_nil, List.pairwise_cons, List.mem_cons, List.not_mem_nil, or_false, forall_eq_or_imp, forall_eq, List.Pairwise.nil, and_true, false_implies, implies_true]; omega)) rfl (Nat.le_of_ble_eq_true rfl) ?_ ?_ ?_ ?_ ?_ ?_
  · intro q hq
    rw [mj_wr0] at hq
    simp only [List.mem_cons, List.not_mem_nil, or_false] at hq
    rcases hq with rfl | rfl | rfl | rfl | rfl
    · exact List.mem_append_left _ List.mem_cons_self
    · exact List.mem_append_right _ List.mem_cons_self
    · exact List.mem_append_right _ (List.mem_cons_of_mem _ q4)
    · exact List.mem_append_right _ (List.mem_cons_of_mem _ q5)
    · exact List.mem_append_left _ (List.mem_of_getElem? (i := 70) rfl)
  · intro q hq x hx
    rcases List.mem_singleton.mp hx with rfl
    exact kO_no hq ⟨by omega, by omega⟩ (fun j hj => by omega) (by omega)
  · intro x hx
    rcases List.mem_singleton.mp hx with rfl
    rfl
  · exact List.pairwise_singleton _ _
  · intro x hx
    rcases List.mem_singleton.mp hx with rfl
    exact ⟨lw_nw rfl ⟨by omega, by omega⟩ (fun r hr => by omega) hks, rg_nl rfl ⟨by omega, by omega⟩, fun _ h => nomatch h⟩
  · intro x hx hk
    rcases List.mem_singleton.mp hx with rfl
    have hk : 102 + 10 * (T.rc - 1) + (T.os (T.rc - 1)).length = 301 := List.mem_singleton.mp hk
    omega
  rintro _ _ ⟨rfl, rfl⟩ hpw
  have hF2 := rF_opt1 h0 I.fr1 rfl h3 (uNew cz (lwV p2 p3) p4 p5 p6)
  obtain ⟨j1, j2⟩ := lw_join (A := lwF st T) (A2 := lwF st ((T.rc, T.n, T.f, T.ph, T.ch, T.cp, T.sh, T.sp, T.ha, T.lv), (T.tx, T.hd, T.ts, T.hs, T.nx, T.rr, T.bg, T.en, T.rows, T.tot, T.a), (T.k1, T.k2, T.k3, T.k4, T.k5, T.k6, T.k7, T.k8, T.bm, T.bl, T.bt, T.fm, T.fl, T.ft), (T.th, T.ck, T.us, T.rh, T.rp9, T.rs, T.rq, T.hr), (T.bgn, T.nxR, T.enR, T.sz, T.txR, T.hl, T.hb, T.tr, T.al, T.ra, T.lvR, T.pl, T.at9), (T.R, T.wy, T.pt, T.os, T.N, T.F, vp_updL T.g 0 (nI ((T.os (T.rc - 1)).length + 1)).toInt64))) (w1 := [(50, cSw st T.rc), (300, cLg (vp_updL T.g 0 (nI ((T.os (T.rc - 1)).length + 1)).toInt64))]) (d5 := cRs (rlOf T.rc)) (F2 := rCut (100 + 10 * (T.rc - 1)) (101 + 10 * (T.rc - 1)) T.F ++ [(100 + 10 * (T.rc - 1), cRu (101 + 10 * (T.rc - 1)) (T.wy (T.rc - 1)) (T.pt (T.rc - 1)) ((T.os (T.rc - 1)).length + 1)), (101 + 10 * (T.rc - 1), cOs (olOf (T.rc - 1) ((T.os (T.rc - 1)).length + 1))), (102 + 10 * (T.rc - 1) + (T.os (T.rc - 1)).length, cOt (uNew cz (lwV p2 p3) p4 p5 p6))]) (Nw := [(100 + 10 * (T.rc - 1), cRu (101 + 10 * (T.rc - 1)) (T.wy (T.rc - 1)) (T.pt (T.rc - 1)) ((T.os (T.rc - 1)).length + 1)), (101 + 10 * (T.rc - 1), cOs (olOf (T.rc - 1) ((T.os (T.rc - 1)).length + 1))), (102 + 10 * (T.rc - 1) + (T.os (T.rc - 1)).length, cOt (uNew cz (lwV p2 p3) p4 p5 p6))]) rfl rfl rfl hpw hF2.2.2 (fun q hq => rF_key hF2 h6 hq) (fun q hq => rF_key I.fr1 h6 hq) (fun q hq => rF_key hF2 h6 (List.mem_append_right _ hq)) (fun q hq => (List.mem_append.mp hq).elim (fun h => Or.inr ⟨(List.mem_filter.mp h).1, fun z hz => by
      have hcut := of_decide_eq_true (List.mem_filter.mp h).2
      simp only [List.mem_cons, List.not_mem_nil, or_false] at hz
      rcases hz with rfl | rfl | rfl
      · exact hcut.1.symm
      · exact hcut.2.symm
      · exact fun e => (hks q (List.mem_filter.mp h).1).1 e.symm⟩) (fun h => Or.inl h))
  refine ⟨_, _, ⟨rfl, j1, fun q hq => ?_⟩, fun z hz => ?_, hsw, rfl, ?_⟩
  · rw [mj_wr0]
    rcases j2 q hq with h | ⟨h, h2⟩
    · refine Or.inl ?_
      rcases h with h | rfl | h
      · simp only [List.mem_cons, List.not_mem_nil, or_false] at h
        rcases h with rfl | rfl
        · exact List.mem_append_left _ List.mem_cons_self
        · exact List.mem_append_left _ (List.mem_of_getElem? (i := 4) rfl)
      · exact List.mem_append_left _ (List.mem_cons_of_mem _ List.mem_cons_self)
      · simp only [List.mem_cons, List.not_mem_nil, or_false] at h
        rcases h with rfl | rfl | rfl
        · exact List.mem_append_left _ (List.mem_of_getElem? (i := 2) rfl)
        · exact List.mem_append_left _ (List.mem_of_getElem? (i := 3) rfl)
        · exact List.mem_append_right _ List.mem_cons_self
    · refine Or.inr ⟨h, fun z hz => h2 z ?_⟩
      rcases List.mem_append.mp hz with hz | hz
      · simp only [List.mem_cons, List.not_mem_nil, or_false] at hz
        rcases hz with rfl | rfl | rfl | rfl | rfl
        · exact Or.inl List.mem_cons_self
        · exact Or.inr (Or.inl rfl)
        · exact Or.inr (Or.inr List.mem_cons_self)
        · exact Or.inr (Or.inr (List.mem_cons_of_mem _ List.mem_cons_self))
        · exact Or.inl (List.mem_cons_of_mem _ List.mem_cons_self)
      · rcases List.mem_singleton.mp hz with rfl
        exact Or.inr (Or.inr (List.mem_cons_of_mem _ (List.mem_cons_of_mem _ List.mem_cons_self)))
  · simp only [List.mem_cons, List.not_mem_nil, or_false] at hz
    rcases hz with rfl | rfl | rfl | rfl | rfl
    · exact ⟨_, List.mem_append_left _ (List.mem_of_getElem? (i := 0) rfl), rfl⟩
    · exact ⟨_, List.mem_append_left _ (List.mem_of_getElem? (i := 1) rfl), rfl⟩
    · exact ⟨_, List.mem_append_left _ (List.mem_of_getElem? (i := 2) rfl), rfl⟩
    · exact ⟨_, List.mem_append_left _ (List.mem_of_getElem? (i := 3) rfl), rfl⟩
    · exact ⟨_, List.mem_append_left _ (List.mem_of_getElem? (i := 4) rfl), rfl⟩
  show mj_W zG X (100 + i + 1) (4000 + i + 7) 560 (lwL i) [.int 0] _
  refine mj_blk E.h.1 b_Lw_law_560 rfl trivial ?_
  refine mj_sl2 E.h.1 E.sp E.hL (k := 1) rfl (by omega) e1 d_Lw_law_568 ?_
  refine mj_blk E.h.1 b_Lw_law_569 rfl trivial ?_
  refine mj_sl2 E.h.1 E.sp E.hL (k := 2) rfl (by omega) e2 d_Lw_law_574 ?_
  refine mj_blk E.h.1 b_Lw_law_575 rfl trivial ?_
  refine mj_sl2 E.h.1 E.sp E.hL (k := 3) rfl (by omega) e3 d_Lw_law_584 ?_
  refine mj_blk E.h.1 b_Lw_law_585 rfl trivial ?_
  refine mj_sl2 E.h.1 E.sp E.hL (k := 4) rfl (by omega) e4 d_Lw_law_596 ?_
  refine mj_blk E.h.1 b_Lw_law_597 rfl trivial ?_
  refine mj_sl2 E.h.1 E.sp E.hL (k := 5) rfl (by omega) e5 d_Lw_law_602 ?_
  refine mj_blk E.h.1 b_Lw_law_603 rfl trivial ?_
  refine mj_sl2 E.h.1 E.sp E.hL (k := 6) rfl (by omega) e6 d_Lw_law_609 ?_
  refine mj_callV E.h zGood (ev_Md_option0 l D cA st T.n T.ck T.rc T.tr T.al T.th T.R.op T.R.cs T.R.ct T.R.mk' T.R.lst T.R.spn cz hc6 p4 p5 p6 (lwV p2 p3) hg h0 h6 (T.os (T.rc - 1)).length h3 q2) v_Md_option l_Lw_law_610 d_Lw_law_610 rfl ⟨by decide, by decide⟩ ⟨by omega, by omega⟩ [] rfl rfl rfl rfl rfl rfl (Nat.le_of_ble_eq_true rfl) ?_
  rintro _ _ ⟨rfl, rfl⟩
  refine mj_k rfl rfl ?_
  refine mj_blk E.h.1 b_Lw_law_613 rfl trivial ?_
  refine mj_callV E.h zGood (ev_Md_thrown l D cA _ st _ _ _ _ _) v_Md_thrown l_Lw_law_616 d_Lw_law_616 rfl ⟨by decide, by decide⟩ ⟨by omega, by omega⟩ [] rfl rfl rfl rfl rfl rfl (Nat.le_of_ble_eq_true rfl) ?_
  rintro _ _ ⟨rfl, rfl⟩
  refine mj_k rfl rfl ?_
  refine mj_blk E.h.1 b_Lw_law_619 rfl trivial ?_
  refine lw_eq E rfl d_Lw_law_621 (tgt := 626) (by decide) ?_
  refine mj_blk E.h.1 b_Lw_law_626 rfl trivial ?_
  refine mj_ifne0 E.h.1 (tgt := 643) d_Lw_law_628 (by decide) ?_
  refine mj_blk E.h.1 b_Lw_law_631 rfl trivial ?_
  refine mj_laldo E.h.1 rfl rfl (show vp_in (nI 0) 1 from vp_in_nI (by decide) (by decide)) d_Lw_law_633 ?_
  refine mj_blk E.h.1 b_Lw_law_634 rfl trivial ?_
  refine mj_ifeq E.h.1 (tgt := 643) d_Lw_law_638 (by decide) (fun _ => ?_) (fun h => absurd (lg_cmp0 pk_uLs) h)
  refine mj_blk E.h.1 b_Lw_law_643 rfl trivial ?_
  refine lw_drop ?_
  have I2 : lwI ((T.rc, T.n, T.f, T.ph, T.ch, T.cp, T.sh, T.sp, T.ha, T.lv), (T.tx, T.hd, T.ts, T.hs, T.nx, T.rr, T.bg, T.en, T.rows, T.tot, T.a), (T.k1, T.k2, T.k3, T.k4, T.k5, T.k6, T.k7, T.k8, T.bm, T.bl, T.bt, T.fm, T.fl, T.ft), (0, T.ck, T.us, T.rh, T.rp9, T.rs, T.rq, T.hr), (T.bgn, T.nxR, T.enR, T.sz, T.txR, T.hl, T.hb, T.tr, T.al, T.ra, T.lvR, T.pl, T.at9), ((T.R.cp, T.R.sp, T.R.sz, T.R.tx, T.R.rw9, T.R.rp, upd T.R.op (T.rc - 1) (nI ((T.os (T.rc - 1)).length + 1)), upd T.R.cs (3 * (T.rc - 1) + (T.os (T.rc - 1)).length) (nI cz), mCt cz (3 * (T.rc - 1) + (T.os (T.rc - 1)).length) (lwV p2 p3) cz 0 T.R.ct, upd T.R.mk' (3 * (T.rc - 1) + (T.os (T.rc - 1)).length) p4, upd T.R.lst (3 * (T.rc - 1) + (T.os (T.rc - 1)).length) p5, upd T.R.spn (3 * (T.rc - 1) + (T.os (T.rc - 1)).length) p6, va_up T.R.cN (3 * (T.rc - 1) + (T.os (T.rc - 1)).length) cz, va_up T.R.oN (T.rc - 1) ((T.os (T.rc - 1)).length + 1)), T.wy, T.pt, va_up T.os (T.rc - 1) (T.os (T.rc - 1) ++ [uNew cz (lwV p2 p3) p4 p5 p6]), T.N, rCut (100 + 10 * (T.rc - 1)) (101 + 10 * (T.rc - 1)) T.F ++ [(100 + 10 * (T.rc - 1), cRu (101 + 10 * (T.rc - 1)) (T.wy (T.rc - 1)) (T.pt (T.rc - 1)) ((T.os (T.rc - 1)).length + 1)), (101 + 10 * (T.rc - 1), cOs (olOf (T.rc - 1) ((T.os (T.rc - 1)).length + 1))), (102 + 10 * (T.rc - 1) + (T.os (T.rc - 1)).length, cOt (uNew cz (lwV p2 p3) p4 p5 p6))], vp_updL T.g 0 (nI ((T.os (T.rc - 1)).length + 1)).toInt64)) := ⟨I.n1, I.by1, I.rel, u_option I.rul h0 q3 h3 hc1 hc6 (lwV p2 p3) hg.2.2.2.2.1 hg.2.2.2.2.2.1 hg.2.2.2.2.2.2.1 hg.2.2.2.2.2.2.2 rfl, (fun j hj => lw_csU hj (I.cs1 j hj)), (fun j hj => lw_cNU (x := (3 * (T.rc - 1) + (T.os (T.rc - 1)).length)) hc6 (I.cs2 j hj)), hF2⟩
  exact lw_end E k I2 (by omega) (by omega)
theorem lw_num6 {k : Int32} (h1 : ¬ k < 1) (h2 : ¬ 6 < k) : ∃ j : Nat, 1 ≤ j ∧ j ≤ 6 ∧ k = nI j := by
  obtain ⟨j, a, b, e⟩ := qNum h1 (fun h => h2 (by rw [Int32.lt_iff_toInt_lt] at h ⊢; have : (8 : Int32).toInt = 8 := by decide
                                                  have : (6 : Int32).toInt = 6 := by decide
                                                  omega))
  refine ⟨j, a, ?_, e⟩
  rw [e, show (6 : Int32) = nI 6 from rfl, nI_ltI (by omega) (by omega)] at h2
  omega
set_option maxRecDepth 100000 in
set_option maxHeartbeats 8000000 in
theorem lw_option {st : Bool} {X : mj_X} {l : Launch} {D : va_G} {cA : Nat → ClassId} {L n0 : Nat} {xs : Nat → Int32} (E : lwE X l D cA L xs n0) {i : Nat} (hi : i + 8 ≤ L) (k : lwG st X (i + 8)) {T : lwT} (I : lwI T) {p1 p2 p3 p4 p5 p6 : Int32} (e1 : xs (i + 1) = p1) (e2 : xs (i + 2) = p2) (e3 : xs (i + 3) = p3) (e4 : xs (i + 4) = p4) (e5 : xs (i + 5) = p5) (e6 : xs (i + 6) = p6) : mj_W zG X (100 + i) (4000 + i) 508 (lwL i) [] (lwF st T ++ lwR T) := by
  have hL := E.hL
  by_cases hg : ¬ p1 < 1 ∧ ¬ 6 < p1 ∧ ¬ p4 < 0 ∧ ¬ 7 < p4 ∧ ¬ p5 < -80 ∧ ¬ 80 < p5 ∧ ¬ p6 < 0 ∧ p6 ≤ 80
  · by_cases h0 : T.rc = 0
    · exact lw_option_0 E hi k I e1 e2 e3 e4 e5 e6 hg h0
    · have h3 := (lw_last I (by omega)).1
      by_cases h4 : (T.os (T.rc - 1)).length = 3
      · exact lw_option_3 E hi k I e1 e2 e3 e4 e5 e6 hg (by omega) h4
      · obtain ⟨cz, hc1, hc6, rfl⟩ := lw_num6 hg.1 hg.2.1
        exact lw_option_g E hi k I hc1 hc6 e1 e2 e3 e4 e5 e6 hg (by omega) (by omega)
  · exact lw_option_b E hi k I e1 e2 e3 e4 e5 e6 hg
