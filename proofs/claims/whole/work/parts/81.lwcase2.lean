/-! The law's loop: flow, stream, text (by program: wip/whole/src_law.py) -/
theorem lw_hu {T : lwT} (I : lwI T) {j : Nat} (hj : j < 4) : T.lv j = true ↔ ¬ T.us j = 0 := (I.rel.2.1 j hj).2.2.2.2.2.1
theorem lw_out {k : Int32} {us : Nat → Int32} (hk : k < 0 ∨ 4 ≤ k) : ¬ (¬ k < 0 ∧ ¬ 4 ≤ k ∧ ¬ us k.toNatClampNeg = 0) := fun h => hk.elim h.1 h.2.1
theorem lw_dead {us : Nat → Int32} {j : Nat} (hj : j < 4) (hu : us j = 0) : ¬ (¬ nI j < 0 ∧ ¬ 4 ≤ nI j ∧ ¬ us (nI j).toNatClampNeg = 0) := fun h => h.2.2 (by rw [nI_clamp (by omega)]; exact hu)
theorem lw_us0 {T : lwT} (I : lwI T) {j : Nat} (hj : j < 4) (hl : ¬ T.lv j = true) : T.us j = 0 := Decidable.byContradiction (fun h => hl ((lw_hu I hj).mpr h))
set_option maxRecDepth 100000 in
set_option maxHeartbeats 8000000 in
theorem lw_flow_0 {st : Bool} {X : mj_X} {l : Launch} {D : va_G} {cA : Nat → ClassId} {L n0 : Nat} {xs : Nat → Int32} (E : lwE X l D cA L xs n0) {i : Nat} (hi : i + 8 ≤ L) (k : lwG st X (i + 8)) {T : lwT} (I : lwI T) (e1 : xs (i + 1) = nI 0) {p2 : Int32} (e2 : xs (i + 2) = p2) : mj_W zG X (100 + i) (4000 + i) 646 (lwL i) [] (lwF st T ++ lwR T) := by
  have hL := E.hL
  by_cases hl : T.lv 0 = true
  · have hu := (lw_hu I (by decide)).mp hl
    refine mj_blk E.h.1 b_Lw_law_646 rfl trivial ?_
    refine mj_sl2 E.h.1 E.sp E.hL (k := 1) rfl (by omega) e1 d_Lw_law_652 ?_
    refine mj_blk E.h.1 b_Lw_law_653 rfl trivial ?_
    refine mj_sl2 E.h.1 E.sp E.hL (k := 2) rfl (by omega) e2 d_Lw_law_658 ?_
    refine mj_callV E.h zGood (ev_Sw_flow_0 l D cA st T.rc T.ph T.ch T.cp T.sh T.sp T.ha T.lv p2) v_Sw_flow l_Lw_law_659 d_Lw_law_659 rfl ⟨by decide, by decide⟩ ⟨by omega, by omega⟩ [] rfl rfl rfl rfl rfl rfl (Nat.le_of_ble_eq_true rfl) ?_
    rintro _ _ ⟨rfl, rfl⟩
    refine mj_k rfl rfl ?_
    refine mj_blk E.h.1 b_Lw_law_662 rfl trivial ?_
    refine mj_sl2 E.h.1 E.sp E.hL (k := 1) rfl (by omega) e1 d_Lw_law_668 ?_
    refine mj_blk E.h.1 b_Lw_law_669 rfl trivial ?_
    refine mj_sl2 E.h.1 E.sp E.hL (k := 2) rfl (by omega) e2 d_Lw_law_674 ?_
    refine mj_callV E.h zGood (ev_Md_flow1 l D cA T.th st T.n T.ck T.rc T.tr T.al T.us T.rh T.rp9 T.rs T.rq T.hr 0 (by decide) hu p2) v_Md_flow l_Lw_law_675 d_Lw_law_675 rfl ⟨by decide, by decide⟩ ⟨by omega, by omega⟩ [] rfl rfl rfl rfl rfl rfl (Nat.le_of_ble_eq_true rfl) ?_
    rintro _ _ ⟨rfl, rfl⟩
    refine mj_k rfl rfl ?_
    refine lw_eq E (u_flow (fun j hj => ⟨(I.rel.2.1 j hj).1, (I.rel.2.1 j hj).2.1, (I.rel.2.1 j hj).2.2.1, (I.rel.2.1 j hj).2.2.2.1, (I.rel.2.1 j hj).2.2.2.2.1, lw_hu I hj⟩) (by decide) hl p2) d_Lw_law_678 (tgt := 831) (by decide) ?_
    have I2 : lwI ((T.rc, T.n, T.f, T.ph, T.ch, T.cp, T.sh, T.sp, T.ha, T.lv), (T.tx, T.hd, T.ts, T.hs, T.nx, T.rr, T.bg, T.en, T.rows, T.tot, T.a), (T.k1, T.k2, T.k3, T.k4, T.k5, T.k6, T.k7, T.k8, T.bm, T.bl, T.bt, T.fm, T.fl, T.ft), (0, T.ck, T.us, T.rh, T.rp9, T.rs, T.rq, T.hr), (T.bgn, T.nxR, T.enR, T.sz, T.txR, T.hl, T.hb, T.tr, T.al, T.ra, T.lvR, T.pl, T.at9), (T.R, T.wy, T.pt, T.os, T.N, T.F, T.g)) := ⟨I.n1, I.by1, I.rel, I.rul, I.cs1, I.cs2, I.fr1⟩
    exact lw_end E k I2 (by omega) (by omega)
  · have hu := lw_us0 I (by decide) hl
    refine mj_blk E.h.1 b_Lw_law_646 rfl trivial ?_
    refine mj_sl2 E.h.1 E.sp E.hL (k := 1) rfl (by omega) e1 d_Lw_law_652 ?_
    refine mj_blk E.h.1 b_Lw_law_653 rfl trivial ?_
    refine mj_sl2 E.h.1 E.sp E.hL (k := 2) rfl (by omega) e2 d_Lw_law_658 ?_
    refine mj_callV E.h zGood (ev_Sw_flow_0 l D cA st T.rc T.ph T.ch T.cp T.sh T.sp T.ha T.lv p2) v_Sw_flow l_Lw_law_659 d_Lw_law_659 rfl ⟨by decide, by decide⟩ ⟨by omega, by omega⟩ [] rfl rfl rfl rfl rfl rfl (Nat.le_of_ble_eq_true rfl) ?_
    rintro _ _ ⟨rfl, rfl⟩
    refine mj_k rfl rfl ?_
    refine mj_blk E.h.1 b_Lw_law_662 rfl trivial ?_
    refine mj_sl2 E.h.1 E.sp E.hL (k := 1) rfl (by omega) e1 d_Lw_law_668 ?_
    refine mj_blk E.h.1 b_Lw_law_669 rfl trivial ?_
    refine mj_sl2 E.h.1 E.sp E.hL (k := 2) rfl (by omega) e2 d_Lw_law_674 ?_
    refine mj_callV E.h zGood (ev_Md_flow0 l D cA T.th st T.n T.ck T.rc T.tr T.al T.us T.rh T.rp9 T.rs T.rq T.hr (nI 0) (lw_dead (by decide) hu) p2) v_Md_flow l_Lw_law_675 d_Lw_law_675 rfl ⟨by decide, by decide⟩ ⟨by omega, by omega⟩ [] rfl rfl rfl rfl rfl rfl (Nat.le_of_ble_eq_true rfl) ?_
    rintro _ _ ⟨rfl, rfl⟩
    refine mj_k rfl rfl ?_
    refine lw_eq E (by unfold qFlow; rw [if_neg hl]) d_Lw_law_678 (tgt := 831) (by decide) ?_
    have I2 : lwI ((T.rc, T.n, T.f, T.ph, T.ch, T.cp, T.sh, T.sp, T.ha, T.lv), (T.tx, T.hd, T.ts, T.hs, T.nx, T.rr, T.bg, T.en, T.rows, T.tot, T.a), (T.k1, T.k2, T.k3, T.k4, T.k5, T.k6, T.k7, T.k8, T.bm, T.bl, T.bt, T.fm, T.fl, T.ft), (0, T.ck, T.us, T.rh, T.rp9, T.rs, T.rq, T.hr), (T.bgn, T.nxR, T.enR, T.sz, T.txR, T.hl, T.hb, T.tr, T.al, T.ra, T.lvR, T.pl, T.at9), (T.R, T.wy, T.pt, T.os, T.N, T.F, T.g)) := ⟨I.n1, I.by1, I.rel, I.rul, I.cs1, I.cs2, I.fr1⟩
    exact lw_end E k I2 (by omega) (by omega)
set_option maxRecDepth 100000 in
set_option maxHeartbeats 8000000 in
theorem lw_flow_1 {st : Bool} {X : mj_X} {l : Launch} {D : va_G} {cA : Nat → ClassId} {L n0 : Nat} {xs : Nat → Int32} (E : lwE X l D cA L xs n0) {i : Nat} (hi : i + 8 ≤ L) (k : lwG st X (i + 8)) {T : lwT} (I : lwI T) (e1 : xs (i + 1) = nI 1) {p2 : Int32} (e2 : xs (i + 2) = p2) : mj_W zG X (100 + i) (4000 + i) 646 (lwL i) [] (lwF st T ++ lwR T) := by
  have hL := E.hL
  by_cases hl : T.lv 1 = true
  · have hu := (lw_hu I (by decide)).mp hl
    refine mj_blk E.h.1 b_Lw_law_646 rfl trivial ?_
    refine mj_sl2 E.h.1 E.sp E.hL (k := 1) rfl (by omega) e1 d_Lw_law_652 ?_
    refine mj_blk E.h.1 b_Lw_law_653 rfl trivial ?_
    refine mj_sl2 E.h.1 E.sp E.hL (k := 2) rfl (by omega) e2 d_Lw_law_658 ?_
    refine mj_callV E.h zGood (ev_Sw_flow_1 l D cA st T.rc T.ph T.ch T.cp T.sh T.sp T.ha T.lv p2) v_Sw_flow l_Lw_law_659 d_Lw_law_659 rfl ⟨by decide, by decide⟩ ⟨by omega, by omega⟩ [] rfl rfl rfl rfl rfl rfl (Nat.le_of_ble_eq_true rfl) ?_
    rintro _ _ ⟨rfl, rfl⟩
    refine mj_k rfl rfl ?_
    refine mj_blk E.h.1 b_Lw_law_662 rfl trivial ?_
    refine mj_sl2 E.h.1 E.sp E.hL (k := 1) rfl (by omega) e1 d_Lw_law_668 ?_
    refine mj_blk E.h.1 b_Lw_law_669 rfl trivial ?_
    refine mj_sl2 E.h.1 E.sp E.hL (k := 2) rfl (by omega) e2 d_Lw_law_674 ?_
    refine mj_callV E.h zGood (ev_Md_flow1 l D cA T.th st T.n T.ck T.rc T.tr T.al T.us T.rh T.rp9 T.rs T.rq T.hr 1 (by decide) hu p2) v_Md_flow l_Lw_law_675 d_Lw_law_675 rfl ⟨by decide, by decide⟩ ⟨by omega, by omega⟩ [] rfl rfl rfl rfl rfl rfl (Nat.le_of_ble_eq_true rfl) ?_
    rintro _ _ ⟨rfl, rfl⟩
    refine mj_k rfl rfl ?_
    refine lw_eq E (u_flow (fun j hj => ⟨(I.rel.2.1 j hj).1, (I.rel.2.1 j hj).2.1, (I.rel.2.1 j hj).2.2.1, (I.rel.2.1 j hj).2.2.2.1, (I.rel.2.1 j hj).2.2.2.2.1, lw_hu I hj⟩) (by decide) hl p2) d_Lw_law_678 (tgt := 831) (by decide) ?_
    have I2 : lwI ((T.rc, T.n, T.f, T.ph, T.ch, T.cp, T.sh, T.sp, T.ha, T.lv), (T.tx, T.hd, T.ts, T.hs, T.nx, T.rr, T.bg, T.en, T.rows, T.tot, T.a), (T.k1, T.k2, T.k3, T.k4, T.k5, T.k6, T.k7, T.k8, T.bm, T.bl, T.bt, T.fm, T.fl, T.ft), (0, T.ck, T.us, T.rh, T.rp9, T.rs, T.rq, T.hr), (T.bgn, T.nxR, T.enR, T.sz, T.txR, T.hl, T.hb, T.tr, T.al, T.ra, T.lvR, T.pl, T.at9), (T.R, T.wy, T.pt, T.os, T.N, T.F, T.g)) := ⟨I.n1, I.by1, I.rel, I.rul, I.cs1, I.cs2, I.fr1⟩
    exact lw_end E k I2 (by omega) (by omega)
  · have hu := lw_us0 I (by decide) hl
    refine mj_blk E.h.1 b_Lw_law_646 rfl trivial ?_
    refine mj_sl2 E.h.1 E.sp E.hL (k := 1) rfl (by omega) e1 d_Lw_law_652 ?_
    refine mj_blk E.h.1 b_Lw_law_653 rfl trivial ?_
    refine mj_sl2 E.h.1 E.sp E.hL (k := 2) rfl (by omega) e2 d_Lw_law_658 ?_
    refine mj_callV E.h zGood (ev_Sw_flow_1 l D cA st T.rc T.ph T.ch T.cp T.sh T.sp T.ha T.lv p2) v_Sw_flow l_Lw_law_659 d_Lw_law_659 rfl ⟨by decide, by decide⟩ ⟨by omega, by omega⟩ [] rfl rfl rfl rfl rfl rfl (Nat.le_of_ble_eq_true rfl) ?_
    rintro _ _ ⟨rfl, rfl⟩
    refine mj_k rfl rfl ?_
    refine mj_blk E.h.1 b_Lw_law_662 rfl trivial ?_
    refine mj_sl2 E.h.1 E.sp E.hL (k := 1) rfl (by omega) e1 d_Lw_law_668 ?_
    refine mj_blk E.h.1 b_Lw_law_669 rfl trivial ?_
    refine mj_sl2 E.h.1 E.sp E.hL (k := 2) rfl (by omega) e2 d_Lw_law_674 ?_
    refine mj_callV E.h zGood (ev_Md_flow0 l D cA T.th st T.n T.ck T.rc T.tr T.al T.us T.rh T.rp9 T.rs T.rq T.hr (nI 1) (lw_dead (by decide) hu) p2) v_Md_flow l_Lw_law_675 d_Lw_law_675 rfl ⟨by decide, by decide⟩ ⟨by omega, by omega⟩ [] rfl rfl rfl rfl rfl rfl (Nat.le_of_ble_eq_true rfl) ?_
    rintro _ _ ⟨rfl, rfl⟩
    refine mj_k rfl rfl ?_
    refine lw_eq E (by unfold qFlow; rw [if_neg hl]) d_Lw_law_678 (tgt := 831) (by decide) ?_
    have I2 : lwI ((T.rc, T.n, T.f, T.ph, T.ch, T.cp, T.sh, T.sp, T.ha, T.lv), (T.tx, T.hd, T.ts, T.hs, T.nx, T.rr, T.bg, T.en, T.rows, T.tot, T.a), (T.k1, T.k2, T.k3, T.k4, T.k5, T.k6, T.k7, T.k8, T.bm, T.bl, T.bt, T.fm, T.fl, T.ft), (0, T.ck, T.us, T.rh, T.rp9, T.rs, T.rq, T.hr), (T.bgn, T.nxR, T.enR, T.sz, T.txR, T.hl, T.hb, T.tr, T.al, T.ra, T.lvR, T.pl, T.at9), (T.R, T.wy, T.pt, T.os, T.N, T.F, T.g)) := ⟨I.n1, I.by1, I.rel, I.rul, I.cs1, I.cs2, I.fr1⟩
    exact lw_end E k I2 (by omega) (by omega)
set_option maxRecDepth 100000 in
set_option maxHeartbeats 8000000 in
theorem lw_flow_2 {st : Bool} {X : mj_X} {l : Launch} {D : va_G} {cA : Nat → ClassId} {L n0 : Nat} {xs : Nat → Int32} (E : lwE X l D cA L xs n0) {i : Nat} (hi : i + 8 ≤ L) (k : lwG st X (i + 8)) {T : lwT} (I : lwI T) (e1 : xs (i + 1) = nI 2) {p2 : Int32} (e2 : xs (i + 2) = p2) : mj_W zG X (100 + i) (4000 + i) 646 (lwL i) [] (lwF st T ++ lwR T) := by
  have hL := E.hL
  by_cases hl : T.lv 2 = true
  · have hu := (lw_hu I (by decide)).mp hl
    refine mj_blk E.h.1 b_Lw_law_646 rfl trivial ?_
    refine mj_sl2 E.h.1 E.sp E.hL (k := 1) rfl (by omega) e1 d_Lw_law_652 ?_
    refine mj_blk E.h.1 b_Lw_law_653 rfl trivial ?_
    refine mj_sl2 E.h.1 E.sp E.hL (k := 2) rfl (by omega) e2 d_Lw_law_658 ?_
    refine mj_callV E.h zGood (ev_Sw_flow_2 l D cA st T.rc T.ph T.ch T.cp T.sh T.sp T.ha T.lv p2) v_Sw_flow l_Lw_law_659 d_Lw_law_659 rfl ⟨by decide, by decide⟩ ⟨by omega, by omega⟩ [] rfl rfl rfl rfl rfl rfl (Nat.le_of_ble_eq_true rfl) ?_
    rintro _ _ ⟨rfl, rfl⟩
    refine mj_k rfl rfl ?_
    refine mj_blk E.h.1 b_Lw_law_662 rfl trivial ?_
    refine mj_sl2 E.h.1 E.sp E.hL (k := 1) rfl (by omega) e1 d_Lw_law_668 ?_
    refine mj_blk E.h.1 b_Lw_law_669 rfl trivial ?_
    refine mj_sl2 E.h.1 E.sp E.hL (k := 2) rfl (by omega) e2 d_Lw_law_674 ?_
    refine mj_callV E.h zGood (ev_Md_flow1 l D cA T.th st T.n T.ck T.rc T.tr T.al T.us T.rh T.rp9 T.rs T.rq T.hr 2 (by decide) hu p2) v_Md_flow l_Lw_law_675 d_Lw_law_675 rfl ⟨by decide, by decide⟩ ⟨by omega, by omega⟩ [] rfl rfl rfl rfl rfl rfl (Nat.le_of_ble_eq_true rfl) ?_
    rintro _ _ ⟨rfl, rfl⟩
    refine mj_k rfl rfl ?_
    refine lw_eq E (u_flow (fun j hj => ⟨(I.rel.2.1 j hj).1, (I.rel.2.1 j hj).2.1, (I.rel.2.1 j hj).2.2.1, (I.rel.2.1 j hj).2.2.2.1, (I.rel.2.1 j hj).2.2.2.2.1, lw_hu I hj⟩) (by decide) hl p2) d_Lw_law_678 (tgt := 831) (by decide) ?_
    have I2 : lwI ((T.rc, T.n, T.f, T.ph, T.ch, T.cp, T.sh, T.sp, T.ha, T.lv), (T.tx, T.hd, T.ts, T.hs, T.nx, T.rr, T.bg, T.en, T.rows, T.tot, T.a), (T.k1, T.k2, T.k3, T.k4, T.k5, T.k6, T.k7, T.k8, T.bm, T.bl, T.bt, T.fm, T.fl, T.ft), (0, T.ck, T.us, T.rh, T.rp9, T.rs, T.rq, T.hr), (T.bgn, T.nxR, T.enR, T.sz, T.txR, T.hl, T.hb, T.tr, T.al, T.ra, T.lvR, T.pl, T.at9), (T.R, T.wy, T.pt, T.os, T.N, T.F, T.g)) := ⟨I.n1, I.by1, I.rel, I.rul, I.cs1, I.cs2, I.fr1⟩
    exact lw_end E k I2 (by omega) (by omega)
  · have hu := lw_us0 I (by decide) hl
    refine mj_blk E.h.1 b_Lw_law_646 rfl trivial ?_
    refine mj_sl2 E.h.1 E.sp E.hL (k := 1) rfl (by omega) e1 d_Lw_law_652 ?_
    refine mj_blk E.h.1 b_Lw_law_653 rfl trivial ?_
    refine mj_sl2 E.h.1 E.sp E.hL (k := 2) rfl (by omega) e2 d_Lw_law_658 ?_
    refine mj_callV E.h zGood (ev_Sw_flow_2 l D cA st T.rc T.ph T.ch T.cp T.sh T.sp T.ha T.lv p2) v_Sw_flow l_Lw_law_659 d_Lw_law_659 rfl ⟨by decide, by decide⟩ ⟨by omega, by omega⟩ [] rfl rfl rfl rfl rfl rfl (Nat.le_of_ble_eq_true rfl) ?_
    rintro _ _ ⟨rfl, rfl⟩
    refine mj_k rfl rfl ?_
    refine mj_blk E.h.1 b_Lw_law_662 rfl trivial ?_
    refine mj_sl2 E.h.1 E.sp E.hL (k := 1) rfl (by omega) e1 d_Lw_law_668 ?_
    refine mj_blk E.h.1 b_Lw_law_669 rfl trivial ?_
    refine mj_sl2 E.h.1 E.sp E.hL (k := 2) rfl (by omega) e2 d_Lw_law_674 ?_
    refine mj_callV E.h zGood (ev_Md_flow0 l D cA T.th st T.n T.ck T.rc T.tr T.al T.us T.rh T.rp9 T.rs T.rq T.hr (nI 2) (lw_dead (by decide) hu) p2) v_Md_flow l_Lw_law_675 d_Lw_law_675 rfl ⟨by decide, by decide⟩ ⟨by omega, by omega⟩ [] rfl rfl rfl rfl rfl rfl (Nat.le_of_ble_eq_true rfl) ?_
    rintro _ _ ⟨rfl, rfl⟩
    refine mj_k rfl rfl ?_
    refine lw_eq E (by unfold qFlow; rw [if_neg hl]) d_Lw_law_678 (tgt := 831) (by decide) ?_
    have I2 : lwI ((T.rc, T.n, T.f, T.ph, T.ch, T.cp, T.sh, T.sp, T.ha, T.lv), (T.tx, T.hd, T.ts, T.hs, T.nx, T.rr, T.bg, T.en, T.rows, T.tot, T.a), (T.k1, T.k2, T.k3, T.k4, T.k5, T.k6, T.k7, T.k8, T.bm, T.bl, T.bt, T.fm, T.fl, T.ft), (0, T.ck, T.us, T.rh, T.rp9, T.rs, T.rq, T.hr), (T.bgn, T.nxR, T.enR, T.sz, T.txR, T.hl, T.hb, T.tr, T.al, T.ra, T.lvR, T.pl, T.at9), (T.R, T.wy, T.pt, T.os, T.N, T.F, T.g)) := ⟨I.n1, I.by1, I.rel, I.rul, I.cs1, I.cs2, I.fr1⟩
    exact lw_end E k I2 (by omega) (by omega)
set_option maxRecDepth 100000 in
set_option maxHeartbeats 8000000 in
theorem lw_flow_3 {st : Bool} {X : mj_X} {l : Launch} {D : va_G} {cA : Nat → ClassId} {L n0 : Nat} {xs : Nat → Int32} (E : lwE X l D cA L xs n0) {i : Nat} (hi : i + 8 ≤ L) (k : lwG st X (i + 8)) {T : lwT} (I : lwI T) (e1 : xs (i + 1) = nI 3) {p2 : Int32} (e2 : xs (i + 2) = p2) : mj_W zG X (100 + i) (4000 + i) 646 (lwL i) [] (lwF st T ++ lwR T) := by
  have hL := E.hL
  by_cases hl : T.lv 3 = true
  · have hu := (lw_hu I (by decide)).mp hl
    refine mj_blk E.h.1 b_Lw_law_646 rfl trivial ?_
    refine mj_sl2 E.h.1 E.sp E.hL (k := 1) rfl (by omega) e1 d_Lw_law_652 ?_
    refine mj_blk E.h.1 b_Lw_law_653 rfl trivial ?_
    refine mj_sl2 E.h.1 E.sp E.hL (k := 2) rfl (by omega) e2 d_Lw_law_658 ?_
    refine mj_callV E.h zGood (ev_Sw_flow_3 l D cA st T.rc T.ph T.ch T.cp T.sh T.sp T.ha T.lv p2) v_Sw_flow l_Lw_law_659 d_Lw_law_659 rfl ⟨by decide, by decide⟩ ⟨by omega, by omega⟩ [] rfl rfl rfl rfl rfl rfl (Nat.le_of_ble_eq_true rfl) ?_
    rintro _ _ ⟨rfl, rfl⟩
    refine mj_k rfl rfl ?_
    refine mj_blk E.h.1 b_Lw_law_662 rfl trivial ?_
    refine mj_sl2 E.h.1 E.sp E.hL (k := 1) rfl (by omega) e1 d_Lw_law_668 ?_
    refine mj_blk E.h.1 b_Lw_law_669 rfl trivial ?_
    refine mj_sl2 E.h.1 E.sp E.hL (k := 2) rfl (by omega) e2 d_Lw_law_674 ?_
    refine mj_callV E.h zGood (ev_Md_flow1 l D cA T.th st T.n T.ck T.rc T.tr T.al T.us T.rh T.rp9 T.rs T.rq T.hr 3 (by decide) hu p2) v_Md_flow l_Lw_law_675 d_Lw_law_675 rfl ⟨by decide, by decide⟩ ⟨by omega, by omega⟩ [] rfl rfl rfl rfl rfl rfl (Nat.le_of_ble_eq_true rfl) ?_
    rintro _ _ ⟨rfl, rfl⟩
    refine mj_k rfl rfl ?_
    refine lw_eq E (u_flow (fun j hj => ⟨(I.rel.2.1 j hj).1, (I.rel.2.1 j hj).2.1, (I.rel.2.1 j hj).2.2.1, (I.rel.2.1 j hj).2.2.2.1, (I.rel.2.1 j hj).2.2.2.2.1, lw_hu I hj⟩) (by decide) hl p2) d_Lw_law_678 (tgt := 831) (by decide) ?_
    have I2 : lwI ((T.rc, T.n, T.f, T.ph, T.ch, T.cp, T.sh, T.sp, T.ha, T.lv), (T.tx, T.hd, T.ts, T.hs, T.nx, T.rr, T.bg, T.en, T.rows, T.tot, T.a), (T.k1, T.k2, T.k3, T.k4, T.k5, T.k6, T.k7, T.k8, T.bm, T.bl, T.bt, T.fm, T.fl, T.ft), (0, T.ck, T.us, T.rh, T.rp9, T.rs, T.rq, T.hr), (T.bgn, T.nxR, T.enR, T.sz, T.txR, T.hl, T.hb, T.tr, T.al, T.ra, T.lvR, T.pl, T.at9), (T.R, T.wy, T.pt, T.os, T.N, T.F, T.g)) := ⟨I.n1, I.by1, I.rel, I.rul, I.cs1, I.cs2, I.fr1⟩
    exact lw_end E k I2 (by omega) (by omega)
  · have hu := lw_us0 I (by decide) hl
    refine mj_blk E.h.1 b_Lw_law_646 rfl trivial ?_
    refine mj_sl2 E.h.1 E.sp E.hL (k := 1) rfl (by omega) e1 d_Lw_law_652 ?_
    refine mj_blk E.h.1 b_Lw_law_653 rfl trivial ?_
    refine mj_sl2 E.h.1 E.sp E.hL (k := 2) rfl (by omega) e2 d_Lw_law_658 ?_
    refine mj_callV E.h zGood (ev_Sw_flow_3 l D cA st T.rc T.ph T.ch T.cp T.sh T.sp T.ha T.lv p2) v_Sw_flow l_Lw_law_659 d_Lw_law_659 rfl ⟨by decide, by decide⟩ ⟨by omega, by omega⟩ [] rfl rfl rfl rfl rfl rfl (Nat.le_of_ble_eq_true rfl) ?_
    rintro _ _ ⟨rfl, rfl⟩
    refine mj_k rfl rfl ?_
    refine mj_blk E.h.1 b_Lw_law_662 rfl trivial ?_
    refine mj_sl2 E.h.1 E.sp E.hL (k := 1) rfl (by omega) e1 d_Lw_law_668 ?_
    refine mj_blk E.h.1 b_Lw_law_669 rfl trivial ?_
    refine mj_sl2 E.h.1 E.sp E.hL (k := 2) rfl (by omega) e2 d_Lw_law_674 ?_
    refine mj_callV E.h zGood (ev_Md_flow0 l D cA T.th st T.n T.ck T.rc T.tr T.al T.us T.rh T.rp9 T.rs T.rq T.hr (nI 3) (lw_dead (by decide) hu) p2) v_Md_flow l_Lw_law_675 d_Lw_law_675 rfl ⟨by decide, by decide⟩ ⟨by omega, by omega⟩ [] rfl rfl rfl rfl rfl rfl (Nat.le_of_ble_eq_true rfl) ?_
    rintro _ _ ⟨rfl, rfl⟩
    refine mj_k rfl rfl ?_
    refine lw_eq E (by unfold qFlow; rw [if_neg hl]) d_Lw_law_678 (tgt := 831) (by decide) ?_
    have I2 : lwI ((T.rc, T.n, T.f, T.ph, T.ch, T.cp, T.sh, T.sp, T.ha, T.lv), (T.tx, T.hd, T.ts, T.hs, T.nx, T.rr, T.bg, T.en, T.rows, T.tot, T.a), (T.k1, T.k2, T.k3, T.k4, T.k5, T.k6, T.k7, T.k8, T.bm, T.bl, T.bt, T.fm, T.fl, T.ft), (0, T.ck, T.us, T.rh, T.rp9, T.rs, T.rq, T.hr), (T.bgn, T.nxR, T.enR, T.sz, T.txR, T.hl, T.hb, T.tr, T.al, T.ra, T.lvR, T.pl, T.at9), (T.R, T.wy, T.pt, T.os, T.N, T.F, T.g)) := ⟨I.n1, I.by1, I.rel, I.rul, I.cs1, I.cs2, I.fr1⟩
    exact lw_end E k I2 (by omega) (by omega)
set_option maxRecDepth 100000 in
set_option maxHeartbeats 8000000 in
theorem lw_flow_N {st : Bool} {X : mj_X} {l : Launch} {D : va_G} {cA : Nat → ClassId} {L n0 : Nat} {xs : Nat → Int32} (E : lwE X l D cA L xs n0) {i : Nat} (hi : i + 8 ≤ L) (k : lwG st X (i + 8)) {T : lwT} (I : lwI T) {p1 : Int32} (e1 : xs (i + 1) = p1) {p2 : Int32} (e2 : xs (i + 2) = p2) (hk : p1 < 0 ∨ 4 ≤ p1) : mj_W zG X (100 + i) (4000 + i) 646 (lwL i) [] (lwF st T ++ lwR T) := by
  have hL := E.hL
  refine mj_blk E.h.1 b_Lw_law_646 rfl trivial ?_
  refine mj_sl2 E.h.1 E.sp E.hL (k := 1) rfl (by omega) e1 d_Lw_law_652 ?_
  refine mj_blk E.h.1 b_Lw_law_653 rfl trivial ?_
  refine mj_sl2 E.h.1 E.sp E.hL (k := 2) rfl (by omega) e2 d_Lw_law_658 ?_
  refine mj_callV E.h zGood (ev_Sw_flow_N l D cA st T.rc T.ph T.ch T.cp T.sh T.sp T.ha T.lv p1 hk p2) v_Sw_flow l_Lw_law_659 d_Lw_law_659 rfl ⟨by decide, by decide⟩ ⟨by omega, by omega⟩ [] rfl rfl rfl rfl rfl rfl (Nat.le_of_ble_eq_true rfl) ?_
  rintro _ _ ⟨rfl, rfl⟩
  refine mj_k rfl rfl ?_
  refine mj_blk E.h.1 b_Lw_law_662 rfl trivial ?_
  refine mj_sl2 E.h.1 E.sp E.hL (k := 1) rfl (by omega) e1 d_Lw_law_668 ?_
  refine mj_blk E.h.1 b_Lw_law_669 rfl trivial ?_
  refine mj_sl2 E.h.1 E.sp E.hL (k := 2) rfl (by omega) e2 d_Lw_law_674 ?_
  refine mj_callV E.h zGood (ev_Md_flow0 l D cA T.th st T.n T.ck T.rc T.tr T.al T.us T.rh T.rp9 T.rs T.rq T.hr p1 (lw_out hk) p2) v_Md_flow l_Lw_law_675 d_Lw_law_675 rfl ⟨by decide, by decide⟩ ⟨by omega, by omega⟩ [] rfl rfl rfl rfl rfl rfl (Nat.le_of_ble_eq_true rfl) ?_
  rintro _ _ ⟨rfl, rfl⟩
  refine mj_k rfl rfl ?_
  refine lw_eq E (rfl) d_Lw_law_678 (tgt := 831) (by decide) ?_
  have I2 : lwI ((T.rc, T.n, T.f, T.ph, T.ch, T.cp, T.sh, T.sp, T.ha, T.lv), (T.tx, T.hd, T.ts, T.hs, T.nx, T.rr, T.bg, T.en, T.rows, T.tot, T.a), (T.k1, T.k2, T.k3, T.k4, T.k5, T.k6, T.k7, T.k8, T.bm, T.bl, T.bt, T.fm, T.fl, T.ft), (0, T.ck, T.us, T.rh, T.rp9, T.rs, T.rq, T.hr), (T.bgn, T.nxR, T.enR, T.sz, T.txR, T.hl, T.hb, T.tr, T.al, T.ra, T.lvR, T.pl, T.at9), (T.R, T.wy, T.pt, T.os, T.N, T.F, T.g)) := ⟨I.n1, I.by1, I.rel, I.rul, I.cs1, I.cs2, I.fr1⟩
  exact lw_end E k I2 (by omega) (by omega)
set_option maxRecDepth 100000 in
set_option maxHeartbeats 8000000 in
theorem lw_flow {st : Bool} {X : mj_X} {l : Launch} {D : va_G} {cA : Nat → ClassId} {L n0 : Nat} {xs : Nat → Int32} (E : lwE X l D cA L xs n0) {i : Nat} (hi : i + 8 ≤ L) (k : lwG st X (i + 8)) {T : lwT} (I : lwI T) {p1 p2 : Int32} (e1 : xs (i + 1) = p1) (e2 : xs (i + 2) = p2) : mj_W zG X (100 + i) (4000 + i) 646 (lwL i) [] (lwF st T ++ lwR T) := by
  have hL := E.hL
  rcases pk_ix p1 (n := 4) (by decide) with h1 | h1 | ⟨j, hj, rfl⟩
  · exact lw_flow_N E hi k I e1 e2 (Or.inl h1)
  · exact lw_flow_N E hi k I e1 e2 (Or.inr h1)
  · match j, hj with
    | 0, _ => exact lw_flow_0 E hi k I e1 e2
    | 1, _ => exact lw_flow_1 E hi k I e1 e2
    | 2, _ => exact lw_flow_2 E hi k I e1 e2
    | 3, _ => exact lw_flow_3 E hi k I e1 e2
    | j + 4, hj => omega
set_option maxRecDepth 100000 in
set_option maxHeartbeats 8000000 in
theorem lw_stream_0_0 {st : Bool} {X : mj_X} {l : Launch} {D : va_G} {cA : Nat → ClassId} {L n0 : Nat} {xs : Nat → Int32} (E : lwE X l D cA L xs n0) {i : Nat} (hi : i + 8 ≤ L) (k : lwG st X (i + 8)) {T : lwT} (I : lwI T) (e1 : xs (i + 1) = nI 0) (e2 : xs (i + 2) = 0) {p3 : Int32} (e3 : xs (i + 3) = p3) (hl : T.lv 0 = true) : mj_W zG X (100 + i) (4000 + i) 683 (lwL i) [] (lwF st T ++ lwR T) := by
  have hL := E.hL
  have hu := (lw_hu I (j := 0) (by decide)).mp hl
  refine mj_blk E.h.1 b_Lw_law_683 rfl trivial ?_
  refine mj_sl2 E.h.1 E.sp E.hL (k := 1) rfl (by omega) e1 d_Lw_law_689 ?_
  refine mj_blk E.h.1 b_Lw_law_690 rfl trivial ?_
  refine mj_sl2 E.h.1 E.sp E.hL (k := 2) rfl (by omega) e2 d_Lw_law_695 ?_
  refine mj_blk E.h.1 b_Lw_law_696 rfl trivial ?_
  refine mj_sl2 E.h.1 E.sp E.hL (k := 3) rfl (by omega) e3 d_Lw_law_701 ?_
  refine mj_callV E.h zGood (ev_Sw_stream_0_0 l D cA st T.rc T.ph T.ch T.cp T.sh T.sp T.ha T.lv T.tx T.hd T.ts T.hs T.nx T.rr T.bg T.en hl p3) v_Sw_stream l_Lw_law_702 d_Lw_law_702 rfl ⟨by decide, by decide⟩ ⟨by omega, by omega⟩ [] rfl rfl rfl rfl rfl rfl (Nat.le_of_ble_eq_true rfl) ?_
  rintro _ _ ⟨rfl, rfl⟩
  refine mj_k rfl rfl ?_
  refine mj_blk E.h.1 b_Lw_law_705 rfl trivial ?_
  refine mj_sl2 E.h.1 E.sp E.hL (k := 1) rfl (by omega) e1 d_Lw_law_711 ?_
  refine mj_blk E.h.1 b_Lw_law_712 rfl trivial ?_
  refine mj_sl2 E.h.1 E.sp E.hL (k := 2) rfl (by omega) e2 d_Lw_law_717 ?_
  refine mj_blk E.h.1 b_Lw_law_718 rfl trivial ?_
  refine mj_sl2 E.h.1 E.sp E.hL (k := 3) rfl (by omega) e3 d_Lw_law_723 ?_
  refine mj_callV E.h zGood (ev_Md_stream1 l D cA T.th st T.n T.ck T.rc T.tr T.al T.us T.nxR T.enR T.sz T.hl 0 0 (by decide) (by decide) hu p3) v_Md_stream l_Lw_law_724 d_Lw_law_724 rfl ⟨by decide, by decide⟩ ⟨by omega, by omega⟩ [] rfl rfl rfl rfl rfl rfl (Nat.le_of_ble_eq_true rfl) ?_
  rintro _ _ ⟨rfl, rfl⟩
  refine mj_k rfl rfl ?_
  refine lw_eq E (u_str (t := 0) (I.rel.2.2.1 0 (by decide)) p3) d_Lw_law_727 (tgt := 831) (by decide) ?_
  have I2 : lwI ((T.rc, T.n, T.f, T.ph, T.ch, T.cp, T.sh, T.sp, T.ha, T.lv), (T.tx, T.hd, T.ts, T.hs, T.nx, T.rr, T.bg, T.en, T.rows, T.tot, T.a), (T.k1, T.k2, T.k3, T.k4, T.k5, T.k6, T.k7, T.k8, T.bm, T.bl, T.bt, T.fm, T.fl, T.ft), (0, T.ck, T.us, T.rh, T.rp9, T.rs, T.rq, T.hr), (T.bgn, T.nxR, T.enR, T.sz, T.txR, T.hl, T.hb, T.tr, T.al, T.ra, T.lvR, T.pl, T.at9), (T.R, T.wy, T.pt, T.os, T.N, T.F, T.g)) := ⟨I.n1, I.by1, I.rel, I.rul, I.cs1, I.cs2, I.fr1⟩
  exact lw_end E k I2 (by omega) (by omega)
set_option maxRecDepth 100000 in
set_option maxHeartbeats 8000000 in
theorem lw_stream_0_1 {st : Bool} {X : mj_X} {l : Launch} {D : va_G} {cA : Nat → ClassId} {L n0 : Nat} {xs : Nat → Int32} (E : lwE X l D cA L xs n0) {i : Nat} (hi : i + 8 ≤ L) (k : lwG st X (i + 8)) {T : lwT} (I : lwI T) (e1 : xs (i + 1) = nI 0) (e2 : xs (i + 2) = 1) {p3 : Int32} (e3 : xs (i + 3) = p3) (hl : T.lv 0 = true) : mj_W zG X (100 + i) (4000 + i) 683 (lwL i) [] (lwF st T ++ lwR T) := by
  have hL := E.hL
  have hu := (lw_hu I (j := 0) (by decide)).mp hl
  refine mj_blk E.h.1 b_Lw_law_683 rfl trivial ?_
  refine mj_sl2 E.h.1 E.sp E.hL (k := 1) rfl (by omega) e1 d_Lw_law_689 ?_
  refine mj_blk E.h.1 b_Lw_law_690 rfl trivial ?_
  refine mj_sl2 E.h.1 E.sp E.hL (k := 2) rfl (by omega) e2 d_Lw_law_695 ?_
  refine mj_blk E.h.1 b_Lw_law_696 rfl trivial ?_
  refine mj_sl2 E.h.1 E.sp E.hL (k := 3) rfl (by omega) e3 d_Lw_law_701 ?_
  refine mj_callV E.h zGood (ev_Sw_stream_0_1 l D cA st T.rc T.ph T.ch T.cp T.sh T.sp T.ha T.lv T.tx T.hd T.ts T.hs T.nx T.rr T.bg T.en hl p3) v_Sw_stream l_Lw_law_702 d_Lw_law_702 rfl ⟨by decide, by decide⟩ ⟨by omega, by omega⟩ [] rfl rfl rfl rfl rfl rfl (Nat.le_of_ble_eq_true rfl) ?_
  rintro _ _ ⟨rfl, rfl⟩
  refine mj_k rfl rfl ?_
  refine mj_blk E.h.1 b_Lw_law_705 rfl trivial ?_
  refine mj_sl2 E.h.1 E.sp E.hL (k := 1) rfl (by omega) e1 d_Lw_law_711 ?_
  refine mj_blk E.h.1 b_Lw_law_712 rfl trivial ?_
  refine mj_sl2 E.h.1 E.sp E.hL (k := 2) rfl (by omega) e2 d_Lw_law_717 ?_
  refine mj_blk E.h.1 b_Lw_law_718 rfl trivial ?_
  refine mj_sl2 E.h.1 E.sp E.hL (k := 3) rfl (by omega) e3 d_Lw_law_723 ?_
  refine mj_callV E.h zGood (ev_Md_stream1 l D cA T.th st T.n T.ck T.rc T.tr T.al T.us T.nxR T.enR T.sz T.hl 0 1 (by decide) (by decide) hu p3) v_Md_stream l_Lw_law_724 d_Lw_law_724 rfl ⟨by decide, by decide⟩ ⟨by omega, by omega⟩ [] rfl rfl rfl rfl rfl rfl (Nat.le_of_ble_eq_true rfl) ?_
  rintro _ _ ⟨rfl, rfl⟩
  refine mj_k rfl rfl ?_
  refine lw_eq E (u_str (t := 1) (I.rel.2.2.1 1 (by decide)) p3) d_Lw_law_727 (tgt := 831) (by decide) ?_
  have I2 : lwI ((T.rc, T.n, T.f, T.ph, T.ch, T.cp, T.sh, T.sp, T.ha, T.lv), (T.tx, T.hd, T.ts, T.hs, T.nx, T.rr, T.bg, T.en, T.rows, T.tot, T.a), (T.k1, T.k2, T.k3, T.k4, T.k5, T.k6, T.k7, T.k8, T.bm, T.bl, T.bt, T.fm, T.fl, T.ft), (0, T.ck, T.us, T.rh, T.rp9, T.rs, T.rq, T.hr), (T.bgn, T.nxR, T.enR, T.sz, T.txR, T.hl, T.hb, T.tr, T.al, T.ra, T.lvR, T.pl, T.at9), (T.R, T.wy, T.pt, T.os, T.N, T.F, T.g)) := ⟨I.n1, I.by1, I.rel, I.rul, I.cs1, I.cs2, I.fr1⟩
  exact lw_end E k I2 (by omega) (by omega)
set_option maxRecDepth 100000 in
set_option maxHeartbeats 8000000 in
theorem lw_stream_1_0 {st : Bool} {X : mj_X} {l : Launch} {D : va_G} {cA : Nat → ClassId} {L n0 : Nat} {xs : Nat → Int32} (E : lwE X l D cA L xs n0) {i : Nat} (hi : i + 8 ≤ L) (k : lwG st X (i + 8)) {T : lwT} (I : lwI T) (e1 : xs (i + 1) = nI 1) (e2 : xs (i + 2) = 0) {p3 : Int32} (e3 : xs (i + 3) = p3) (hl : T.lv 1 = true) : mj_W zG X (100 + i) (4000 + i) 683 (lwL i) [] (lwF st T ++ lwR T) := by
  have hL := E.hL
  have hu := (lw_hu I (j := 1) (by decide)).mp hl
  refine mj_blk E.h.1 b_Lw_law_683 rfl trivial ?_
  refine mj_sl2 E.h.1 E.sp E.hL (k := 1) rfl (by omega) e1 d_Lw_law_689 ?_
  refine mj_blk E.h.1 b_Lw_law_690 rfl trivial ?_
  refine mj_sl2 E.h.1 E.sp E.hL (k := 2) rfl (by omega) e2 d_Lw_law_695 ?_
  refine mj_blk E.h.1 b_Lw_law_696 rfl trivial ?_
  refine mj_sl2 E.h.1 E.sp E.hL (k := 3) rfl (by omega) e3 d_Lw_law_701 ?_
  refine mj_callV E.h zGood (ev_Sw_stream_1_0 l D cA st T.rc T.ph T.ch T.cp T.sh T.sp T.ha T.lv T.tx T.hd T.ts T.hs T.nx T.rr T.bg T.en hl p3) v_Sw_stream l_Lw_law_702 d_Lw_law_702 rfl ⟨by decide, by decide⟩ ⟨by omega, by omega⟩ [] rfl rfl rfl rfl rfl rfl (Nat.le_of_ble_eq_true rfl) ?_
  rintro _ _ ⟨rfl, rfl⟩
  refine mj_k rfl rfl ?_
  refine mj_blk E.h.1 b_Lw_law_705 rfl trivial ?_
  refine mj_sl2 E.h.1 E.sp E.hL (k := 1) rfl (by omega) e1 d_Lw_law_711 ?_
  refine mj_blk E.h.1 b_Lw_law_712 rfl trivial ?_
  refine mj_sl2 E.h.1 E.sp E.hL (k := 2) rfl (by omega) e2 d_Lw_law_717 ?_
  refine mj_blk E.h.1 b_Lw_law_718 rfl trivial ?_
  refine mj_sl2 E.h.1 E.sp E.hL (k := 3) rfl (by omega) e3 d_Lw_law_723 ?_
  refine mj_callV E.h zGood (ev_Md_stream1 l D cA T.th st T.n T.ck T.rc T.tr T.al T.us T.nxR T.enR T.sz T.hl 1 0 (by decide) (by decide) hu p3) v_Md_stream l_Lw_law_724 d_Lw_law_724 rfl ⟨by decide, by decide⟩ ⟨by omega, by omega⟩ [] rfl rfl rfl rfl rfl rfl (Nat.le_of_ble_eq_true rfl) ?_
  rintro _ _ ⟨rfl, rfl⟩
  refine mj_k rfl rfl ?_
  refine lw_eq E (u_str (t := 2) (I.rel.2.2.1 2 (by decide)) p3) d_Lw_law_727 (tgt := 831) (by decide) ?_
  have I2 : lwI ((T.rc, T.n, T.f, T.ph, T.ch, T.cp, T.sh, T.sp, T.ha, T.lv), (T.tx, T.hd, T.ts, T.hs, T.nx, T.rr, T.bg, T.en, T.rows, T.tot, T.a), (T.k1, T.k2, T.k3, T.k4, T.k5, T.k6, T.k7, T.k8, T.bm, T.bl, T.bt, T.fm, T.fl, T.ft), (0, T.ck, T.us, T.rh, T.rp9, T.rs, T.rq, T.hr), (T.bgn, T.nxR, T.enR, T.sz, T.txR, T.hl, T.hb, T.tr, T.al, T.ra, T.lvR, T.pl, T.at9), (T.R, T.wy, T.pt, T.os, T.N, T.F, T.g)) := ⟨I.n1, I.by1, I.rel, I.rul, I.cs1, I.cs2, I.fr1⟩
  exact lw_end E k I2 (by omega) (by omega)
set_option maxRecDepth 100000 in
set_option maxHeartbeats 8000000 in
theorem lw_stream_1_1 {st : Bool} {X : mj_X} {l : Launch} {D : va_G} {cA : Nat → ClassId} {L n0 : Nat} {xs : Nat → Int32} (E : lwE X l D cA L xs n0) {i : Nat} (hi : i + 8 ≤ L) (k : lwG st X (i + 8)) {T : lwT} (I : lwI T) (e1 : xs (i + 1) = nI 1) (e2 : xs (i + 2) = 1) {p3 : Int32} (e3 : xs (i + 3) = p3) (hl : T.lv 1 = true) : mj_W zG X (100 + i) (4000 + i) 683 (lwL i) [] (lwF st T ++ lwR T) := by
  have hL := E.hL
  have hu := (lw_hu I (j := 1) (by decide)).mp hl
  refine mj_blk E.h.1 b_Lw_law_683 rfl trivial ?_
  refine mj_sl2 E.h.1 E.sp E.hL (k := 1) rfl (by omega) e1 d_Lw_law_689 ?_
  refine mj_blk E.h.1 b_Lw_law_690 rfl trivial ?_
  refine mj_sl2 E.h.1 E.sp E.hL (k := 2) rfl (by omega) e2 d_Lw_law_695 ?_
  refine mj_blk E.h.1 b_Lw_law_696 rfl trivial ?_
  refine mj_sl2 E.h.1 E.sp E.hL (k := 3) rfl (by omega) e3 d_Lw_law_701 ?_
  refine mj_callV E.h zGood (ev_Sw_stream_1_1 l D cA st T.rc T.ph T.ch T.cp T.sh T.sp T.ha T.lv T.tx T.hd T.ts T.hs T.nx T.rr T.bg T.en hl p3) v_Sw_stream l_Lw_law_702 d_Lw_law_702 rfl ⟨by decide, by decide⟩ ⟨by omega, by omega⟩ [] rfl rfl rfl rfl rfl rfl (Nat.le_of_ble_eq_true rfl) ?_
  rintro _ _ ⟨rfl, rfl⟩
  refine mj_k rfl rfl ?_
  refine mj_blk E.h.1 b_Lw_law_705 rfl trivial ?_
  refine mj_sl2 E.h.1 E.sp E.hL (k := 1) rfl (by omega) e1 d_Lw_law_711 ?_
  refine mj_blk E.h.1 b_Lw_law_712 rfl trivial ?_
  refine mj_sl2 E.h.1 E.sp E.hL (k := 2) rfl (by omega) e2 d_Lw_law_717 ?_
  refine mj_blk E.h.1 b_Lw_law_718 rfl trivial ?_
  refine mj_sl2 E.h.1 E.sp E.hL (k := 3) rfl (by omega) e3 d_Lw_law_723 ?_
  refine mj_callV E.h zGood (ev_Md_stream1 l D cA T.th st T.n T.ck T.rc T.tr T.al T.us T.nxR T.enR T.sz T.hl 1 1 (by decide) (by decide) hu p3) v_Md_stream l_Lw_law_724 d_Lw_law_724 rfl ⟨by decide, by decide⟩ ⟨by omega, by omega⟩ [] rfl rfl rfl rfl rfl rfl (Nat.le_of_ble_eq_true rfl) ?_
  rintro _ _ ⟨rfl, rfl⟩
  refine mj_k rfl rfl ?_
  refine lw_eq E (u_str (t := 3) (I.rel.2.2.1 3 (by decide)) p3) d_Lw_law_727 (tgt := 831) (by decide) ?_
  have I2 : lwI ((T.rc, T.n, T.f, T.ph, T.ch, T.cp, T.sh, T.sp, T.ha, T.lv), (T.tx, T.hd, T.ts, T.hs, T.nx, T.rr, T.bg, T.en, T.rows, T.tot, T.a), (T.k1, T.k2, T.k3, T.k4, T.k5, T.k6, T.k7, T.k8, T.bm, T.bl, T.bt, T.fm, T.fl, T.ft), (0, T.ck, T.us, T.rh, T.rp9, T.rs, T.rq, T.hr), (T.bgn, T.nxR, T.enR, T.sz, T.txR, T.hl, T.hb, T.tr, T.al, T.ra, T.lvR, T.pl, T.at9), (T.R, T.wy, T.pt, T.os, T.N, T.F, T.g)) := ⟨I.n1, I.by1, I.rel, I.rul, I.cs1, I.cs2, I.fr1⟩
  exact lw_end E k I2 (by omega) (by omega)
set_option maxRecDepth 100000 in
set_option maxHeartbeats 8000000 in
theorem lw_stream_2_0 {st : Bool} {X : mj_X} {l : Launch} {D : va_G} {cA : Nat → ClassId} {L n0 : Nat} {xs : Nat → Int32} (E : lwE X l D cA L xs n0) {i : Nat} (hi : i + 8 ≤ L) (k : lwG st X (i + 8)) {T : lwT} (I : lwI T) (e1 : xs (i + 1) = nI 2) (e2 : xs (i + 2) = 0) {p3 : Int32} (e3 : xs (i + 3) = p3) (hl : T.lv 2 = true) : mj_W zG X (100 + i) (4000 + i) 683 (lwL i) [] (lwF st T ++ lwR T) := by
  have hL := E.hL
  have hu := (lw_hu I (j := 2) (by decide)).mp hl
  refine mj_blk E.h.1 b_Lw_law_683 rfl trivial ?_
  refine mj_sl2 E.h.1 E.sp E.hL (k := 1) rfl (by omega) e1 d_Lw_law_689 ?_
  refine mj_blk E.h.1 b_Lw_law_690 rfl trivial ?_
  refine mj_sl2 E.h.1 E.sp E.hL (k := 2) rfl (by omega) e2 d_Lw_law_695 ?_
  refine mj_blk E.h.1 b_Lw_law_696 rfl trivial ?_
  refine mj_sl2 E.h.1 E.sp E.hL (k := 3) rfl (by omega) e3 d_Lw_law_701 ?_
  refine mj_callV E.h zGood (ev_Sw_stream_2_0 l D cA st T.rc T.ph T.ch T.cp T.sh T.sp T.ha T.lv T.tx T.hd T.ts T.hs T.nx T.rr T.bg T.en hl p3) v_Sw_stream l_Lw_law_702 d_Lw_law_702 rfl ⟨by decide, by decide⟩ ⟨by omega, by omega⟩ [] rfl rfl rfl rfl rfl rfl (Nat.le_of_ble_eq_true rfl) ?_
  rintro _ _ ⟨rfl, rfl⟩
  refine mj_k rfl rfl ?_
  refine mj_blk E.h.1 b_Lw_law_705 rfl trivial ?_
  refine mj_sl2 E.h.1 E.sp E.hL (k := 1) rfl (by omega) e1 d_Lw_law_711 ?_
  refine mj_blk E.h.1 b_Lw_law_712 rfl trivial ?_
  refine mj_sl2 E.h.1 E.sp E.hL (k := 2) rfl (by omega) e2 d_Lw_law_717 ?_
  refine mj_blk E.h.1 b_Lw_law_718 rfl trivial ?_
  refine mj_sl2 E.h.1 E.sp E.hL (k := 3) rfl (by omega) e3 d_Lw_law_723 ?_
  refine mj_callV E.h zGood (ev_Md_stream1 l D cA T.th st T.n T.ck T.rc T.tr T.al T.us T.nxR T.enR T.sz T.hl 2 0 (by decide) (by decide) hu p3) v_Md_stream l_Lw_law_724 d_Lw_law_724 rfl ⟨by decide, by decide⟩ ⟨by omega, by omega⟩ [] rfl rfl rfl rfl rfl rfl (Nat.le_of_ble_eq_true rfl) ?_
  rintro _ _ ⟨rfl, rfl⟩
  refine mj_k rfl rfl ?_
  refine lw_eq E (u_str (t := 4) (I.rel.2.2.1 4 (by decide)) p3) d_Lw_law_727 (tgt := 831) (by decide) ?_
  have I2 : lwI ((T.rc, T.n, T.f, T.ph, T.ch, T.cp, T.sh, T.sp, T.ha, T.lv), (T.tx, T.hd, T.ts, T.hs, T.nx, T.rr, T.bg, T.en, T.rows, T.tot, T.a), (T.k1, T.k2, T.k3, T.k4, T.k5, T.k6, T.k7, T.k8, T.bm, T.bl, T.bt, T.fm, T.fl, T.ft), (0, T.ck, T.us, T.rh, T.rp9, T.rs, T.rq, T.hr), (T.bgn, T.nxR, T.enR, T.sz, T.txR, T.hl, T.hb, T.tr, T.al, T.ra, T.lvR, T.pl, T.at9), (T.R, T.wy, T.pt, T.os, T.N, T.F, T.g)) := ⟨I.n1, I.by1, I.rel, I.rul, I.cs1, I.cs2, I.fr1⟩
  exact lw_end E k I2 (by omega) (by omega)
set_option maxRecDepth 100000 in
set_option maxHeartbeats 8000000 in
theorem lw_stream_2_1 {st : Bool} {X : mj_X} {l : Launch} {D : va_G} {cA : Nat → ClassId} {L n0 : Nat} {xs : Nat → Int32} (E : lwE X l D cA L xs n0) {i : Nat} (hi : i + 8 ≤ L) (k : lwG st X (i + 8)) {T : lwT} (I : lwI T) (e1 : xs (i + 1) = nI 2) (e2 : xs (i + 2) = 1) {p3 : Int32} (e3 : xs (i + 3) = p3) (hl : T.lv 2 = true) : mj_W zG X (100 + i) (4000 + i) 683 (lwL i) [] (lwF st T ++ lwR T) := by
  have hL := E.hL
  have hu := (lw_hu I (j := 2) (by decide)).mp hl
  refine mj_blk E.h.1 b_Lw_law_683 rfl trivial ?_
  refine mj_sl2 E.h.1 E.sp E.hL (k := 1) rfl (by omega) e1 d_Lw_law_689 ?_
  refine mj_blk E.h.1 b_Lw_law_690 rfl trivial ?_
  refine mj_sl2 E.h.1 E.sp E.hL (k := 2) rfl (by omega) e2 d_Lw_law_695 ?_
  refine mj_blk E.h.1 b_Lw_law_696 rfl trivial ?_
  refine mj_sl2 E.h.1 E.sp E.hL (k := 3) rfl (by omega) e3 d_Lw_law_701 ?_
  refine mj_callV E.h zGood (ev_Sw_stream_2_1 l D cA st T.rc T.ph T.ch T.cp T.sh T.sp T.ha T.lv T.tx T.hd T.ts T.hs T.nx T.rr T.bg T.en hl p3) v_Sw_stream l_Lw_law_702 d_Lw_law_702 rfl ⟨by decide, by decide⟩ ⟨by omega, by omega⟩ [] rfl rfl rfl rfl rfl rfl (Nat.le_of_ble_eq_true rfl) ?_
  rintro _ _ ⟨rfl, rfl⟩
  refine mj_k rfl rfl ?_
  refine mj_blk E.h.1 b_Lw_law_705 rfl trivial ?_
  refine mj_sl2 E.h.1 E.sp E.hL (k := 1) rfl (by omega) e1 d_Lw_law_711 ?_
  refine mj_blk E.h.1 b_Lw_law_712 rfl trivial ?_
  refine mj_sl2 E.h.1 E.sp E.hL (k := 2) rfl (by omega) e2 d_Lw_law_717 ?_
  refine mj_blk E.h.1 b_Lw_law_718 rfl trivial ?_
  refine mj_sl2 E.h.1 E.sp E.hL (k := 3) rfl (by omega) e3 d_Lw_law_723 ?_
  refine mj_callV E.h zGood (ev_Md_stream1 l D cA T.th st T.n T.ck T.rc T.tr T.al T.us T.nxR T.enR T.sz T.hl 2 1 (by decide) (by decide) hu p3) v_Md_stream l_Lw_law_724 d_Lw_law_724 rfl ⟨by decide, by decide⟩ ⟨by omega, by omega⟩ [] rfl rfl rfl rfl rfl rfl (Nat.le_of_ble_eq_true rfl) ?_
  rintro _ _ ⟨rfl, rfl⟩
  refine mj_k rfl rfl ?_
  refine lw_eq E (u_str (t := 5) (I.rel.2.2.1 5 (by decide)) p3) d_Lw_law_727 (tgt := 831) (by decide) ?_
  have I2 : lwI ((T.rc, T.n, T.f, T.ph, T.ch, T.cp, T.sh, T.sp, T.ha, T.lv), (T.tx, T.hd, T.ts, T.hs, T.nx, T.rr, T.bg, T.en, T.rows, T.tot, T.a), (T.k1, T.k2, T.k3, T.k4, T.k5, T.k6, T.k7, T.k8, T.bm, T.bl, T.bt, T.fm, T.fl, T.ft), (0, T.ck, T.us, T.rh, T.rp9, T.rs, T.rq, T.hr), (T.bgn, T.nxR, T.enR, T.sz, T.txR, T.hl, T.hb, T.tr, T.al, T.ra, T.lvR, T.pl, T.at9), (T.R, T.wy, T.pt, T.os, T.N, T.F, T.g)) := ⟨I.n1, I.by1, I.rel, I.rul, I.cs1, I.cs2, I.fr1⟩
  exact lw_end E k I2 (by omega) (by omega)
set_option maxRecDepth 100000 in
set_option maxHeartbeats 8000000 in
theorem lw_stream_3_0 {st : Bool} {X : mj_X} {l : Launch} {D : va_G} {cA : Nat → ClassId} {L n0 : Nat} {xs : Nat → Int32} (E : lwE X l D cA L xs n0) {i : Nat} (hi : i + 8 ≤ L) (k : lwG st X (i + 8)) {T : lwT} (I : lwI T) (e1 : xs (i + 1) = nI 3) (e2 : xs (i + 2) = 0) {p3 : Int32} (e3 : xs (i + 3) = p3) (hl : T.lv 3 = true) : mj_W zG X (100 + i) (4000 + i) 683 (lwL i) [] (lwF st T ++ lwR T) := by
  have hL := E.hL
  have hu := (lw_hu I (j := 3) (by decide)).mp hl
  refine mj_blk E.h.1 b_Lw_law_683 rfl trivial ?_
  refine mj_sl2 E.h.1 E.sp E.hL (k := 1) rfl (by omega) e1 d_Lw_law_689 ?_
  refine mj_blk E.h.1 b_Lw_law_690 rfl trivial ?_
  refine mj_sl2 E.h.1 E.sp E.hL (k := 2) rfl (by omega) e2 d_Lw_law_695 ?_
  refine mj_blk E.h.1 b_Lw_law_696 rfl trivial ?_
  refine mj_sl2 E.h.1 E.sp E.hL (k := 3) rfl (by omega) e3 d_Lw_law_701 ?_
  refine mj_callV E.h zGood (ev_Sw_stream_3_0 l D cA st T.rc T.ph T.ch T.cp T.sh T.sp T.ha T.lv T.tx T.hd T.ts T.hs T.nx T.rr T.bg T.en hl p3) v_Sw_stream l_Lw_law_702 d_Lw_law_702 rfl ⟨by decide, by decide⟩ ⟨by omega, by omega⟩ [] rfl rfl rfl rfl rfl rfl (Nat.le_of_ble_eq_true rfl) ?_
  rintro _ _ ⟨rfl, rfl⟩
  refine mj_k rfl rfl ?_
  refine mj_blk E.h.1 b_Lw_law_705 rfl trivial ?_
  refine mj_sl2 E.h.1 E.sp E.hL (k := 1) rfl (by omega) e1 d_Lw_law_711 ?_
  refine mj_blk E.h.1 b_Lw_law_712 rfl trivial ?_
  refine mj_sl2 E.h.1 E.sp E.hL (k := 2) rfl (by omega) e2 d_Lw_law_717 ?_
  refine mj_blk E.h.1 b_Lw_law_718 rfl trivial ?_
  refine mj_sl2 E.h.1 E.sp E.hL (k := 3) rfl (by omega) e3 d_Lw_law_723 ?_
  refine mj_callV E.h zGood (ev_Md_stream1 l D cA T.th st T.n T.ck T.rc T.tr T.al T.us T.nxR T.enR T.sz T.hl 3 0 (by decide) (by decide) hu p3) v_Md_stream l_Lw_law_724 d_Lw_law_724 rfl ⟨by decide, by decide⟩ ⟨by omega, by omega⟩ [] rfl rfl rfl rfl rfl rfl (Nat.le_of_ble_eq_true rfl) ?_
  rintro _ _ ⟨rfl, rfl⟩
  refine mj_k rfl rfl ?_
  refine lw_eq E (u_str (t := 6) (I.rel.2.2.1 6 (by decide)) p3) d_Lw_law_727 (tgt := 831) (by decide) ?_
  have I2 : lwI ((T.rc, T.n, T.f, T.ph, T.ch, T.cp, T.sh, T.sp, T.ha, T.lv), (T.tx, T.hd, T.ts, T.hs, T.nx, T.rr, T.bg, T.en, T.rows, T.tot, T.a), (T.k1, T.k2, T.k3, T.k4, T.k5, T.k6, T.k7, T.k8, T.bm, T.bl, T.bt, T.fm, T.fl, T.ft), (0, T.ck, T.us, T.rh, T.rp9, T.rs, T.rq, T.hr), (T.bgn, T.nxR, T.enR, T.sz, T.txR, T.hl, T.hb, T.tr, T.al, T.ra, T.lvR, T.pl, T.at9), (T.R, T.wy, T.pt, T.os, T.N, T.F, T.g)) := ⟨I.n1, I.by1, I.rel, I.rul, I.cs1, I.cs2, I.fr1⟩
  exact lw_end E k I2 (by omega) (by omega)
set_option maxRecDepth 100000 in
set_option maxHeartbeats 8000000 in
theorem lw_stream_3_1 {st : Bool} {X : mj_X} {l : Launch} {D : va_G} {cA : Nat → ClassId} {L n0 : Nat} {xs : Nat → Int32} (E : lwE X l D cA L xs n0) {i : Nat} (hi : i + 8 ≤ L) (k : lwG st X (i + 8)) {T : lwT} (I : lwI T) (e1 : xs (i + 1) = nI 3) (e2 : xs (i + 2) = 1) {p3 : Int32} (e3 : xs (i + 3) = p3) (hl : T.lv 3 = true) : mj_W zG X (100 + i) (4000 + i) 683 (lwL i) [] (lwF st T ++ lwR T) := by
  have hL := E.hL
  have hu := (lw_hu I (j := 3) (by decide)).mp hl
  refine mj_blk E.h.1 b_Lw_law_683 rfl trivial ?_
  refine mj_sl2 E.h.1 E.sp E.hL (k := 1) rfl (by omega) e1 d_Lw_law_689 ?_
  refine mj_blk E.h.1 b_Lw_law_690 rfl trivial ?_
  refine mj_sl2 E.h.1 E.sp E.hL (k := 2) rfl (by omega) e2 d_Lw_law_695 ?_
  refine mj_blk E.h.1 b_Lw_law_696 rfl trivial ?_
  refine mj_sl2 E.h.1 E.sp E.hL (k := 3) rfl (by omega) e3 d_Lw_law_701 ?_
  refine mj_callV E.h zGood (ev_Sw_stream_3_1 l D cA st T.rc T.ph T.ch T.cp T.sh T.sp T.ha T.lv T.tx T.hd T.ts T.hs T.nx T.rr T.bg T.en hl p3) v_Sw_stream l_Lw_law_702 d_Lw_law_702 rfl ⟨by decide, by decide⟩ ⟨by omega, by omega⟩ [] rfl rfl rfl rfl rfl rfl (Nat.le_of_ble_eq_true rfl) ?_
  rintro _ _ ⟨rfl, rfl⟩
  refine mj_k rfl rfl ?_
  refine mj_blk E.h.1 b_Lw_law_705 rfl trivial ?_
  refine mj_sl2 E.h.1 E.sp E.hL (k := 1) rfl (by omega) e1 d_Lw_law_711 ?_
  refine mj_blk E.h.1 b_Lw_law_712 rfl trivial ?_
  refine mj_sl2 E.h.1 E.sp E.hL (k := 2) rfl (by omega) e2 d_Lw_law_717 ?_
  refine mj_blk E.h.1 b_Lw_law_718 rfl trivial ?_
  refine mj_sl2 E.h.1 E.sp E.hL (k := 3) rfl (by omega) e3 d_Lw_law_723 ?_
  refine mj_callV E.h zGood (ev_Md_stream1 l D cA T.th st T.n T.ck T.rc T.tr T.al T.us T.nxR T.enR T.sz T.hl 3 1 (by decide) (by decide) hu p3) v_Md_stream l_Lw_law_724 d_Lw_law_724 rfl ⟨by decide, by decide⟩ ⟨by omega, by omega⟩ [] rfl rfl rfl rfl rfl rfl (Nat.le_of_ble_eq_true rfl) ?_
  rintro _ _ ⟨rfl, rfl⟩
  refine mj_k rfl rfl ?_
  refine lw_eq E (u_str (t := 7) (I.rel.2.2.1 7 (by decide)) p3) d_Lw_law_727 (tgt := 831) (by decide) ?_
  have I2 : lwI ((T.rc, T.n, T.f, T.ph, T.ch, T.cp, T.sh, T.sp, T.ha, T.lv), (T.tx, T.hd, T.ts, T.hs, T.nx, T.rr, T.bg, T.en, T.rows, T.tot, T.a), (T.k1, T.k2, T.k3, T.k4, T.k5, T.k6, T.k7, T.k8, T.bm, T.bl, T.bt, T.fm, T.fl, T.ft), (0, T.ck, T.us, T.rh, T.rp9, T.rs, T.rq, T.hr), (T.bgn, T.nxR, T.enR, T.sz, T.txR, T.hl, T.hb, T.tr, T.al, T.ra, T.lvR, T.pl, T.at9), (T.R, T.wy, T.pt, T.os, T.N, T.F, T.g)) := ⟨I.n1, I.by1, I.rel, I.rul, I.cs1, I.cs2, I.fr1⟩
  exact lw_end E k I2 (by omega) (by omega)
set_option maxRecDepth 100000 in
set_option maxHeartbeats 8000000 in
theorem lw_stream_n0 {st : Bool} {X : mj_X} {l : Launch} {D : va_G} {cA : Nat → ClassId} {L n0 : Nat} {xs : Nat → Int32} (E : lwE X l D cA L xs n0) {i : Nat} (hi : i + 8 ≤ L) (k : lwG st X (i + 8)) {T : lwT} (I : lwI T) {p1 p2 : Int32} (e1 : xs (i + 1) = p1) (e2 : xs (i + 2) = p2) {p3 : Int32} (e3 : xs (i + 3) = p3) (hq : qNo T.lv p1 p2) (hk : ¬ (¬ p1 < 0 ∧ ¬ 4 ≤ p1 ∧ ¬ T.us p1.toNatClampNeg = 0)) : mj_W zG X (100 + i) (4000 + i) 683 (lwL i) [] (lwF st T ++ lwR T) := by
  have hL := E.hL
  refine mj_blk E.h.1 b_Lw_law_683 rfl trivial ?_
  refine mj_sl2 E.h.1 E.sp E.hL (k := 1) rfl (by omega) e1 d_Lw_law_689 ?_
  refine mj_blk E.h.1 b_Lw_law_690 rfl trivial ?_
  refine mj_sl2 E.h.1 E.sp E.hL (k := 2) rfl (by omega) e2 d_Lw_law_695 ?_
  refine mj_blk E.h.1 b_Lw_law_696 rfl trivial ?_
  refine mj_sl2 E.h.1 E.sp E.hL (k := 3) rfl (by omega) e3 d_Lw_law_701 ?_
  refine mj_callV E.h zGood (ev_Sw_stream_no l D cA st T.rc T.ph T.ch T.cp T.sh T.sp T.ha T.lv p1 p2 hq p3) v_Sw_stream l_Lw_law_702 d_Lw_law_702 rfl ⟨by decide, by decide⟩ ⟨by omega, by omega⟩ [] rfl rfl rfl rfl rfl rfl (Nat.le_of_ble_eq_true rfl) ?_
  rintro _ _ ⟨rfl, rfl⟩
  refine mj_k rfl rfl ?_
  refine mj_blk E.h.1 b_Lw_law_705 rfl trivial ?_
  refine mj_sl2 E.h.1 E.sp E.hL (k := 1) rfl (by omega) e1 d_Lw_law_711 ?_
  refine mj_blk E.h.1 b_Lw_law_712 rfl trivial ?_
  refine mj_sl2 E.h.1 E.sp E.hL (k := 2) rfl (by omega) e2 d_Lw_law_717 ?_
  refine mj_blk E.h.1 b_Lw_law_718 rfl trivial ?_
  refine mj_sl2 E.h.1 E.sp E.hL (k := 3) rfl (by omega) e3 d_Lw_law_723 ?_
  refine mj_callV E.h zGood (ev_Md_stream0 l D cA T.th st T.n T.ck T.rc T.tr T.al T.us T.nxR T.enR T.sz T.hl p1 hk p2 p3) v_Md_stream l_Lw_law_724 d_Lw_law_724 rfl ⟨by decide, by decide⟩ ⟨by omega, by omega⟩ [] rfl rfl rfl rfl rfl rfl (Nat.le_of_ble_eq_true rfl) ?_
  rintro _ _ ⟨rfl, rfl⟩
  refine mj_k rfl rfl ?_
  refine lw_eq E (rfl) d_Lw_law_727 (tgt := 831) (by decide) ?_
  have I2 : lwI ((T.rc, T.n, T.f, T.ph, T.ch, T.cp, T.sh, T.sp, T.ha, T.lv), (T.tx, T.hd, T.ts, T.hs, T.nx, T.rr, T.bg, T.en, T.rows, T.tot, T.a), (T.k1, T.k2, T.k3, T.k4, T.k5, T.k6, T.k7, T.k8, T.bm, T.bl, T.bt, T.fm, T.fl, T.ft), (0, T.ck, T.us, T.rh, T.rp9, T.rs, T.rq, T.hr), (T.bgn, T.nxR, T.enR, T.sz, T.txR, T.hl, T.hb, T.tr, T.al, T.ra, T.lvR, T.pl, T.at9), (T.R, T.wy, T.pt, T.os, T.N, T.F, T.g)) := ⟨I.n1, I.by1, I.rel, I.rul, I.cs1, I.cs2, I.fr1⟩
  exact lw_end E k I2 (by omega) (by omega)
set_option maxRecDepth 100000 in
set_option maxHeartbeats 8000000 in
theorem lw_stream_n2 {st : Bool} {X : mj_X} {l : Launch} {D : va_G} {cA : Nat → ClassId} {L n0 : Nat} {xs : Nat → Int32} (E : lwE X l D cA L xs n0) {i : Nat} (hi : i + 8 ≤ L) (k : lwG st X (i + 8)) {T : lwT} (I : lwI T) {j : Nat} (hj : j < 4) {p2 : Int32} (e1 : xs (i + 1) = nI j) (e2 : xs (i + 2) = p2) {p3 : Int32} (e3 : xs (i + 3) = p3) (hq : qNo T.lv (nI j) p2) (hu : ¬ T.us j = 0) (hy : p2 < 0 ∨ 1 < p2) : mj_W zG X (100 + i) (4000 + i) 683 (lwL i) [] (lwF st T ++ lwR T) := by
  have hL := E.hL
  refine mj_blk E.h.1 b_Lw_law_683 rfl trivial ?_
  refine mj_sl2 E.h.1 E.sp E.hL (k := 1) rfl (by omega) e1 d_Lw_law_689 ?_
  refine mj_blk E.h.1 b_Lw_law_690 rfl trivial ?_
  refine mj_sl2 E.h.1 E.sp E.hL (k := 2) rfl (by omega) e2 d_Lw_law_695 ?_
  refine mj_blk E.h.1 b_Lw_law_696 rfl trivial ?_
  refine mj_sl2 E.h.1 E.sp E.hL (k := 3) rfl (by omega) e3 d_Lw_law_701 ?_
  refine mj_callV E.h zGood (ev_Sw_stream_no l D cA st T.rc T.ph T.ch T.cp T.sh T.sp T.ha T.lv (nI j) p2 hq p3) v_Sw_stream l_Lw_law_702 d_Lw_law_702 rfl ⟨by decide, by decide⟩ ⟨by omega, by omega⟩ [] rfl rfl rfl rfl rfl rfl (Nat.le_of_ble_eq_true rfl) ?_
  rintro _ _ ⟨rfl, rfl⟩
  refine mj_k rfl rfl ?_
  refine mj_blk E.h.1 b_Lw_law_705 rfl trivial ?_
  refine mj_sl2 E.h.1 E.sp E.hL (k := 1) rfl (by omega) e1 d_Lw_law_711 ?_
  refine mj_blk E.h.1 b_Lw_law_712 rfl trivial ?_
  refine mj_sl2 E.h.1 E.sp E.hL (k := 2) rfl (by omega) e2 d_Lw_law_717 ?_
  refine mj_blk E.h.1 b_Lw_law_718 rfl trivial ?_
  refine mj_sl2 E.h.1 E.sp E.hL (k := 3) rfl (by omega) e3 d_Lw_law_723 ?_
  refine mj_callV E.h zGood (ev_Md_stream2 l D cA T.th st T.n T.ck T.rc T.tr T.al T.us T.nxR T.enR T.sz T.hl j hj hu p2 hy p3) v_Md_stream l_Lw_law_724 d_Lw_law_724 rfl ⟨by decide, by decide⟩ ⟨by omega, by omega⟩ [] rfl rfl rfl rfl rfl rfl (Nat.le_of_ble_eq_true rfl) ?_
  rintro _ _ ⟨rfl, rfl⟩
  refine mj_k rfl rfl ?_
  refine lw_eq E (rfl) d_Lw_law_727 (tgt := 831) (by decide) ?_
  have I2 : lwI ((T.rc, T.n, T.f, T.ph, T.ch, T.cp, T.sh, T.sp, T.ha, T.lv), (T.tx, T.hd, T.ts, T.hs, T.nx, T.rr, T.bg, T.en, T.rows, T.tot, T.a), (T.k1, T.k2, T.k3, T.k4, T.k5, T.k6, T.k7, T.k8, T.bm, T.bl, T.bt, T.fm, T.fl, T.ft), (0, T.ck, T.us, T.rh, T.rp9, T.rs, T.rq, T.hr), (T.bgn, T.nxR, T.enR, T.sz, T.txR, T.hl, T.hb, T.tr, T.al, T.ra, T.lvR, T.pl, T.at9), (T.R, T.wy, T.pt, T.os, T.N, T.F, T.g)) := ⟨I.n1, I.by1, I.rel, I.rul, I.cs1, I.cs2, I.fr1⟩
  exact lw_end E k I2 (by omega) (by omega)
theorem lw_y2 {y : Int32} (h0 : ¬ y = 0) (h1 : ¬ y = 1) : y < 0 ∨ 1 < y := by
  rw [Int32.lt_iff_toInt_lt, Int32.lt_iff_toInt_lt, show (0 : Int32).toInt = 0 from rfl, show (1 : Int32).toInt = 1 from rfl]
  have a0 : y.toInt ≠ 0 := fun h => h0 (Int32.toInt_inj.mp h)
  have a1 : y.toInt ≠ 1 := fun h => h1 (Int32.toInt_inj.mp h)
  omega
theorem lw_sz {T : lwT} (I : lwI T) (t : Nat) (ht : t < 8) : T.sz t = nI (T.ts t) := (I.rel.2.2.1 t ht).2.1
set_option maxRecDepth 100000 in
set_option maxHeartbeats 8000000 in
theorem lw_stream {st : Bool} {X : mj_X} {l : Launch} {D : va_G} {cA : Nat → ClassId} {L n0 : Nat} {xs : Nat → Int32} (E : lwE X l D cA L xs n0) {i : Nat} (hi : i + 8 ≤ L) (k : lwG st X (i + 8)) {T : lwT} (I : lwI T) {p1 p2 p3 : Int32} (e1 : xs (i + 1) = p1) (e2 : xs (i + 2) = p2) (e3 : xs (i + 3) = p3) : mj_W zG X (100 + i) (4000 + i) 683 (lwL i) [] (lwF st T ++ lwR T) := by
  have hL := E.hL
  rcases pk_ix p1 (n := 4) (by decide) with h1 | h1 | ⟨j, hj, rfl⟩
  · exact lw_stream_n0 E hi k I e1 e2 e3 (Or.inl (Or.inl h1)) (lw_out (Or.inl h1))
  · exact lw_stream_n0 E hi k I e1 e2 e3 (Or.inl (Or.inr h1)) (lw_out (Or.inr h1))
  · by_cases hl : T.lv j = true
    · have hu := (lw_hu I hj).mp hl
      by_cases hy0 : p2 = 0
      · subst hy0
        match j, hj with
        | 0, _ => exact lw_stream_0_0 E hi k I e1 e2 e3 hl
        | 1, _ => exact lw_stream_1_0 E hi k I e1 e2 e3 hl
        | 2, _ => exact lw_stream_2_0 E hi k I e1 e2 e3 hl
        | 3, _ => exact lw_stream_3_0 E hi k I e1 e2 e3 hl
        | j + 4, hj => omega
      · by_cases hy1 : p2 = 1
        · subst hy1
          match j, hj with
          | 0, _ => exact lw_stream_0_1 E hi k I e1 e2 e3 hl
          | 1, _ => exact lw_stream_1_1 E hi k I e1 e2 e3 hl
          | 2, _ => exact lw_stream_2_1 E hi k I e1 e2 e3 hl
          | 3, _ => exact lw_stream_3_1 E hi k I e1 e2 e3 hl
          | j + 4, hj => omega
        · exact lw_stream_n2 E hi k I hj e1 e2 e3 (Or.inr ⟨j, hj, rfl, Or.inr ⟨hy0, hy1⟩⟩) hu (lw_y2 hy0 hy1)
    · exact lw_stream_n0 E hi k I e1 e2 e3 (Or.inr ⟨j, hj, rfl, Or.inl hl⟩) (lw_dead hj (lw_us0 I hj hl))
set_option maxRecDepth 100000 in
set_option maxHeartbeats 8000000 in
theorem lw_text_0_0 {st : Bool} {X : mj_X} {l : Launch} {D : va_G} {cA : Nat → ClassId} {L n0 : Nat} {xs : Nat → Int32} (E : lwE X l D cA L xs n0) {i : Nat} (hi : i + 8 ≤ L) (k : lwG st X (i + 8)) {T : lwT} (I : lwI T) (e1 : xs (i + 1) = nI 0) (e2 : xs (i + 2) = 0) {p3 : Int32} (e3 : xs (i + 3) = p3) (hl : T.lv 0 = true) : mj_W zG X (100 + i) (4000 + i) 732 (lwL i) [] (lwF st T ++ lwR T) := by
  have hL := E.hL
  have hu := (lw_hu I (j := 0) (by decide)).mp hl
  refine mj_blk E.h.1 b_Lw_law_732 rfl trivial ?_
  refine mj_sl2 E.h.1 E.sp E.hL (k := 1) rfl (by omega) e1 d_Lw_law_738 ?_
  refine mj_blk E.h.1 b_Lw_law_739 rfl trivial ?_
  refine mj_sl2 E.h.1 E.sp E.hL (k := 2) rfl (by omega) e2 d_Lw_law_744 ?_
  refine mj_blk E.h.1 b_Lw_law_745 rfl trivial ?_
  refine mj_sl2 E.h.1 E.sp E.hL (k := 3) rfl (by omega) e3 d_Lw_law_750 ?_
  refine mj_callV E.h zGood (ev_Sw_text_0_0 l D cA st T.rc T.ph T.ch T.cp T.sh T.sp T.ha T.lv T.tx T.hd T.ts T.hs T.nx T.rr T.bg T.en hl (I.rel.2.2.2.1 0) p3) v_Sw_text l_Lw_law_751 d_Lw_law_751 rfl ⟨by decide, by decide⟩ ⟨by omega, by omega⟩ [] rfl rfl rfl rfl rfl rfl (Nat.le_of_ble_eq_true rfl) ?_
  rintro _ _ ⟨rfl, rfl⟩
  refine mj_k rfl rfl ?_
  refine mj_blk E.h.1 b_Lw_law_754 rfl trivial ?_
  refine mj_sl2 E.h.1 E.sp E.hL (k := 1) rfl (by omega) e1 d_Lw_law_760 ?_
  refine mj_blk E.h.1 b_Lw_law_761 rfl trivial ?_
  refine mj_sl2 E.h.1 E.sp E.hL (k := 2) rfl (by omega) e2 d_Lw_law_766 ?_
  refine mj_blk E.h.1 b_Lw_law_767 rfl trivial ?_
  refine mj_sl2 E.h.1 E.sp E.hL (k := 3) rfl (by omega) e3 d_Lw_law_772 ?_
  refine mj_callV E.h zGood (ev_Md_text1 l D cA T.th st T.n T.ck T.rc T.tr T.al T.us T.sz T.txR 0 0 (by decide) (by decide) hu (T.ts 0) (I.rel.2.2.2.1 0) (lw_sz I 0 (by decide)) p3) v_Md_text l_Lw_law_773 d_Lw_law_773 rfl ⟨by decide, by decide⟩ ⟨by omega, by omega⟩ [] rfl rfl rfl rfl rfl rfl (Nat.le_of_ble_eq_true rfl) ?_
  rintro _ _ ⟨rfl, rfl⟩
  refine mj_k rfl rfl ?_
  refine lw_eq E (u_txt (t := 0) (I.rel.2.2.1 0 (by decide)) p3) d_Lw_law_776 (tgt := 831) (by decide) ?_
  have I2 : lwI ((T.rc, T.n, T.f, T.ph, T.ch, T.cp, T.sh, T.sp, T.ha, T.lv), (T.tx, T.hd, T.ts, T.hs, T.nx, T.rr, T.bg, T.en, T.rows, T.tot, T.a), (T.k1, T.k2, T.k3, T.k4, T.k5, T.k6, T.k7, T.k8, T.bm, T.bl, T.bt, T.fm, T.fl, T.ft), (0, T.ck, T.us, T.rh, T.rp9, T.rs, T.rq, T.hr), (T.bgn, T.nxR, T.enR, T.sz, T.txR, T.hl, T.hb, T.tr, T.al, T.ra, T.lvR, T.pl, T.at9), (T.R, T.wy, T.pt, T.os, T.N, T.F, T.g)) := ⟨I.n1, I.by1, I.rel, I.rul, I.cs1, I.cs2, I.fr1⟩
  exact lw_end E k I2 (by omega) (by omega)
set_option maxRecDepth 100000 in
set_option maxHeartbeats 8000000 in
theorem lw_text_0_1 {st : Bool} {X : mj_X} {l : Launch} {D : va_G} {cA : Nat → ClassId} {L n0 : Nat} {xs : Nat → Int32} (E : lwE X l D cA L xs n0) {i : Nat} (hi : i + 8 ≤ L) (k : lwG st X (i + 8)) {T : lwT} (I : lwI T) (e1 : xs (i + 1) = nI 0) (e2 : xs (i + 2) = 1) {p3 : Int32} (e3 : xs (i + 3) = p3) (hl : T.lv 0 = true) : mj_W zG X (100 + i) (4000 + i) 732 (lwL i) [] (lwF st T ++ lwR T) := by
  have hL := E.hL
  have hu := (lw_hu I (j := 0) (by decide)).mp hl
  refine mj_blk E.h.1 b_Lw_law_732 rfl trivial ?_
  refine mj_sl2 E.h.1 E.sp E.hL (k := 1) rfl (by omega) e1 d_Lw_law_738 ?_
  refine mj_blk E.h.1 b_Lw_law_739 rfl trivial ?_
  refine mj_sl2 E.h.1 E.sp E.hL (k := 2) rfl (by omega) e2 d_Lw_law_744 ?_
  refine mj_blk E.h.1 b_Lw_law_745 rfl trivial ?_
  refine mj_sl2 E.h.1 E.sp E.hL (k := 3) rfl (by omega) e3 d_Lw_law_750 ?_
  refine mj_callV E.h zGood (ev_Sw_text_0_1 l D cA st T.rc T.ph T.ch T.cp T.sh T.sp T.ha T.lv T.tx T.hd T.ts T.hs T.nx T.rr T.bg T.en hl (I.rel.2.2.2.1 1) p3) v_Sw_text l_Lw_law_751 d_Lw_law_751 rfl ⟨by decide, by decide⟩ ⟨by omega, by omega⟩ [] rfl rfl rfl rfl rfl rfl (Nat.le_of_ble_eq_true rfl) ?_
  rintro _ _ ⟨rfl, rfl⟩
  refine mj_k rfl rfl ?_
  refine mj_blk E.h.1 b_Lw_law_754 rfl trivial ?_
  refine mj_sl2 E.h.1 E.sp E.hL (k := 1) rfl (by omega) e1 d_Lw_law_760 ?_
  refine mj_blk E.h.1 b_Lw_law_761 rfl trivial ?_
  refine mj_sl2 E.h.1 E.sp E.hL (k := 2) rfl (by omega) e2 d_Lw_law_766 ?_
  refine mj_blk E.h.1 b_Lw_law_767 rfl trivial ?_
  refine mj_sl2 E.h.1 E.sp E.hL (k := 3) rfl (by omega) e3 d_Lw_law_772 ?_
  refine mj_callV E.h zGood (ev_Md_text1 l D cA T.th st T.n T.ck T.rc T.tr T.al T.us T.sz T.txR 0 1 (by decide) (by decide) hu (T.ts 1) (I.rel.2.2.2.1 1) (lw_sz I 1 (by decide)) p3) v_Md_text l_Lw_law_773 d_Lw_law_773 rfl ⟨by decide, by decide⟩ ⟨by omega, by omega⟩ [] rfl rfl rfl rfl rfl rfl (Nat.le_of_ble_eq_true rfl) ?_
  rintro _ _ ⟨rfl, rfl⟩
  refine mj_k rfl rfl ?_
  refine lw_eq E (u_txt (t := 1) (I.rel.2.2.1 1 (by decide)) p3) d_Lw_law_776 (tgt := 831) (by decide) ?_
  have I2 : lwI ((T.rc, T.n, T.f, T.ph, T.ch, T.cp, T.sh, T.sp, T.ha, T.lv), (T.tx, T.hd, T.ts, T.hs, T.nx, T.rr, T.bg, T.en, T.rows, T.tot, T.a), (T.k1, T.k2, T.k3, T.k4, T.k5, T.k6, T.k7, T.k8, T.bm, T.bl, T.bt, T.fm, T.fl, T.ft), (0, T.ck, T.us, T.rh, T.rp9, T.rs, T.rq, T.hr), (T.bgn, T.nxR, T.enR, T.sz, T.txR, T.hl, T.hb, T.tr, T.al, T.ra, T.lvR, T.pl, T.at9), (T.R, T.wy, T.pt, T.os, T.N, T.F, T.g)) := ⟨I.n1, I.by1, I.rel, I.rul, I.cs1, I.cs2, I.fr1⟩
  exact lw_end E k I2 (by omega) (by omega)
set_option maxRecDepth 100000 in
set_option maxHeartbeats 8000000 in
theorem lw_text_1_0 {st : Bool} {X : mj_X} {l : Launch} {D : va_G} {cA : Nat → ClassId} {L n0 : Nat} {xs : Nat → Int32} (E : lwE X l D cA L xs n0) {i : Nat} (hi : i + 8 ≤ L) (k : lwG st X (i + 8)) {T : lwT} (I : lwI T) (e1 : xs (i + 1) = nI 1) (e2 : xs (i + 2) = 0) {p3 : Int32} (e3 : xs (i + 3) = p3) (hl : T.lv 1 = true) : mj_W zG X (100 + i) (4000 + i) 732 (lwL i) [] (lwF st T ++ lwR T) := by
  have hL := E.hL
  have hu := (lw_hu I (j := 1) (by decide)).mp hl
  refine mj_blk E.h.1 b_Lw_law_732 rfl trivial ?_
  refine mj_sl2 E.h.1 E.sp E.hL (k := 1) rfl (by omega) e1 d_Lw_law_738 ?_
  refine mj_blk E.h.1 b_Lw_law_739 rfl trivial ?_
  refine mj_sl2 E.h.1 E.sp E.hL (k := 2) rfl (by omega) e2 d_Lw_law_744 ?_
  refine mj_blk E.h.1 b_Lw_law_745 rfl trivial ?_
  refine mj_sl2 E.h.1 E.sp E.hL (k := 3) rfl (by omega) e3 d_Lw_law_750 ?_
  refine mj_callV E.h zGood (ev_Sw_text_1_0 l D cA st T.rc T.ph T.ch T.cp T.sh T.sp T.ha T.lv T.tx T.hd T.ts T.hs T.nx T.rr T.bg T.en hl (I.rel.2.2.2.1 2) p3) v_Sw_text l_Lw_law_751 d_Lw_law_751 rfl ⟨by decide, by decide⟩ ⟨by omega, by omega⟩ [] rfl rfl rfl rfl rfl rfl (Nat.le_of_ble_eq_true rfl) ?_
  rintro _ _ ⟨rfl, rfl⟩
  refine mj_k rfl rfl ?_
  refine mj_blk E.h.1 b_Lw_law_754 rfl trivial ?_
  refine mj_sl2 E.h.1 E.sp E.hL (k := 1) rfl (by omega) e1 d_Lw_law_760 ?_
  refine mj_blk E.h.1 b_Lw_law_761 rfl trivial ?_
  refine mj_sl2 E.h.1 E.sp E.hL (k := 2) rfl (by omega) e2 d_Lw_law_766 ?_
  refine mj_blk E.h.1 b_Lw_law_767 rfl trivial ?_
  refine mj_sl2 E.h.1 E.sp E.hL (k := 3) rfl (by omega) e3 d_Lw_law_772 ?_
  refine mj_callV E.h zGood (ev_Md_text1 l D cA T.th st T.n T.ck T.rc T.tr T.al T.us T.sz T.txR 1 0 (by decide) (by decide) hu (T.ts 2) (I.rel.2.2.2.1 2) (lw_sz I 2 (by decide)) p3) v_Md_text l_Lw_law_773 d_Lw_law_773 rfl ⟨by decide, by decide⟩ ⟨by omega, by omega⟩ [] rfl rfl rfl rfl rfl rfl (Nat.le_of_ble_eq_true rfl) ?_
  rintro _ _ ⟨rfl, rfl⟩
  refine mj_k rfl rfl ?_
  refine lw_eq E (u_txt (t := 2) (I.rel.2.2.1 2 (by decide)) p3) d_Lw_law_776 (tgt := 831) (by decide) ?_
  have I2 : lwI ((T.rc, T.n, T.f, T.ph, T.ch, T.cp, T.sh, T.sp, T.ha, T.lv), (T.tx, T.hd, T.ts, T.hs, T.nx, T.rr, T.bg, T.en, T.rows, T.tot, T.a), (T.k1, T.k2, T.k3, T.k4, T.k5, T.k6, T.k7, T.k8, T.bm, T.bl, T.bt, T.fm, T.fl, T.ft), (0, T.ck, T.us, T.rh, T.rp9, T.rs, T.rq, T.hr), (T.bgn, T.nxR, T.enR, T.sz, T.txR, T.hl, T.hb, T.tr, T.al, T.ra, T.lvR, T.pl, T.at9), (T.R, T.wy, T.pt, T.os, T.N, T.F, T.g)) := ⟨I.n1, I.by1, I.rel, I.rul, I.cs1, I.cs2, I.fr1⟩
  exact lw_end E k I2 (by omega) (by omega)
set_option maxRecDepth 100000 in
set_option maxHeartbeats 8000000 in
theorem lw_text_1_1 {st : Bool} {X : mj_X} {l : Launch} {D : va_G} {cA : Nat → ClassId} {L n0 : Nat} {xs : Nat → Int32} (E : lwE X l D cA L xs n0) {i : Nat} (hi : i + 8 ≤ L) (k : lwG st X (i + 8)) {T : lwT} (I : lwI T) (e1 : xs (i + 1) = nI 1) (e2 : xs (i + 2) = 1) {p3 : Int32} (e3 : xs (i + 3) = p3) (hl : T.lv 1 = true) : mj_W zG X (100 + i) (4000 + i) 732 (lwL i) [] (lwF st T ++ lwR T) := by
  have hL := E.hL
  have hu := (lw_hu I (j := 1) (by decide)).mp hl
  refine mj_blk E.h.1 b_Lw_law_732 rfl trivial ?_
  refine mj_sl2 E.h.1 E.sp E.hL (k := 1) rfl (by omega) e1 d_Lw_law_738 ?_
  refine mj_blk E.h.1 b_Lw_law_739 rfl trivial ?_
  refine mj_sl2 E.h.1 E.sp E.hL (k := 2) rfl (by omega) e2 d_Lw_law_744 ?_
  refine mj_blk E.h.1 b_Lw_law_745 rfl trivial ?_
  refine mj_sl2 E.h.1 E.sp E.hL (k := 3) rfl (by omega) e3 d_Lw_law_750 ?_
  refine mj_callV E.h zGood (ev_Sw_text_1_1 l D cA st T.rc T.ph T.ch T.cp T.sh T.sp T.ha T.lv T.tx T.hd T.ts T.hs T.nx T.rr T.bg T.en hl (I.rel.2.2.2.1 3) p3) v_Sw_text l_Lw_law_751 d_Lw_law_751 rfl ⟨by decide, by decide⟩ ⟨by omega, by omega⟩ [] rfl rfl rfl rfl rfl rfl (Nat.le_of_ble_eq_true rfl) ?_
  rintro _ _ ⟨rfl, rfl⟩
  refine mj_k rfl rfl ?_
  refine mj_blk E.h.1 b_Lw_law_754 rfl trivial ?_
  refine mj_sl2 E.h.1 E.sp E.hL (k := 1) rfl (by omega) e1 d_Lw_law_760 ?_
  refine mj_blk E.h.1 b_Lw_law_761 rfl trivial ?_
  refine mj_sl2 E.h.1 E.sp E.hL (k := 2) rfl (by omega) e2 d_Lw_law_766 ?_
  refine mj_blk E.h.1 b_Lw_law_767 rfl trivial ?_
  refine mj_sl2 E.h.1 E.sp E.hL (k := 3) rfl (by omega) e3 d_Lw_law_772 ?_
  refine mj_callV E.h zGood (ev_Md_text1 l D cA T.th st T.n T.ck T.rc T.tr T.al T.us T.sz T.txR 1 1 (by decide) (by decide) hu (T.ts 3) (I.rel.2.2.2.1 3) (lw_sz I 3 (by decide)) p3) v_Md_text l_Lw_law_773 d_Lw_law_773 rfl ⟨by decide, by decide⟩ ⟨by omega, by omega⟩ [] rfl rfl rfl rfl rfl rfl (Nat.le_of_ble_eq_true rfl) ?_
  rintro _ _ ⟨rfl, rfl⟩
  refine mj_k rfl rfl ?_
  refine lw_eq E (u_txt (t := 3) (I.rel.2.2.1 3 (by decide)) p3) d_Lw_law_776 (tgt := 831) (by decide) ?_
  have I2 : lwI ((T.rc, T.n, T.f, T.ph, T.ch, T.cp, T.sh, T.sp, T.ha, T.lv), (T.tx, T.hd, T.ts, T.hs, T.nx, T.rr, T.bg, T.en, T.rows, T.tot, T.a), (T.k1, T.k2, T.k3, T.k4, T.k5, T.k6, T.k7, T.k8, T.bm, T.bl, T.bt, T.fm, T.fl, T.ft), (0, T.ck, T.us, T.rh, T.rp9, T.rs, T.rq, T.hr), (T.bgn, T.nxR, T.enR, T.sz, T.txR, T.hl, T.hb, T.tr, T.al, T.ra, T.lvR, T.pl, T.at9), (T.R, T.wy, T.pt, T.os, T.N, T.F, T.g)) := ⟨I.n1, I.by1, I.rel, I.rul, I.cs1, I.cs2, I.fr1⟩
  exact lw_end E k I2 (by omega) (by omega)
set_option maxRecDepth 100000 in
set_option maxHeartbeats 8000000 in
theorem lw_text_2_0 {st : Bool} {X : mj_X} {l : Launch} {D : va_G} {cA : Nat → ClassId} {L n0 : Nat} {xs : Nat → Int32} (E : lwE X l D cA L xs n0) {i : Nat} (hi : i + 8 ≤ L) (k : lwG st X (i + 8)) {T : lwT} (I : lwI T) (e1 : xs (i + 1) = nI 2) (e2 : xs (i + 2) = 0) {p3 : Int32} (e3 : xs (i + 3) = p3) (hl : T.lv 2 = true) : mj_W zG X (100 + i) (4000 + i) 732 (lwL i) [] (lwF st T ++ lwR T) := by
  have hL := E.hL
  have hu := (lw_hu I (j := 2) (by decide)).mp hl
  refine mj_blk E.h.1 b_Lw_law_732 rfl trivial ?_
  refine mj_sl2 E.h.1 E.sp E.hL (k := 1) rfl (by omega) e1 d_Lw_law_738 ?_
  refine mj_blk E.h.1 b_Lw_law_739 rfl trivial ?_
  refine mj_sl2 E.h.1 E.sp E.hL (k := 2) rfl (by omega) e2 d_Lw_law_744 ?_
  refine mj_blk E.h.1 b_Lw_law_745 rfl trivial ?_
  refine mj_sl2 E.h.1 E.sp E.hL (k := 3) rfl (by omega) e3 d_Lw_law_750 ?_
  refine mj_callV E.h zGood (ev_Sw_text_2_0 l D cA st T.rc T.ph T.ch T.cp T.sh T.sp T.ha T.lv T.tx T.hd T.ts T.hs T.nx T.rr T.bg T.en hl (I.rel.2.2.2.1 4) p3) v_Sw_text l_Lw_law_751 d_Lw_law_751 rfl ⟨by decide, by decide⟩ ⟨by omega, by omega⟩ [] rfl rfl rfl rfl rfl rfl (Nat.le_of_ble_eq_true rfl) ?_
  rintro _ _ ⟨rfl, rfl⟩
  refine mj_k rfl rfl ?_
  refine mj_blk E.h.1 b_Lw_law_754 rfl trivial ?_
  refine mj_sl2 E.h.1 E.sp E.hL (k := 1) rfl (by omega) e1 d_Lw_law_760 ?_
  refine mj_blk E.h.1 b_Lw_law_761 rfl trivial ?_
  refine mj_sl2 E.h.1 E.sp E.hL (k := 2) rfl (by omega) e2 d_Lw_law_766 ?_
  refine mj_blk E.h.1 b_Lw_law_767 rfl trivial ?_
  refine mj_sl2 E.h.1 E.sp E.hL (k := 3) rfl (by omega) e3 d_Lw_law_772 ?_
  refine mj_callV E.h zGood (ev_Md_text1 l D cA T.th st T.n T.ck T.rc T.tr T.al T.us T.sz T.txR 2 0 (by decide) (by decide) hu (T.ts 4) (I.rel.2.2.2.1 4) (lw_sz I 4 (by decide)) p3) v_Md_text l_Lw_law_773 d_Lw_law_773 rfl ⟨by decide, by decide⟩ ⟨by omega, by omega⟩ [] rfl rfl rfl rfl rfl rfl (Nat.le_of_ble_eq_true rfl) ?_
  rintro _ _ ⟨rfl, rfl⟩
  refine mj_k rfl rfl ?_
  refine lw_eq E (u_txt (t := 4) (I.rel.2.2.1 4 (by decide)) p3) d_Lw_law_776 (tgt := 831) (by decide) ?_
  have I2 : lwI ((T.rc, T.n, T.f, T.ph, T.ch, T.cp, T.sh, T.sp, T.ha, T.lv), (T.tx, T.hd, T.ts, T.hs, T.nx, T.rr, T.bg, T.en, T.rows, T.tot, T.a), (T.k1, T.k2, T.k3, T.k4, T.k5, T.k6, T.k7, T.k8, T.bm, T.bl, T.bt, T.fm, T.fl, T.ft), (0, T.ck, T.us, T.rh, T.rp9, T.rs, T.rq, T.hr), (T.bgn, T.nxR, T.enR, T.sz, T.txR, T.hl, T.hb, T.tr, T.al, T.ra, T.lvR, T.pl, T.at9), (T.R, T.wy, T.pt, T.os, T.N, T.F, T.g)) := ⟨I.n1, I.by1, I.rel, I.rul, I.cs1, I.cs2, I.fr1⟩
  exact lw_end E k I2 (by omega) (by omega)
set_option maxRecDepth 100000 in
set_option maxHeartbeats 8000000 in
theorem lw_text_2_1 {st : Bool} {X : mj_X} {l : Launch} {D : va_G} {cA : Nat → ClassId} {L n0 : Nat} {xs : Nat → Int32} (E : lwE X l D cA L xs n0) {i : Nat} (hi : i + 8 ≤ L) (k : lwG st X (i + 8)) {T : lwT} (I : lwI T) (e1 : xs (i + 1) = nI 2) (e2 : xs (i + 2) = 1) {p3 : Int32} (e3 : xs (i + 3) = p3) (hl : T.lv 2 = true) : mj_W zG X (100 + i) (4000 + i) 732 (lwL i) [] (lwF st T ++ lwR T) := by
  have hL := E.hL
  have hu := (lw_hu I (j := 2) (by decide)).mp hl
  refine mj_blk E.h.1 b_Lw_law_732 rfl trivial ?_
  refine mj_sl2 E.h.1 E.sp E.hL (k := 1) rfl (by omega) e1 d_Lw_law_738 ?_
  refine mj_blk E.h.1 b_Lw_law_739 rfl trivial ?_
  refine mj_sl2 E.h.1 E.sp E.hL (k := 2) rfl (by omega) e2 d_Lw_law_744 ?_
  refine mj_blk E.h.1 b_Lw_law_745 rfl trivial ?_
  refine mj_sl2 E.h.1 E.sp E.hL (k := 3) rfl (by omega) e3 d_Lw_law_750 ?_
  refine mj_callV E.h zGood (ev_Sw_text_2_1 l D cA st T.rc T.ph T.ch T.cp T.sh T.sp T.ha T.lv T.tx T.hd T.ts T.hs T.nx T.rr T.bg T.en hl (I.rel.2.2.2.1 5) p3) v_Sw_text l_Lw_law_751 d_Lw_law_751 rfl ⟨by decide, by decide⟩ ⟨by omega, by omega⟩ [] rfl rfl rfl rfl rfl rfl (Nat.le_of_ble_eq_true rfl) ?_
  rintro _ _ ⟨rfl, rfl⟩
  refine mj_k rfl rfl ?_
  refine mj_blk E.h.1 b_Lw_law_754 rfl trivial ?_
  refine mj_sl2 E.h.1 E.sp E.hL (k := 1) rfl (by omega) e1 d_Lw_law_760 ?_
  refine mj_blk E.h.1 b_Lw_law_761 rfl trivial ?_
  refine mj_sl2 E.h.1 E.sp E.hL (k := 2) rfl (by omega) e2 d_Lw_law_766 ?_
  refine mj_blk E.h.1 b_Lw_law_767 rfl trivial ?_
  refine mj_sl2 E.h.1 E.sp E.hL (k := 3) rfl (by omega) e3 d_Lw_law_772 ?_
  refine mj_callV E.h zGood (ev_Md_text1 l D cA T.th st T.n T.ck T.rc T.tr T.al T.us T.sz T.txR 2 1 (by decide) (by decide) hu (T.ts 5) (I.rel.2.2.2.1 5) (lw_sz I 5 (by decide)) p3) v_Md_text l_Lw_law_773 d_Lw_law_773 rfl ⟨by decide, by decide⟩ ⟨by omega, by omega⟩ [] rfl rfl rfl rfl rfl rfl (Nat.le_of_ble_eq_true rfl) ?_
  rintro _ _ ⟨rfl, rfl⟩
  refine mj_k rfl rfl ?_
  refine lw_eq E (u_txt (t := 5) (I.rel.2.2.1 5 (by decide)) p3) d_Lw_law_776 (tgt := 831) (by decide) ?_
  have I2 : lwI ((T.rc, T.n, T.f, T.ph, T.ch, T.cp, T.sh, T.sp, T.ha, T.lv), (T.tx, T.hd, T.ts, T.hs, T.nx, T.rr, T.bg, T.en, T.rows, T.tot, T.a), (T.k1, T.k2, T.k3, T.k4, T.k5, T.k6, T.k7, T.k8, T.bm, T.bl, T.bt, T.fm, T.fl, T.ft), (0, T.ck, T.us, T.rh, T.rp9, T.rs, T.rq, T.hr), (T.bgn, T.nxR, T.enR, T.sz, T.txR, T.hl, T.hb, T.tr, T.al, T.ra, T.lvR, T.pl, T.at9), (T.R, T.wy, T.pt, T.os, T.N, T.F, T.g)) := ⟨I.n1, I.by1, I.rel, I.rul, I.cs1, I.cs2, I.fr1⟩
  exact lw_end E k I2 (by omega) (by omega)
set_option maxRecDepth 100000 in
set_option maxHeartbeats 8000000 in
theorem lw_text_3_0 {st : Bool} {X : mj_X} {l : Launch} {D : va_G} {cA : Nat → ClassId} {L n0 : Nat} {xs : Nat → Int32} (E : lwE X l D cA L xs n0) {i : Nat} (hi : i + 8 ≤ L) (k : lwG st X (i + 8)) {T : lwT} (I : lwI T) (e1 : xs (i + 1) = nI 3) (e2 : xs (i + 2) = 0) {p3 : Int32} (e3 : xs (i + 3) = p3) (hl : T.lv 3 = true) : mj_W zG X (100 + i) (4000 + i) 732 (lwL i) [] (lwF st T ++ lwR T) := by
  have hL := E.hL
  have hu := (lw_hu I (j := 3) (by decide)).mp hl
  refine mj_blk E.h.1 b_Lw_law_732 rfl trivial ?_
  refine mj_sl2 E.h.1 E.sp E.hL (k := 1) rfl (by omega) e1 d_Lw_law_738 ?_
  refine mj_blk E.h.1 b_Lw_law_739 rfl trivial ?_
  refine mj_sl2 E.h.1 E.sp E.hL (k := 2) rfl (by omega) e2 d_Lw_law_744 ?_
  refine mj_blk E.h.1 b_Lw_law_745 rfl trivial ?_
  refine mj_sl2 E.h.1 E.sp E.hL (k := 3) rfl (by omega) e3 d_Lw_law_750 ?_
  refine mj_callV E.h zGood (ev_Sw_text_3_0 l D cA st T.rc T.ph T.ch T.cp T.sh T.sp T.ha T.lv T.tx T.hd T.ts T.hs T.nx T.rr T.bg T.en hl (I.rel.2.2.2.1 6) p3) v_Sw_text l_Lw_law_751 d_Lw_law_751 rfl ⟨by decide, by decide⟩ ⟨by omega, by omega⟩ [] rfl rfl rfl rfl rfl rfl (Nat.le_of_ble_eq_true rfl) ?_
  rintro _ _ ⟨rfl, rfl⟩
  refine mj_k rfl rfl ?_
  refine mj_blk E.h.1 b_Lw_law_754 rfl trivial ?_
  refine mj_sl2 E.h.1 E.sp E.hL (k := 1) rfl (by omega) e1 d_Lw_law_760 ?_
  refine mj_blk E.h.1 b_Lw_law_761 rfl trivial ?_
  refine mj_sl2 E.h.1 E.sp E.hL (k := 2) rfl (by omega) e2 d_Lw_law_766 ?_
  refine mj_blk E.h.1 b_Lw_law_767 rfl trivial ?_
  refine mj_sl2 E.h.1 E.sp E.hL (k := 3) rfl (by omega) e3 d_Lw_law_772 ?_
  refine mj_callV E.h zGood (ev_Md_text1 l D cA T.th st T.n T.ck T.rc T.tr T.al T.us T.sz T.txR 3 0 (by decide) (by decide) hu (T.ts 6) (I.rel.2.2.2.1 6) (lw_sz I 6 (by decide)) p3) v_Md_text l_Lw_law_773 d_Lw_law_773 rfl ⟨by decide, by decide⟩ ⟨by omega, by omega⟩ [] rfl rfl rfl rfl rfl rfl (Nat.le_of_ble_eq_true rfl) ?_
  rintro _ _ ⟨rfl, rfl⟩
  refine mj_k rfl rfl ?_
  refine lw_eq E (u_txt (t := 6) (I.rel.2.2.1 6 (by decide)) p3) d_Lw_law_776 (tgt := 831) (by decide) ?_
  have I2 : lwI ((T.rc, T.n, T.f, T.ph, T.ch, T.cp, T.sh, T.sp, T.ha, T.lv), (T.tx, T.hd, T.ts, T.hs, T.nx, T.rr, T.bg, T.en, T.rows, T.tot, T.a), (T.k1, T.k2, T.k3, T.k4, T.k5, T.k6, T.k7, T.k8, T.bm, T.bl, T.bt, T.fm, T.fl, T.ft), (0, T.ck, T.us, T.rh, T.rp9, T.rs, T.rq, T.hr), (T.bgn, T.nxR, T.enR, T.sz, T.txR, T.hl, T.hb, T.tr, T.al, T.ra, T.lvR, T.pl, T.at9), (T.R, T.wy, T.pt, T.os, T.N, T.F, T.g)) := ⟨I.n1, I.by1, I.rel, I.rul, I.cs1, I.cs2, I.fr1⟩
  exact lw_end E k I2 (by omega) (by omega)
set_option maxRecDepth 100000 in
set_option maxHeartbeats 8000000 in
theorem lw_text_3_1 {st : Bool} {X : mj_X} {l : Launch} {D : va_G} {cA : Nat → ClassId} {L n0 : Nat} {xs : Nat → Int32} (E : lwE X l D cA L xs n0) {i : Nat} (hi : i + 8 ≤ L) (k : lwG st X (i + 8)) {T : lwT} (I : lwI T) (e1 : xs (i + 1) = nI 3) (e2 : xs (i + 2) = 1) {p3 : Int32} (e3 : xs (i + 3) = p3) (hl : T.lv 3 = true) : mj_W zG X (100 + i) (4000 + i) 732 (lwL i) [] (lwF st T ++ lwR T) := by
  have hL := E.hL
  have hu := (lw_hu I (j := 3) (by decide)).mp hl
  refine mj_blk E.h.1 b_Lw_law_732 rfl trivial ?_
  refine mj_sl2 E.h.1 E.sp E.hL (k := 1) rfl (by omega) e1 d_Lw_law_738 ?_
  refine mj_blk E.h.1 b_Lw_law_739 rfl trivial ?_
  refine mj_sl2 E.h.1 E.sp E.hL (k := 2) rfl (by omega) e2 d_Lw_law_744 ?_
  refine mj_blk E.h.1 b_Lw_law_745 rfl trivial ?_
  refine mj_sl2 E.h.1 E.sp E.hL (k := 3) rfl (by omega) e3 d_Lw_law_750 ?_
  refine mj_callV E.h zGood (ev_Sw_text_3_1 l D cA st T.rc T.ph T.ch T.cp T.sh T.sp T.ha T.lv T.tx T.hd T.ts T.hs T.nx T.rr T.bg T.en hl (I.rel.2.2.2.1 7) p3) v_Sw_text l_Lw_law_751 d_Lw_law_751 rfl ⟨by decide, by decide⟩ ⟨by omega, by omega⟩ [] rfl rfl rfl rfl rfl rfl (Nat.le_of_ble_eq_true rfl) ?_
  rintro _ _ ⟨rfl, rfl⟩
  refine mj_k rfl rfl ?_
  refine mj_blk E.h.1 b_Lw_law_754 rfl trivial ?_
  refine mj_sl2 E.h.1 E.sp E.hL (k := 1) rfl (by omega) e1 d_Lw_law_760 ?_
  refine mj_blk E.h.1 b_Lw_law_761 rfl trivial ?_
  refine mj_sl2 E.h.1 E.sp E.hL (k := 2) rfl (by omega) e2 d_Lw_law_766 ?_
  refine mj_blk E.h.1 b_Lw_law_767 rfl trivial ?_
  refine mj_sl2 E.h.1 E.sp E.hL (k := 3) rfl (by omega) e3 d_Lw_law_772 ?_
  refine mj_callV E.h zGood (ev_Md_text1 l D cA T.th st T.n T.ck T.rc T.tr T.al T.us T.sz T.txR 3 1 (by decide) (by decide) hu (T.ts 7) (I.rel.2.2.2.1 7) (lw_sz I 7 (by decide)) p3) v_Md_text l_Lw_law_773 d_Lw_law_773 rfl ⟨by decide, by decide⟩ ⟨by omega, by omega⟩ [] rfl rfl rfl rfl rfl rfl (Nat.le_of_ble_eq_true rfl) ?_
  rintro _ _ ⟨rfl, rfl⟩
  refine mj_k rfl rfl ?_
  refine lw_eq E (u_txt (t := 7) (I.rel.2.2.1 7 (by decide)) p3) d_Lw_law_776 (tgt := 831) (by decide) ?_
  have I2 : lwI ((T.rc, T.n, T.f, T.ph, T.ch, T.cp, T.sh, T.sp, T.ha, T.lv), (T.tx, T.hd, T.ts, T.hs, T.nx, T.rr, T.bg, T.en, T.rows, T.tot, T.a), (T.k1, T.k2, T.k3, T.k4, T.k5, T.k6, T.k7, T.k8, T.bm, T.bl, T.bt, T.fm, T.fl, T.ft), (0, T.ck, T.us, T.rh, T.rp9, T.rs, T.rq, T.hr), (T.bgn, T.nxR, T.enR, T.sz, T.txR, T.hl, T.hb, T.tr, T.al, T.ra, T.lvR, T.pl, T.at9), (T.R, T.wy, T.pt, T.os, T.N, T.F, T.g)) := ⟨I.n1, I.by1, I.rel, I.rul, I.cs1, I.cs2, I.fr1⟩
  exact lw_end E k I2 (by omega) (by omega)
set_option maxRecDepth 100000 in
set_option maxHeartbeats 8000000 in
theorem lw_text_n0 {st : Bool} {X : mj_X} {l : Launch} {D : va_G} {cA : Nat → ClassId} {L n0 : Nat} {xs : Nat → Int32} (E : lwE X l D cA L xs n0) {i : Nat} (hi : i + 8 ≤ L) (k : lwG st X (i + 8)) {T : lwT} (I : lwI T) {p1 p2 : Int32} (e1 : xs (i + 1) = p1) (e2 : xs (i + 2) = p2) {p3 : Int32} (e3 : xs (i + 3) = p3) (hq : qNo T.lv p1 p2) (hk : ¬ (¬ p1 < 0 ∧ ¬ 4 ≤ p1 ∧ ¬ T.us p1.toNatClampNeg = 0)) : mj_W zG X (100 + i) (4000 + i) 732 (lwL i) [] (lwF st T ++ lwR T) := by
  have hL := E.hL
  refine mj_blk E.h.1 b_Lw_law_732 rfl trivial ?_
  refine mj_sl2 E.h.1 E.sp E.hL (k := 1) rfl (by omega) e1 d_Lw_law_738 ?_
  refine mj_blk E.h.1 b_Lw_law_739 rfl trivial ?_
  refine mj_sl2 E.h.1 E.sp E.hL (k := 2) rfl (by omega) e2 d_Lw_law_744 ?_
  refine mj_blk E.h.1 b_Lw_law_745 rfl trivial ?_
  refine mj_sl2 E.h.1 E.sp E.hL (k := 3) rfl (by omega) e3 d_Lw_law_750 ?_
  refine mj_callV E.h zGood (ev_Sw_text_no l D cA st T.rc T.ph T.ch T.cp T.sh T.sp T.ha T.lv p1 p2 hq p3) v_Sw_text l_Lw_law_751 d_Lw_law_751 rfl ⟨by decide, by decide⟩ ⟨by omega, by omega⟩ [] rfl rfl rfl rfl rfl rfl (Nat.le_of_ble_eq_true rfl) ?_
  rintro _ _ ⟨rfl, rfl⟩
  refine mj_k rfl rfl ?_
  refine mj_blk E.h.1 b_Lw_law_754 rfl trivial ?_
  refine mj_sl2 E.h.1 E.sp E.hL (k := 1) rfl (by omega) e1 d_Lw_law_760 ?_
  refine mj_blk E.h.1 b_Lw_law_761 rfl trivial ?_
  refine mj_sl2 E.h.1 E.sp E.hL (k := 2) rfl (by omega) e2 d_Lw_law_766 ?_
  refine mj_blk E.h.1 b_Lw_law_767 rfl trivial ?_
  refine mj_sl2 E.h.1 E.sp E.hL (k := 3) rfl (by omega) e3 d_Lw_law_772 ?_
  refine mj_callV E.h zGood (ev_Md_text0 l D cA T.th st T.n T.ck T.rc T.tr T.al T.us T.sz T.txR p1 hk p2 p3) v_Md_text l_Lw_law_773 d_Lw_law_773 rfl ⟨by decide, by decide⟩ ⟨by omega, by omega⟩ [] rfl rfl rfl rfl rfl rfl (Nat.le_of_ble_eq_true rfl) ?_
  rintro _ _ ⟨rfl, rfl⟩
  refine mj_k rfl rfl ?_
  refine lw_eq E (rfl) d_Lw_law_776 (tgt := 831) (by decide) ?_
  have I2 : lwI ((T.rc, T.n, T.f, T.ph, T.ch, T.cp, T.sh, T.sp, T.ha, T.lv), (T.tx, T.hd, T.ts, T.hs, T.nx, T.rr, T.bg, T.en, T.rows, T.tot, T.a), (T.k1, T.k2, T.k3, T.k4, T.k5, T.k6, T.k7, T.k8, T.bm, T.bl, T.bt, T.fm, T.fl, T.ft), (0, T.ck, T.us, T.rh, T.rp9, T.rs, T.rq, T.hr), (T.bgn, T.nxR, T.enR, T.sz, T.txR, T.hl, T.hb, T.tr, T.al, T.ra, T.lvR, T.pl, T.at9), (T.R, T.wy, T.pt, T.os, T.N, T.F, T.g)) := ⟨I.n1, I.by1, I.rel, I.rul, I.cs1, I.cs2, I.fr1⟩
  exact lw_end E k I2 (by omega) (by omega)
set_option maxRecDepth 100000 in
set_option maxHeartbeats 8000000 in
theorem lw_text_n2 {st : Bool} {X : mj_X} {l : Launch} {D : va_G} {cA : Nat → ClassId} {L n0 : Nat} {xs : Nat → Int32} (E : lwE X l D cA L xs n0) {i : Nat} (hi : i + 8 ≤ L) (k : lwG st X (i + 8)) {T : lwT} (I : lwI T) {j : Nat} (hj : j < 4) {p2 : Int32} (e1 : xs (i + 1) = nI j) (e2 : xs (i + 2) = p2) {p3 : Int32} (e3 : xs (i + 3) = p3) (hq : qNo T.lv (nI j) p2) (hu : ¬ T.us j = 0) (hy : p2 < 0 ∨ 1 < p2) : mj_W zG X (100 + i) (4000 + i) 732 (lwL i) [] (lwF st T ++ lwR T) := by
  have hL := E.hL
  refine mj_blk E.h.1 b_Lw_law_732 rfl trivial ?_
  refine mj_sl2 E.h.1 E.sp E.hL (k := 1) rfl (by omega) e1 d_Lw_law_738 ?_
  refine mj_blk E.h.1 b_Lw_law_739 rfl trivial ?_
  refine mj_sl2 E.h.1 E.sp E.hL (k := 2) rfl (by omega) e2 d_Lw_law_744 ?_
  refine mj_blk E.h.1 b_Lw_law_745 rfl trivial ?_
  refine mj_sl2 E.h.1 E.sp E.hL (k := 3) rfl (by omega) e3 d_Lw_law_750 ?_
  refine mj_callV E.h zGood (ev_Sw_text_no l D cA st T.rc T.ph T.ch T.cp T.sh T.sp T.ha T.lv (nI j) p2 hq p3) v_Sw_text l_Lw_law_751 d_Lw_law_751 rfl ⟨by decide, by decide⟩ ⟨by omega, by omega⟩ [] rfl rfl rfl rfl rfl rfl (Nat.le_of_ble_eq_true rfl) ?_
  rintro _ _ ⟨rfl, rfl⟩
  refine mj_k rfl rfl ?_
  refine mj_blk E.h.1 b_Lw_law_754 rfl trivial ?_
  refine mj_sl2 E.h.1 E.sp E.hL (k := 1) rfl (by omega) e1 d_Lw_law_760 ?_
  refine mj_blk E.h.1 b_Lw_law_761 rfl trivial ?_
  refine mj_sl2 E.h.1 E.sp E.hL (k := 2) rfl (by omega) e2 d_Lw_law_766 ?_
  refine mj_blk E.h.1 b_Lw_law_767 rfl trivial ?_
  refine mj_sl2 E.h.1 E.sp E.hL (k := 3) rfl (by omega) e3 d_Lw_law_772 ?_
  refine mj_callV E.h zGood (ev_Md_text2 l D cA T.th st T.n T.ck T.rc T.tr T.al T.us T.sz T.txR j hj hu p2 hy p3) v_Md_text l_Lw_law_773 d_Lw_law_773 rfl ⟨by decide, by decide⟩ ⟨by omega, by omega⟩ [] rfl rfl rfl rfl rfl rfl (Nat.le_of_ble_eq_true rfl) ?_
  rintro _ _ ⟨rfl, rfl⟩
  refine mj_k rfl rfl ?_
  refine lw_eq E (rfl) d_Lw_law_776 (tgt := 831) (by decide) ?_
  have I2 : lwI ((T.rc, T.n, T.f, T.ph, T.ch, T.cp, T.sh, T.sp, T.ha, T.lv), (T.tx, T.hd, T.ts, T.hs, T.nx, T.rr, T.bg, T.en, T.rows, T.tot, T.a), (T.k1, T.k2, T.k3, T.k4, T.k5, T.k6, T.k7, T.k8, T.bm, T.bl, T.bt, T.fm, T.fl, T.ft), (0, T.ck, T.us, T.rh, T.rp9, T.rs, T.rq, T.hr), (T.bgn, T.nxR, T.enR, T.sz, T.txR, T.hl, T.hb, T.tr, T.al, T.ra, T.lvR, T.pl, T.at9), (T.R, T.wy, T.pt, T.os, T.N, T.F, T.g)) := ⟨I.n1, I.by1, I.rel, I.rul, I.cs1, I.cs2, I.fr1⟩
  exact lw_end E k I2 (by omega) (by omega)
set_option maxRecDepth 100000 in
set_option maxHeartbeats 8000000 in
theorem lw_text {st : Bool} {X : mj_X} {l : Launch} {D : va_G} {cA : Nat → ClassId} {L n0 : Nat} {xs : Nat → Int32} (E : lwE X l D cA L xs n0) {i : Nat} (hi : i + 8 ≤ L) (k : lwG st X (i + 8)) {T : lwT} (I : lwI T) {p1 p2 p3 : Int32} (e1 : xs (i + 1) = p1) (e2 : xs (i + 2) = p2) (e3 : xs (i + 3) = p3) : mj_W zG X (100 + i) (4000 + i) 732 (lwL i) [] (lwF st T ++ lwR T) := by
  have hL := E.hL
  rcases pk_ix p1 (n := 4) (by decide) with h1 | h1 | ⟨j, hj, rfl⟩
  · exact lw_text_n0 E hi k I e1 e2 e3 (Or.inl (Or.inl h1)) (lw_out (Or.inl h1))
  · exact lw_text_n0 E hi k I e1 e2 e3 (Or.inl (Or.inr h1)) (lw_out (Or.inr h1))
  · by_cases hl : T.lv j = true
    · have hu := (lw_hu I hj).mp hl
      by_cases hy0 : p2 = 0
      · subst hy0
        match j, hj with
        | 0, _ => exact lw_text_0_0 E hi k I e1 e2 e3 hl
        | 1, _ => exact lw_text_1_0 E hi k I e1 e2 e3 hl
        | 2, _ => exact lw_text_2_0 E hi k I e1 e2 e3 hl
        | 3, _ => exact lw_text_3_0 E hi k I e1 e2 e3 hl
        | j + 4, hj => omega
      · by_cases hy1 : p2 = 1
        · subst hy1
          match j, hj with
          | 0, _ => exact lw_text_0_1 E hi k I e1 e2 e3 hl
          | 1, _ => exact lw_text_1_1 E hi k I e1 e2 e3 hl
          | 2, _ => exact lw_text_2_1 E hi k I e1 e2 e3 hl
          | 3, _ => exact lw_text_3_1 E hi k I e1 e2 e3 hl
          | j + 4, hj => omega
        · exact lw_text_n2 E hi k I hj e1 e2 e3 (Or.inr ⟨j, hj, rfl, Or.inr ⟨hy0, hy1⟩⟩) hu (lw_y2 hy0 hy1)
    · exact lw_text_n0 E hi k I e1 e2 e3 (Or.inr ⟨j, hj, rfl, Or.inl hl⟩) (lw_dead hj (lw_us0 I hj hl))
