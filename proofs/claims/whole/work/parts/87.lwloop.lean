/-! the law's loop, whole -/
theorem lw_exit {st : Bool} {X : mj_X} {l : Launch} {D : va_G} {cA : Nat → ClassId} {L n0 : Nat} {xs : Nat → Int32} (E : lwE X l D cA L xs n0) {i : Nat} (hi : i ≤ 4105) {lv : mj_L} {w : mj_M} : mj_W zG X (100 + i) (4000 + i) 837 lv [] w := by
  refine mj_blk E.h.1 b_Lw_law_837 rfl trivial ?_
  exact mj_zret E.h rfl (Or.inr rfl) d_Lw_law_838 (by omega) (by omega) rfl
theorem lw_sub8 {L i : Nat} (hL : L ≤ 4097) (hi : i ≤ 4105) : nI L - 8 < nI i ↔ L < i + 8 := by
  rw [Int32.lt_iff_toInt_lt, show (8 : Int32) = nI 8 from rfl, pk_sub_toInt (by omega) (by omega), nI_toInt (by omega)]
  omega
theorem lw_round {st : Bool} {X : mj_X} {l : Launch} {D : va_G} {cA : Nat → ClassId} {L n0 : Nat} {xs : Nat → Int32} (E : lwE X l D cA L xs n0) {i : Nat} (hi9 : i ≤ 4105) (k : i + 8 ≤ L → lwG st X (i + 8)) : lwG st X i := by
  have hL := E.hL
  intro T I
  refine mj_blk E.h.1 b_Lw_law_33 rfl trivial ?_
  refine mj_slen E.h.1 E.sp d_Lw_law_36 ?_
  refine mj_blk E.h.1 b_Lw_law_37 rfl trivial ?_
  refine mj_icgt E.h.1 (tgt := 837) d_Lw_law_40 (by decide) (fun _ => lw_exit (st := st) E hi9) (fun h1 => ?_)
  have hi : i + 8 ≤ L := by
    rw [lw_sub8 hL hi9] at h1
    omega
  have k := k hi
  refine mj_blk E.h.1 b_Lw_law_43 rfl trivial ?_
  refine mj_sld E.h.1 E.sp (vp_in_nI (n := i) (by omega) (by omega)) d_Lw_law_46 ?_
  refine mj_blk E.h.1 b_Lw_law_47 rfl trivial ?_
  obtain ⟨n, hn, e⟩ := pk_andE (xs (nI i).toNatClampNeg) (m := 15) 4 (by decide)
  refine mj_top e ?_
  have hn : n < 16 := hn
  match n, hn with
  | 0, _ => exact mj_tswIn E.h.1 d_Lw_law_50 (by decide) (by decide) (off := 70) (by decide) (tgt := 120) (by decide) (lw_craft E hi k I rfl rfl rfl rfl rfl rfl rfl)
  | 1, _ => exact mj_tswIn E.h.1 d_Lw_law_50 (by decide) (by decide) (off := 222) (by decide) (tgt := 272) (by decide) (lw_alter E hi k I rfl rfl)
  | 2, _ => exact mj_tswIn E.h.1 d_Lw_law_50 (by decide) (by decide) (off := 259) (by decide) (tgt := 309) (by decide) (lw_wipe E hi k I)
  | 3, _ => exact mj_tswIn E.h.1 d_Lw_law_50 (by decide) (by decide) (off := 270) (by decide) (tgt := 320) (by decide) (lw_put E hi k I rfl rfl rfl)
  | 4, _ => exact mj_tswIn E.h.1 d_Lw_law_50 (by decide) (by decide) (off := 339) (by decide) (tgt := 389) (by decide) (lw_seal E hi k I)
  | 5, _ => exact mj_tswIn E.h.1 d_Lw_law_50 (by decide) (by decide) (off := 352) (by decide) (tgt := 402) (by decide) (lw_wire E hi k I rfl)
  | 6, _ => exact mj_tswIn E.h.1 d_Lw_law_50 (by decide) (by decide) (off := 377) (by decide) (tgt := 427) (by decide) (lw_watch E hi k I)
  | 7, _ => exact mj_tswIn E.h.1 d_Lw_law_50 (by decide) (by decide) (off := 390) (by decide) (tgt := 440) (by decide) (lw_rule E hi k I rfl rfl)
  | 8, _ => exact mj_tswIn E.h.1 d_Lw_law_50 (by decide) (by decide) (off := 458) (by decide) (tgt := 508) (by decide) (lw_option E hi k I rfl rfl rfl rfl rfl rfl)
  | 9, _ => exact mj_tswIn E.h.1 d_Lw_law_50 (by decide) (by decide) (off := 596) (by decide) (tgt := 646) (by decide) (lw_flow E hi k I rfl rfl)
  | 10, _ => exact mj_tswIn E.h.1 d_Lw_law_50 (by decide) (by decide) (off := 633) (by decide) (tgt := 683) (by decide) (lw_stream E hi k I rfl rfl rfl)
  | 11, _ => exact mj_tswIn E.h.1 d_Lw_law_50 (by decide) (by decide) (off := 682) (by decide) (tgt := 732) (by decide) (lw_text E hi k I rfl rfl rfl)
  | 12, _ => exact mj_tswIn E.h.1 d_Lw_law_50 (by decide) (by decide) (off := 731) (by decide) (tgt := 781) (by decide) (lw_alerts E hi k I)
  | 13, _ => exact mj_tswIn E.h.1 d_Lw_law_50 (by decide) (by decide) (off := 744) (by decide) (tgt := 794) (by decide) (lw_alert E hi k I rfl rfl)
  | 14, _ => exact mj_tswOut E.h.1 d_Lw_law_50 (by decide) (tgt := 831) (by decide) (lw_end E k I (by omega) (by omega))
  | 15, _ => exact mj_tswOut E.h.1 d_Lw_law_50 (by decide) (tgt := 831) (by decide) (lw_end E k I (by omega) (by omega))
  | n + 16, h => omega
theorem lw_loop {st : Bool} {X : mj_X} {l : Launch} {D : va_G} {cA : Nat → ClassId} {L n0 : Nat} {xs : Nat → Int32} (E : lwE X l D cA L xs n0) : ∀ (m i : Nat), L ≤ i + 8 * m → i ≤ 4105 → lwG st X i := by
  have hL := E.hL
  intro m
  induction m with
  | zero => intro i h1 h2; exact lw_round E h2 (fun h => by omega)
  | succ m ih => intro i h1 h2; exact lw_round E h2 (fun h => ih (i + 8) (by omega) (by omega))
