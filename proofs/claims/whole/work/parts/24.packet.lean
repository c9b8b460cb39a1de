/-! Packet (by program: wip/whole/src_mid.py) -/
abbrev cPk (fh fp th tp fn ds dz fg : Int32) : mj_C := .inr (5, [.int fh, .int fp, .int th, .int tp, .int fn, .int ds, .int dz, .int fg])
abbrev cWi (b : Nat) (n : Nat) : mj_C := .inr (9, [.ref b, .int (nI n)])
abbrev cIs (k : Nat) (f : Nat → Int32) : mj_C := .inl (0, k, .inl f)
def pFg (n : Nat) (f : Nat → Int32) : Int32 := wA n f (nI (wIpN n f) + 13)
def pFn (n : Nat) (f : Nat → Int32) : Int32 := wQuad n f (nI (wIpN n f) + 4) + (if ¬ pFg n f &&& 2 = 0 then 1 else 0)
abbrev cPr (n : Nat) (f : Nat → Int32) : mj_C := cPk (wQuad n f 12) (wPair n f (nI (wIpN n f))) (wQuad n f 16) (wPair n f (nI (wIpN n f) + 2)) (pFn n f) (wDs n f) (wPair n f 2 - wDs n f) (pFg n f)
section PACKET
variable (l : Launch) (D : va_G) (cA : Nat → ClassId) (fh fp th tp fn ds dz fg : Int32)

set_option maxRecDepth 100000 in
set_option maxHeartbeats 4000000 in
theorem ev_Pk_hasFlag (b : Int32) : E0_Pk_hasFlag l D cA [.ref 0, .int b] [(0, cPk fh fp th tp fn ds dz fg)] (some (.int (if ¬ fg &&& b = 0 then 1 else 0))) [(0, cPk fh fp th tp fn ds dz fg)] := by
  refine mj_ev (lv := [(0, .ref 0), (1, .int b)]) (by decide +kernel) (Nat.le_of_ble_eq_true rfl) rfl (fun X h => ?_)
  refine mj_blk h.1 b_Pk_hasFlag_0 rfl trivial ?_
  first | refine mj_ifeqB h.1 (tgt := 13) d_Pk_hasFlag_6 (by decide) (fun h1 => ?_) (fun h1 => ?_) | refine mj_ifeq h.1 (tgt := 13) d_Pk_hasFlag_6 (by decide) (fun h1 => ?_) (fun h1 => ?_)
  · refine mj_blk h.1 b_Pk_hasFlag_13 rfl trivial ?_
    exact mj_zret h rfl (by first | exact Or.inl rfl | exact Or.inr rfl) d_Pk_hasFlag_14 (by decide) (by decide) ⟨by first | (rw [if_pos h1]; done) | (rw [if_neg (fun h9 => h9 h1)]; done), rfl⟩
  · refine mj_blk h.1 b_Pk_hasFlag_9 rfl trivial ?_
    exact mj_zret h rfl (by first | exact Or.inl rfl | exact Or.inr rfl) d_Pk_hasFlag_14 (by decide) (by decide) ⟨by first | (rw [if_pos h1]; done) | (rw [if_neg (fun h9 => h9 h1)]; done), rfl⟩
set_option maxRecDepth 100000 in
set_option maxHeartbeats 4000000 in
theorem ev_Pk_read (n : Nat) (hn : n ≤ 100) (f : Nat → Int32) : E0_Pk_read l D cA [.ref 0, .ref 1] [(0, cPk fh fp th tp fn ds dz fg), (1, cWi 2 n), (2, cIs 100 f)] none [(0, cPr n f), (1, cWi 2 n), (2, cIs 100 f)] := by
  refine mj_ev (lv := [(0, .ref 0), (1, .ref 1)]) (by decide +kernel) (Nat.le_of_ble_eq_true rfl) rfl (fun X h => ?_)
  refine mj_blk h.1 b_Pk_read_0 rfl trivial ?_
  refine mj_callV h zGood (ev_Wi_ipSize l D cA _ hn _) v_Wi_ipSize l_Pk_read_1 d_Pk_read_1 rfl ⟨by decide, by decide⟩ ⟨by decide, by decide⟩ [(0, 1), (1, 2)] rfl rfl rfl rfl rfl rfl (Nat.le_of_ble_eq_true rfl) ?_
  rintro _ _ ⟨rfl, rfl⟩
  refine mj_k rfl rfl ?_
  refine mj_blk h.1 b_Pk_read_4 rfl trivial ?_
  refine mj_callV h zGood (ev_Wi_quadAt l D cA _ hn _ _) v_Wi_quadAt l_Pk_read_9 d_Pk_read_9 rfl ⟨by decide, by decide⟩ ⟨by decide, by decide⟩ [(0, 1), (1, 2)] rfl rfl rfl rfl rfl rfl (Nat.le_of_ble_eq_true rfl) ?_
  rintro _ _ ⟨rfl, rfl⟩
  refine mj_k rfl rfl ?_
  refine mj_blk h.1 b_Pk_read_12 rfl trivial ?_
  refine mj_callV h zGood (ev_Wi_quadAt l D cA _ hn _ _) v_Wi_quadAt l_Pk_read_19 d_Pk_read_19 rfl ⟨by decide, by decide⟩ ⟨by decide, by decide⟩ [(0, 1), (1, 2)] rfl rfl rfl rfl rfl rfl (Nat.le_of_ble_eq_true rfl) ?_
  rintro _ _ ⟨rfl, rfl⟩
  refine mj_k rfl rfl ?_
  refine mj_blk h.1 b_Pk_read_22 rfl trivial ?_
  refine mj_callV h zGood (ev_Wi_pairAt l D cA _ hn _ _) v_Wi_pairAt l_Pk_read_28 d_Pk_read_28 rfl ⟨by decide, by decide⟩ ⟨by decide, by decide⟩ [(0, 1), (1, 2)] rfl rfl rfl rfl rfl rfl (Nat.le_of_ble_eq_true rfl) ?_
  rintro _ _ ⟨rfl, rfl⟩
  refine mj_k rfl rfl ?_
  refine mj_blk h.1 b_Pk_read_31 rfl trivial ?_
  refine mj_callV h zGood (ev_Wi_pairAt l D cA _ hn _ _) v_Wi_pairAt l_Pk_read_39 d_Pk_read_39 rfl ⟨by decide, by decide⟩ ⟨by decide, by decide⟩ [(0, 1), (1, 2)] rfl rfl rfl rfl rfl rfl (Nat.le_of_ble_eq_true rfl) ?_
  rintro _ _ ⟨rfl, rfl⟩
  refine mj_k rfl rfl ?_
  refine mj_blk h.1 b_Pk_read_42 rfl trivial ?_
  refine mj_callV h zGood (ev_Wi_at l D cA _ hn _ _) v_Wi_at l_Pk_read_51 d_Pk_read_51 rfl ⟨by decide, by decide⟩ ⟨by decide, by decide⟩ [(0, 1), (1, 2)] rfl rfl rfl rfl rfl rfl (Nat.le_of_ble_eq_true rfl) ?_
  rintro _ _ ⟨rfl, rfl⟩
  refine mj_k rfl rfl ?_
  refine mj_blk h.1 b_Pk_read_54 rfl trivial ?_
  refine mj_callV h zGood (ev_Wi_quadAt l D cA _ hn _ _) v_Wi_quadAt l_Pk_read_62 d_Pk_read_62 rfl ⟨by decide, by decide⟩ ⟨by decide, by decide⟩ [(0, 1), (1, 2)] rfl rfl rfl rfl rfl rfl (Nat.le_of_ble_eq_true rfl) ?_
  rintro _ _ ⟨rfl, rfl⟩
  refine mj_k rfl rfl ?_
  refine mj_blk h.1 b_Pk_read_65 rfl trivial ?_
  refine mj_callV h zGood (ev_Pk_hasFlag l D cA _ _ _ _ _ _ _ _ _) v_Pk_hasFlag l_Pk_read_67 d_Pk_read_67 rfl ⟨by decide, by decide⟩ ⟨by decide, by decide⟩ [(0, 0)] rfl rfl rfl rfl rfl rfl (Nat.le_of_ble_eq_true rfl) ?_
  rintro _ _ ⟨rfl, rfl⟩
  refine mj_k rfl rfl ?_
  first | refine mj_ifeqB h.1 (tgt := 77) d_Pk_read_70 (by decide) (fun h1 => ?_) (fun h1 => ?_) | refine mj_ifeq h.1 (tgt := 77) d_Pk_read_70 (by decide) (fun h1 => ?_) (fun h1 => ?_)
  · refine mj_blk h.1 b_Pk_read_77 rfl trivial ?_
    refine mj_blk h.1 b_Pk_read_78 rfl trivial ?_
    refine mj_callV h zGood (ev_Wi_dataStart l D cA _ hn _) v_Wi_dataStart l_Pk_read_84 d_Pk_read_84 rfl ⟨by decide, by decide⟩ ⟨by decide, by decide⟩ [(0, 1), (1, 2)] rfl rfl rfl rfl rfl rfl (Nat.le_of_ble_eq_true rfl) ?_
    rintro _ _ ⟨rfl, rfl⟩
    refine mj_k rfl rfl ?_
    refine mj_blk h.1 b_Pk_read_87 rfl trivial ?_
    refine mj_callV h zGood (ev_Wi_length l D cA _ hn _) v_Wi_length l_Pk_read_92 d_Pk_read_92 rfl ⟨by decide, by decide⟩ ⟨by decide, by decide⟩ [(0, 1), (1, 2)] rfl rfl rfl rfl rfl rfl (Nat.le_of_ble_eq_true rfl) ?_
    rintro _ _ ⟨rfl, rfl⟩
    refine mj_k rfl rfl ?_
    refine mj_blk h.1 b_Pk_read_95 rfl trivial ?_
    exact mj_vret h rfl d_Pk_read_103 (by decide) (by decide) ⟨rfl, by unfold cPr pFn pFg; first | (rw [if_neg h1]; done) | (rw [if_pos h1]; done)⟩
  · refine mj_blk h.1 b_Pk_read_73 rfl trivial ?_
    refine mj_blk h.1 b_Pk_read_78 rfl trivial ?_
    refine mj_callV h zGood (ev_Wi_dataStart l D cA _ hn _) v_Wi_dataStart l_Pk_read_84 d_Pk_read_84 rfl ⟨by decide, by decide⟩ ⟨by decide, by decide⟩ [(0, 1), (1, 2)] rfl rfl rfl rfl rfl rfl (Nat.le_of_ble_eq_true rfl) ?_
    rintro _ _ ⟨rfl, rfl⟩
    refine mj_k rfl rfl ?_
    refine mj_blk h.1 b_Pk_read_87 rfl trivial ?_
    refine mj_callV h zGood (ev_Wi_length l D cA _ hn _) v_Wi_length l_Pk_read_92 d_Pk_read_92 rfl ⟨by decide, by decide⟩ ⟨by decide, by decide⟩ [(0, 1), (1, 2)] rfl rfl rfl rfl rfl rfl (Nat.le_of_ble_eq_true rfl) ?_
    rintro _ _ ⟨rfl, rfl⟩
    refine mj_k rfl rfl ?_
    refine mj_blk h.1 b_Pk_read_95 rfl trivial ?_
    exact mj_vret h rfl d_Pk_read_103 (by decide) (by decide) ⟨rfl, by unfold cPr pFn pFg; first | (rw [if_neg h1]; done) | (rw [if_pos h1]; done)⟩
end PACKET
