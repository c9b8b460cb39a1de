/-! StreamWatch: craft's bytes, seal (by program: wip/whole/src_craft.py) -/
def kIp (y : Int32) (c m : Int32) (f : Nat → Int32) : Nat → Int32 := wApp 4 16 (wApp 4 12 (wApp 4 8 (wApp 4 4 (wApp 2 2 (wApp 2 0 f 17664) (40 + m).toInt64) 0) 393216) (if y = 0 then (167772161 + c).toInt64 else 167772417)) (if y = 0 then 167772417 else (167772161 + c).toInt64)
def kTcp (y : Int32) (c sq fg : Int32) (f : Nat → Int32) : Nat → Int32 := wApp 6 34 (wApp 2 32 (wApp 4 28 (wApp 4 24 (wApp 2 22 (wApp 2 20 f (if y = 0 then (1000 + c).toInt64 else 80)) (if y = 0 then 80 else (1000 + c).toInt64)) sq.toInt64) 0) (20480 ||| (fg &&& 63)).toInt64) 0
section SWH
variable (l : Launch) (D : va_G) (cA : Nat → ClassId) (st : Bool) (rc : Nat)

set_option maxRecDepth 100000 in
set_option maxHeartbeats 4000000 in
theorem ev_Sw_writeIpHeader_0 (f : Nat → Int32) (c m : Int32) : E0_Sw_writeIpHeader l D cA [.ref 50, .int c, .int 0, .int m] [(50, cSw st rc), (51, cWi 52 0), (52, cIs 100 f)] none [(50, cSw st rc), (51, cWi 52 20), (52, cIs 100 (kIp 0 c m f))] := by
  refine mj_ev (lv := [(0, .ref 50), (1, .int c), (2, .int 0), (3, .int m)]) (by decide +kernel) (Nat.le_of_ble_eq_true rfl) rfl (fun X h => ?_)
  refine mj_blk h.1 b_Sw_writeIpHeader_0 rfl trivial ?_
  refine mj_callV h zGood (ev_Wi_append1 l D cA 0 (by decide) _ 2 (by decide) _ (by decide)) v_Wi_append l_Sw_writeIpHeader_14 d_Sw_writeIpHeader_14 rfl ⟨by decide, by decide⟩ ⟨by decide, by decide⟩ [(0, 51), (1, 52)] rfl rfl rfl rfl rfl rfl (Nat.le_of_ble_eq_true rfl) ?_
  rintro _ _ ⟨rfl, rfl⟩
  refine mj_k rfl rfl ?_
  refine mj_blk h.1 b_Sw_writeIpHeader_17 rfl trivial ?_
  refine mj_callV h zGood (ev_Wi_append1 l D cA 2 (by decide) _ 2 (by decide) _ (by decide)) v_Wi_append l_Sw_writeIpHeader_28 d_Sw_writeIpHeader_28 rfl ⟨by decide, by decide⟩ ⟨by decide, by decide⟩ [(0, 51), (1, 52)] rfl rfl rfl rfl rfl rfl (Nat.le_of_ble_eq_true rfl) ?_
  rintro _ _ ⟨rfl, rfl⟩
  refine mj_k rfl rfl ?_
  refine mj_blk h.1 b_Sw_writeIpHeader_31 rfl trivial ?_
  refine mj_callV h zGood (ev_Wi_append1 l D cA 4 (by decide) _ 4 (by decide) _ (by decide)) v_Wi_append l_Sw_writeIpHeader_38 d_Sw_writeIpHeader_38 rfl ⟨by decide, by decide⟩ ⟨by decide, by decide⟩ [(0, 51), (1, 52)] rfl rfl rfl rfl rfl rfl (Nat.le_of_ble_eq_true rfl) ?_
  rintro _ _ ⟨rfl, rfl⟩
  refine mj_k rfl rfl ?_
  refine mj_blk h.1 b_Sw_writeIpHeader_41 rfl trivial ?_
  refine mj_callV h zGood (ev_Wi_append1 l D cA 8 (by decide) _ 4 (by decide) _ (by decide)) v_Wi_append l_Sw_writeIpHeader_50 d_Sw_writeIpHeader_50 rfl ⟨by decide, by decide⟩ ⟨by decide, by decide⟩ [(0, 51), (1, 52)] rfl rfl rfl rfl rfl rfl (Nat.le_of_ble_eq_true rfl) ?_
  rintro _ _ ⟨rfl, rfl⟩
  refine mj_k rfl rfl ?_
  refine mj_blk h.1 b_Sw_writeIpHeader_53 rfl trivial ?_
  refine mj_ifne0 h.1 (tgt := 69) d_Sw_writeIpHeader_60 (by decide) ?_
  refine mj_blk h.1 b_Sw_writeIpHeader_63 rfl trivial ?_
  refine mj_callV h zGood (ev_Wi_append1 l D cA 12 (by decide) _ 4 (by decide) _ (by decide)) v_Wi_append l_Sw_writeIpHeader_72 d_Sw_writeIpHeader_72 rfl ⟨by decide, by decide⟩ ⟨by decide, by decide⟩ [(0, 51), (1, 52)] rfl rfl rfl rfl rfl rfl (Nat.le_of_ble_eq_true rfl) ?_
  rintro _ _ ⟨rfl, rfl⟩
  refine mj_k rfl rfl ?_
  refine mj_blk h.1 b_Sw_writeIpHeader_75 rfl trivial ?_
  refine mj_ifne0 h.1 (tgt := 91) d_Sw_writeIpHeader_82 (by decide) ?_
  refine mj_blk h.1 b_Sw_writeIpHeader_85 rfl trivial ?_
  refine mj_callV h zGood (ev_Wi_append1 l D cA 16 (by decide) _ 4 (by decide) _ (by decide)) v_Wi_append l_Sw_writeIpHeader_94 d_Sw_writeIpHeader_94 rfl ⟨by decide, by decide⟩ ⟨by decide, by decide⟩ [(0, 51), (1, 52)] rfl rfl rfl rfl rfl rfl (Nat.le_of_ble_eq_true rfl) ?_
  rintro _ _ ⟨rfl, rfl⟩
  refine mj_k rfl rfl ?_
  refine mj_blk h.1 b_Sw_writeIpHeader_97 rfl trivial ?_
  exact mj_vret h rfl d_Sw_writeIpHeader_98 (by decide) (by decide) ⟨rfl, rfl⟩
set_option maxRecDepth 100000 in
set_option maxHeartbeats 4000000 in
theorem ev_Sw_writeTcpHeader_0 (f : Nat → Int32) (c sq fg : Int32) : E0_Sw_writeTcpHeader l D cA [.ref 50, .int c, .int 0, .int sq, .int fg] [(50, cSw st rc), (51, cWi 52 20), (52, cIs 100 f)] none [(50, cSw st rc), (51, cWi 52 40), (52, cIs 100 (kTcp 0 c sq fg f))] := by
  refine mj_ev (lv := [(0, .ref 50), (1, .int c), (2, .int 0), (3, .int sq), (4, .int fg)]) (by decide +kernel) (Nat.le_of_ble_eq_true rfl) rfl (fun X h => ?_)
  refine mj_blk h.1 b_Sw_writeTcpHeader_0 rfl trivial ?_
  refine mj_ifne0 h.1 (tgt := 22) d_Sw_writeTcpHeader_13 (by decide) ?_
  refine mj_blk h.1 b_Sw_writeTcpHeader_16 rfl trivial ?_
  refine mj_callV h zGood (ev_Wi_append1 l D cA 20 (by decide) _ 2 (by decide) _ (by decide)) v_Wi_append l_Sw_writeTcpHeader_25 d_Sw_writeTcpHeader_25 rfl ⟨by decide, by decide⟩ ⟨by decide, by decide⟩ [(0, 51), (1, 52)] rfl rfl rfl rfl rfl rfl (Nat.le_of_ble_eq_true rfl) ?_
  rintro _ _ ⟨rfl, rfl⟩
  refine mj_k rfl rfl ?_
  refine mj_blk h.1 b_Sw_writeTcpHeader_28 rfl trivial ?_
  refine mj_ifne0 h.1 (tgt := 44) d_Sw_writeTcpHeader_35 (by decide) ?_
  refine mj_blk h.1 b_Sw_writeTcpHeader_38 rfl trivial ?_
  refine mj_callV h zGood (ev_Wi_append1 l D cA 22 (by decide) _ 2 (by decide) _ (by decide)) v_Wi_append l_Sw_writeTcpHeader_47 d_Sw_writeTcpHeader_47 rfl ⟨by decide, by decide⟩ ⟨by decide, by decide⟩ [(0, 51), (1, 52)] rfl rfl rfl rfl rfl rfl (Nat.le_of_ble_eq_true rfl) ?_
  rintro _ _ ⟨rfl, rfl⟩
  refine mj_k rfl rfl ?_
  refine mj_blk h.1 b_Sw_writeTcpHeader_50 rfl trivial ?_
  refine mj_callV h zGood (ev_Wi_append1 l D cA 24 (by decide) _ 4 (by decide) _ (by decide)) v_Wi_append l_Sw_writeTcpHeader_58 d_Sw_writeTcpHeader_58 rfl ⟨by decide, by decide⟩ ⟨by decide, by decide⟩ [(0, 51), (1, 52)] rfl rfl rfl rfl rfl rfl (Nat.le_of_ble_eq_true rfl) ?_
  rintro _ _ ⟨rfl, rfl⟩
  refine mj_k rfl rfl ?_
  refine mj_blk h.1 b_Sw_writeTcpHeader_61 rfl trivial ?_
  refine mj_callV h zGood (ev_Wi_append1 l D cA 28 (by decide) _ 4 (by decide) _ (by decide)) v_Wi_append l_Sw_writeTcpHeader_68 d_Sw_writeTcpHeader_68 rfl ⟨by decide, by decide⟩ ⟨by decide, by decide⟩ [(0, 51), (1, 52)] rfl rfl rfl rfl rfl rfl (Nat.le_of_ble_eq_true rfl) ?_
  rintro _ _ ⟨rfl, rfl⟩
  refine mj_k rfl rfl ?_
  refine mj_blk h.1 b_Sw_writeTcpHeader_71 rfl trivial ?_
  refine mj_callV h zGood (ev_Wi_append1 l D cA 32 (by decide) _ 2 (by decide) _ (by decide)) v_Wi_append l_Sw_writeTcpHeader_87 d_Sw_writeTcpHeader_87 rfl ⟨by decide, by decide⟩ ⟨by decide, by decide⟩ [(0, 51), (1, 52)] rfl rfl rfl rfl rfl rfl (Nat.le_of_ble_eq_true rfl) ?_
  rintro _ _ ⟨rfl, rfl⟩
  refine mj_k rfl rfl ?_
  refine mj_blk h.1 b_Sw_writeTcpHeader_90 rfl trivial ?_
  refine mj_callV h zGood (ev_Wi_append1 l D cA 34 (by decide) _ 6 (by decide) _ (by decide)) v_Wi_append l_Sw_writeTcpHeader_98 d_Sw_writeTcpHeader_98 rfl ⟨by decide, by decide⟩ ⟨by decide, by decide⟩ [(0, 51), (1, 52)] rfl rfl rfl rfl rfl rfl (Nat.le_of_ble_eq_true rfl) ?_
  rintro _ _ ⟨rfl, rfl⟩
  refine mj_k rfl rfl ?_
  refine mj_blk h.1 b_Sw_writeTcpHeader_101 rfl trivial ?_
  exact mj_vret h rfl d_Sw_writeTcpHeader_102 (by decide) (by decide) ⟨rfl, rfl⟩
set_option maxRecDepth 100000 in
set_option maxHeartbeats 4000000 in
theorem ev_Sw_writeIpHeader_1 (f : Nat → Int32) (c m : Int32) : E0_Sw_writeIpHeader l D cA [.ref 50, .int c, .int 1, .int m] [(50, cSw st rc), (51, cWi 52 0), (52, cIs 100 f)] none [(50, cSw st rc), (51, cWi 52 20), (52, cIs 100 (kIp 1 c m f))] := by
  refine mj_ev (lv := [(0, .ref 50), (1, .int c), (2, .int 1), (3, .int m)]) (by decide +kernel) (Nat.le_of_ble_eq_true rfl) rfl (fun X h => ?_)
  refine mj_blk h.1 b_Sw_writeIpHeader_0 rfl trivial ?_
  refine mj_callV h zGood (ev_Wi_append1 l D cA 0 (by decide) _ 2 (by decide) _ (by decide)) v_Wi_append l_Sw_writeIpHeader_14 d_Sw_writeIpHeader_14 rfl ⟨by decide, by decide⟩ ⟨by decide, by decide⟩ [(0, 51), (1, 52)] rfl rfl rfl rfl rfl rfl (Nat.le_of_ble_eq_true rfl) ?_
  rintro _ _ ⟨rfl, rfl⟩
  refine mj_k rfl rfl ?_
  refine mj_blk h.1 b_Sw_writeIpHeader_17 rfl trivial ?_
  refine mj_callV h zGood (ev_Wi_append1 l D cA 2 (by decide) _ 2 (by decide) _ (by decide)) v_Wi_append l_Sw_writeIpHeader_28 d_Sw_writeIpHeader_28 rfl ⟨by decide, by decide⟩ ⟨by decide, by decide⟩ [(0, 51), (1, 52)] rfl rfl rfl rfl rfl rfl (Nat.le_of_ble_eq_true rfl) ?_
  rintro _ _ ⟨rfl, rfl⟩
  refine mj_k rfl rfl ?_
  refine mj_blk h.1 b_Sw_writeIpHeader_31 rfl trivial ?_
  refine mj_callV h zGood (ev_Wi_append1 l D cA 4 (by decide) _ 4 (by decide) _ (by decide)) v_Wi_append l_Sw_writeIpHeader_38 d_Sw_writeIpHeader_38 rfl ⟨by decide, by decide⟩ ⟨by decide, by decide⟩ [(0, 51), (1, 52)] rfl rfl rfl rfl rfl rfl (Nat.le_of_ble_eq_true rfl) ?_
  rintro _ _ ⟨rfl, rfl⟩
  refine mj_k rfl rfl ?_
  refine mj_blk h.1 b_Sw_writeIpHeader_41 rfl trivial ?_
  refine mj_callV h zGood (ev_Wi_append1 l D cA 8 (by decide) _ 4 (by decide) _ (by decide)) v_Wi_append l_Sw_writeIpHeader_50 d_Sw_writeIpHeader_50 rfl ⟨by decide, by decide⟩ ⟨by decide, by decide⟩ [(0, 51), (1, 52)] rfl rfl rfl rfl rfl rfl (Nat.le_of_ble_eq_true rfl) ?_
  rintro _ _ ⟨rfl, rfl⟩
  refine mj_k rfl rfl ?_
  refine mj_blk h.1 b_Sw_writeIpHeader_53 rfl trivial ?_
  refine mj_ifne1 h.1 (tgt := 69) d_Sw_writeIpHeader_60 (by decide) ?_
  refine mj_blk h.1 b_Sw_writeIpHeader_69 rfl trivial ?_
  refine mj_callV h zGood (ev_Wi_append1 l D cA 12 (by decide) _ 4 (by decide) _ (by decide)) v_Wi_append l_Sw_writeIpHeader_72 d_Sw_writeIpHeader_72 rfl ⟨by decide, by decide⟩ ⟨by decide, by decide⟩ [(0, 51), (1, 52)] rfl rfl rfl rfl rfl rfl (Nat.le_of_ble_eq_true rfl) ?_
  rintro _ _ ⟨rfl, rfl⟩
  refine mj_k rfl rfl ?_
  refine mj_blk h.1 b_Sw_writeIpHeader_75 rfl trivial ?_
  refine mj_ifne1 h.1 (tgt := 91) d_Sw_writeIpHeader_82 (by decide) ?_
  refine mj_blk h.1 b_Sw_writeIpHeader_91 rfl trivial ?_
  refine mj_callV h zGood (ev_Wi_append1 l D cA 16 (by decide) _ 4 (by decide) _ (by decide)) v_Wi_append l_Sw_writeIpHeader_94 d_Sw_writeIpHeader_94 rfl ⟨by decide, by decide⟩ ⟨by decide, by decide⟩ [(0, 51), (1, 52)] rfl rfl rfl rfl rfl rfl (Nat.le_of_ble_eq_true rfl) ?_
  rintro _ _ ⟨rfl, rfl⟩
  refine mj_k rfl rfl ?_
  refine mj_blk h.1 b_Sw_writeIpHeader_97 rfl trivial ?_
  exact mj_vret h rfl d_Sw_writeIpHeader_98 (by decide) (by decide) ⟨rfl, rfl⟩
set_option maxRecDepth 100000 in
set_option maxHeartbeats 4000000 in
theorem ev_Sw_writeTcpHeader_1 (f : Nat → Int32) (c sq fg : Int32) : E0_Sw_writeTcpHeader l D cA [.ref 50, .int c, .int 1, .int sq, .int fg] [(50, cSw st rc), (51, cWi 52 20), (52, cIs 100 f)] none [(50, cSw st rc), (51, cWi 52 40), (52, cIs 100 (kTcp 1 c sq fg f))] := by
  refine mj_ev (lv := [(0, .ref 50), (1, .int c), (2, .int 1), (3, .int sq), (4, .int fg)]) (by decide +kernel) (Nat.le_of_ble_eq_true rfl) rfl (fun X h => ?_)
  refine mj_blk h.1 b_Sw_writeTcpHeader_0 rfl trivial ?_
  refine mj_ifne1 h.1 (tgt := 22) d_Sw_writeTcpHeader_13 (by decide) ?_
  refine mj_blk h.1 b_Sw_writeTcpHeader_22 rfl trivial ?_
  refine mj_callV h zGood (ev_Wi_append1 l D cA 20 (by decide) _ 2 (by decide) _ (by decide)) v_Wi_append l_Sw_writeTcpHeader_25 d_Sw_writeTcpHeader_25 rfl ⟨by decide, by decide⟩ ⟨by decide, by decide⟩ [(0, 51), (1, 52)] rfl rfl rfl rfl rfl rfl (Nat.le_of_ble_eq_true rfl) ?_
  rintro _ _ ⟨rfl, rfl⟩
  refine mj_k rfl rfl ?_
  refine mj_blk h.1 b_Sw_writeTcpHeader_28 rfl trivial ?_
  refine mj_ifne1 h.1 (tgt := 44) d_Sw_writeTcpHeader_35 (by decide) ?_
  refine mj_blk h.1 b_Sw_writeTcpHeader_44 rfl trivial ?_
  refine mj_callV h zGood (ev_Wi_append1 l D cA 22 (by decide) _ 2 (by decide) _ (by decide)) v_Wi_append l_Sw_writeTcpHeader_47 d_Sw_writeTcpHeader_47 rfl ⟨by decide, by decide⟩ ⟨by decide, by decide⟩ [(0, 51), (1, 52)] rfl rfl rfl rfl rfl rfl (Nat.le_of_ble_eq_true rfl) ?_
  rintro _ _ ⟨rfl, rfl⟩
  refine mj_k rfl rfl ?_
  refine mj_blk h.1 b_Sw_writeTcpHeader_50 rfl trivial ?_
  refine mj_callV h zGood (ev_Wi_append1 l D cA 24 (by decide) _ 4 (by decide) _ (by decide)) v_Wi_append l_Sw_writeTcpHeader_58 d_Sw_writeTcpHeader_58 rfl ⟨by decide, by decide⟩ ⟨by decide, by decide⟩ [(0, 51), (1, 52)] rfl rfl rfl rfl rfl rfl (Nat.le_of_ble_eq_true rfl) ?_
  rintro _ _ ⟨rfl, rfl⟩
  refine mj_k rfl rfl ?_
  refine mj_blk h.1 b_Sw_writeTcpHeader_61 rfl trivial ?_
  refine mj_callV h zGood (ev_Wi_append1 l D cA 28 (by decide) _ 4 (by decide) _ (by decide)) v_Wi_append l_Sw_writeTcpHeader_68 d_Sw_writeTcpHeader_68 rfl ⟨by decide, by decide⟩ ⟨by decide, by decide⟩ [(0, 51), (1, 52)] rfl rfl rfl rfl rfl rfl (Nat.le_of_ble_eq_true rfl) ?_
  rintro _ _ ⟨rfl, rfl⟩
  refine mj_k rfl rfl ?_
  refine mj_blk h.1 b_Sw_writeTcpHeader_71 rfl trivial ?_
  refine mj_callV h zGood (ev_Wi_append1 l D cA 32 (by decide) _ 2 (by decide) _ (by decide)) v_Wi_append l_Sw_writeTcpHeader_87 d_Sw_writeTcpHeader_87 rfl ⟨by decide, by decide⟩ ⟨by decide, by decide⟩ [(0, 51), (1, 52)] rfl rfl rfl rfl rfl rfl (Nat.le_of_ble_eq_true rfl) ?_
  rintro _ _ ⟨rfl, rfl⟩
  refine mj_k rfl rfl ?_
  refine mj_blk h.1 b_Sw_writeTcpHeader_90 rfl trivial ?_
  refine mj_callV h zGood (ev_Wi_append1 l D cA 34 (by decide) _ 6 (by decide) _ (by decide)) v_Wi_append l_Sw_writeTcpHeader_98 d_Sw_writeTcpHeader_98 rfl ⟨by decide, by decide⟩ ⟨by decide, by decide⟩ [(0, 51), (1, 52)] rfl rfl rfl rfl rfl rfl (Nat.le_of_ble_eq_true rfl) ?_
  rintro _ _ ⟨rfl, rfl⟩
  refine mj_k rfl rfl ?_
  refine mj_blk h.1 b_Sw_writeTcpHeader_101 rfl trivial ?_
  exact mj_vret h rfl d_Sw_writeTcpHeader_102 (by decide) (by decide) ⟨rfl, rfl⟩
/-- the crafted wire, its sums not yet right -/
def kW (y : Int32) (c sq fg : Int32) (m : Nat) (v : Int64) (f : Nat → Int32) : Nat → Int32 := wApp m 40 (kTcp y c sq fg (kIp y c (nI m) f)) v
set_option maxRecDepth 100000 in
set_option maxHeartbeats 4000000 in
theorem ev_Sw_craft_0 (n : Nat) (f : Nat → Int32) (c sq fg : Int32) (hc1 : ¬ c < 0) (hc2 : c < 8) (m : Nat) (hm : m ≤ 8) (v : Int64) (L : Nat) (hL : wPair (40 + m) (wF3 (40 + m) (kW 0 c sq fg m v f)) 2 = nI L) (hL2 : L < 2 ^ 30) (hI : wIpN (40 + m) (wF3 (40 + m) (kW 0 c sq fg m v f)) ≤ L + 1) : E0_Sw_craft l D cA [.ref 50, .int c, .int 0, .int sq, .int fg, .int (nI m), .long v] [(50, cSw st rc), (51, cWi 52 n), (52, cIs 100 f)] (some (.int (nI (40 + m)))) [(50, cSw st rc), (51, cWi 52 (40 + m)), (52, cIs 100 (wMk (40 + m) (kW 0 c sq fg m v f) L))] := by
  refine mj_ev (lv := [(0, .ref 50), (1, .int c), (2, .int 0), (3, .int sq), (4, .int fg), (5, .int (nI m)), (6, .long v)]) (by decide +kernel) (Nat.le_of_ble_eq_true rfl) rfl (fun X h => ?_)
  refine mj_blk h.1 b_Sw_craft_0 rfl trivial ?_
  refine mj_iflt h.1 (tgt := 10) d_Sw_craft_1 (by decide) (fun h1 => ?_) (fun h1 => ?_)
  · exact absurd h1 hc1
  · refine mj_blk h.1 b_Sw_craft_4 rfl trivial ?_
    refine mj_iclt h.1 (tgt := 20) d_Sw_craft_7 (by decide) (fun h2 => ?_) (fun h2 => ?_)
    · refine mj_blk h.1 b_Sw_craft_20 rfl trivial ?_
      refine mj_ifeq0 h.1 (tgt := 39) d_Sw_craft_21 (by decide) ?_
      refine mj_blk h.1 b_Sw_craft_39 rfl trivial ?_
      refine mj_iflt h.1 (tgt := 51) d_Sw_craft_41 (by decide) (fun h4 => ?_) (fun h4 => ?_)
      · exact absurd h4 (nI_pos (by omega))
      · refine mj_blk h.1 b_Sw_craft_44 rfl trivial ?_
        refine mj_icle h.1 (tgt := 61) d_Sw_craft_48 (by decide) (fun h5 => ?_) (fun h5 => ?_)
        · refine mj_blk h.1 b_Sw_craft_61 rfl trivial ?_
          refine mj_callV h zGood (ev_Wi_clear l D cA _ _) v_Wi_clear l_Sw_craft_65 d_Sw_craft_65 rfl ⟨by decide, by decide⟩ ⟨by decide, by decide⟩ [(0, 51), (1, 52)] rfl rfl rfl rfl rfl rfl (Nat.le_of_ble_eq_true rfl) ?_
          rintro _ _ ⟨rfl, rfl⟩
          refine mj_k rfl rfl ?_
          refine mj_blk h.1 b_Sw_craft_68 rfl trivial ?_
          refine mj_callV h zGood (ev_Sw_writeIpHeader_0 l D cA _ _ _ _ _) v_Sw_writeIpHeader l_Sw_craft_73 d_Sw_craft_73 rfl ⟨by decide, by decide⟩ ⟨by decide, by decide⟩ [] rfl rfl rfl rfl rfl rfl (Nat.le_of_ble_eq_true rfl) ?_
          rintro _ _ ⟨rfl, rfl⟩
          refine mj_k rfl rfl ?_
          refine mj_blk h.1 b_Sw_craft_76 rfl trivial ?_
          refine mj_callV h zGood (ev_Sw_writeTcpHeader_0 l D cA _ _ _ _ _ _) v_Sw_writeTcpHeader l_Sw_craft_82 d_Sw_craft_82 rfl ⟨by decide, by decide⟩ ⟨by decide, by decide⟩ [] rfl rfl rfl rfl rfl rfl (Nat.le_of_ble_eq_true rfl) ?_
          rintro _ _ ⟨rfl, rfl⟩
          refine mj_k rfl rfl ?_
          refine mj_blk h.1 b_Sw_craft_85 rfl trivial ?_
          refine mj_callV h zGood (ev_Wi_append1 l D cA 40 (by decide) (kTcp 0 c sq fg (kIp 0 c (nI m) f)) m hm v (by omega)) v_Wi_append l_Sw_craft_93 d_Sw_craft_93 rfl ⟨by decide, by decide⟩ ⟨by decide, by decide⟩ [(0, 51), (1, 52)] rfl rfl rfl rfl rfl rfl (Nat.le_of_ble_eq_true rfl) ?_
          rintro _ _ ⟨rfl, rfl⟩
          refine mj_k rfl rfl ?_
          refine mj_blk h.1 b_Sw_craft_96 rfl trivial ?_
          refine mj_callV h zGood (ev_Wi_makeSumsRight l D cA (40 + m) (by omega) (kW 0 c sq fg m v f) L hL hL2 hI) v_Wi_makeSumsRight l_Sw_craft_101 d_Sw_craft_101 rfl ⟨by decide, by decide⟩ ⟨by decide, by decide⟩ [(0, 51), (1, 52)] rfl rfl rfl rfl rfl rfl (Nat.le_of_ble_eq_true rfl) ?_
          rintro _ _ ⟨rfl, rfl⟩
          refine mj_k rfl rfl ?_
          refine mj_blk h.1 b_Sw_craft_104 rfl trivial ?_
          refine mj_callV h zGood (ev_Wi_size l D cA _ _) v_Wi_size l_Sw_craft_108 d_Sw_craft_108 rfl ⟨by decide, by decide⟩ ⟨by decide, by decide⟩ [(0, 51), (1, 52)] rfl rfl rfl rfl rfl rfl (Nat.le_of_ble_eq_true rfl) ?_
          rintro _ _ ⟨rfl, rfl⟩
          refine mj_k rfl rfl ?_
          exact mj_iret h rfl d_Sw_craft_111 (by decide) (by decide) ⟨rfl, rfl⟩
        · exact absurd (show nI m ≤ 8 from nI_le (b := 8) (by omega) (by decide)) h5
    · exact absurd hc2 h2
set_option maxRecDepth 100000 in
set_option maxHeartbeats 4000000 in
theorem ev_Sw_craft_1 (n : Nat) (f : Nat → Int32) (c sq fg : Int32) (hc1 : ¬ c < 0) (hc2 : c < 8) (m : Nat) (hm : m ≤ 8) (v : Int64) (L : Nat) (hL : wPair (40 + m) (wF3 (40 + m) (kW 1 c sq fg m v f)) 2 = nI L) (hL2 : L < 2 ^ 30) (hI : wIpN (40 + m) (wF3 (40 + m) (kW 1 c sq fg m v f)) ≤ L + 1) : E0_Sw_craft l D cA [.ref 50, .int c, .int 1, .int sq, .int fg, .int (nI m), .long v] [(50, cSw st rc), (51, cWi 52 n), (52, cIs 100 f)] (some (.int (nI (40 + m)))) [(50, cSw st rc), (51, cWi 52 (40 + m)), (52, cIs 100 (wMk (40 + m) (kW 1 c sq fg m v f) L))] := by
  refine mj_ev (lv := [(0, .ref 50), (1, .int c), (2, .int 1), (3, .int sq), (4, .int fg), (5, .int (nI m)), (6, .long v)]) (by decide +kernel) (Nat.le_of_ble_eq_true rfl) rfl (fun X h => ?_)
  refine mj_blk h.1 b_Sw_craft_0 rfl trivial ?_
  refine mj_iflt h.1 (tgt := 10) d_Sw_craft_1 (by decide) (fun h1 => ?_) (fun h1 => ?_)
  · exact absurd h1 hc1
  · refine mj_blk h.1 b_Sw_craft_4 rfl trivial ?_
    refine mj_iclt h.1 (tgt := 20) d_Sw_craft_7 (by decide) (fun h2 => ?_) (fun h2 => ?_)
    · refine mj_blk h.1 b_Sw_craft_20 rfl trivial ?_
      refine mj_ifeq1 h.1 (tgt := 39) d_Sw_craft_21 (by decide) ?_
      refine mj_blk h.1 b_Sw_craft_24 rfl trivial ?_
      refine mj_iceq h.1 (tgt := 39) d_Sw_craft_26 (by decide) (fun h4 => ?_) (fun h4 => ?_)
      · refine mj_blk h.1 b_Sw_craft_39 rfl trivial ?_
        refine mj_iflt h.1 (tgt := 51) d_Sw_craft_41 (by decide) (fun h5 => ?_) (fun h5 => ?_)
        · exact absurd h5 (nI_pos (by omega))
        · refine mj_blk h.1 b_Sw_craft_44 rfl trivial ?_
          refine mj_icle h.1 (tgt := 61) d_Sw_craft_48 (by decide) (fun h6 => ?_) (fun h6 => ?_)
          · refine mj_blk h.1 b_Sw_craft_61 rfl trivial ?_
            refine mj_callV h zGood (ev_Wi_clear l D cA _ _) v_Wi_clear l_Sw_craft_65 d_Sw_craft_65 rfl ⟨by decide, by decide⟩ ⟨by decide, by decide⟩ [(0, 51), (1, 52)] rfl rfl rfl rfl rfl rfl (Nat.le_of_ble_eq_true rfl) ?_
            rintro _ _ ⟨rfl, rfl⟩
            refine mj_k rfl rfl ?_
            refine mj_blk h.1 b_Sw_craft_68 rfl trivial ?_
            refine mj_callV h zGood (ev_Sw_writeIpHeader_1 l D cA _ _ _ _ _) v_Sw_writeIpHeader l_Sw_craft_73 d_Sw_craft_73 rfl ⟨by decide, by decide⟩ ⟨by decide, by decide⟩ [] rfl rfl rfl rfl rfl rfl (Nat.le_of_ble_eq_true rfl) ?_
            rintro _ _ ⟨rfl, rfl⟩
            refine mj_k rfl rfl ?_
            refine mj_blk h.1 b_Sw_craft_76 rfl trivial ?_
            refine mj_callV h zGood (ev_Sw_writeTcpHeader_1 l D cA _ _ _ _ _ _) v_Sw_writeTcpHeader l_Sw_craft_82 d_Sw_craft_82 rfl ⟨by decide, by decide⟩ ⟨by decide, by decide⟩ [] rfl rfl rfl rfl rfl rfl (Nat.le_of_ble_eq_true rfl) ?_
            rintro _ _ ⟨rfl, rfl⟩
            refine mj_k rfl rfl ?_
            refine mj_blk h.1 b_Sw_craft_85 rfl trivial ?_
            refine mj_callV h zGood (ev_Wi_append1 l D cA 40 (by decide) (kTcp 1 c sq fg (kIp 1 c (nI m) f)) m hm v (by omega)) v_Wi_append l_Sw_craft_93 d_Sw_craft_93 rfl ⟨by decide, by decide⟩ ⟨by decide, by decide⟩ [(0, 51), (1, 52)] rfl rfl rfl rfl rfl rfl (Nat.le_of_ble_eq_true rfl) ?_
            rintro _ _ ⟨rfl, rfl⟩
            refine mj_k rfl rfl ?_
            refine mj_blk h.1 b_Sw_craft_96 rfl trivial ?_
            refine mj_callV h zGood (ev_Wi_makeSumsRight l D cA (40 + m) (by omega) (kW 1 c sq fg m v f) L hL hL2 hI) v_Wi_makeSumsRight l_Sw_craft_101 d_Sw_craft_101 rfl ⟨by decide, by decide⟩ ⟨by decide, by decide⟩ [(0, 51), (1, 52)] rfl rfl rfl rfl rfl rfl (Nat.le_of_ble_eq_true rfl) ?_
            rintro _ _ ⟨rfl, rfl⟩
            refine mj_k rfl rfl ?_
            refine mj_blk h.1 b_Sw_craft_104 rfl trivial ?_
            refine mj_callV h zGood (ev_Wi_size l D cA _ _) v_Wi_size l_Sw_craft_108 d_Sw_craft_108 rfl ⟨by decide, by decide⟩ ⟨by decide, by decide⟩ [(0, 51), (1, 52)] rfl rfl rfl rfl rfl rfl (Nat.le_of_ble_eq_true rfl) ?_
            rintro _ _ ⟨rfl, rfl⟩
            refine mj_k rfl rfl ?_
            exact mj_iret h rfl d_Sw_craft_111 (by decide) (by decide) ⟨rfl, rfl⟩
          · exact absurd (show nI m ≤ 8 from nI_le (b := 8) (by omega) (by decide)) h6
      · exact absurd rfl h4
    · exact absurd hc2 h2
set_option maxRecDepth 100000 in
set_option maxHeartbeats 4000000 in
theorem ev_Sw_seal1 (n : Nat) (hn : n ≤ 100) (f : Nat → Int32) (h0 : wFault n f False = 0) (L : Nat) (hL : wPair n (wF3 n f) 2 = nI L) (hL2 : L < 2 ^ 30) (hI : wIpN n (wF3 n f) ≤ L + 1) : E0_Sw_seal l D cA [.ref 50] [(50, cSw st rc), (51, cWi 52 n), (52, cIs 100 f)] (some (.int 1)) [(50, cSw st rc), (51, cWi 52 n), (52, cIs 100 (wMk n f L))] := by
  refine mj_ev (lv := [(0, .ref 50)]) (by decide +kernel) (Nat.le_of_ble_eq_true rfl) rfl (fun X h => ?_)
  refine mj_blk h.1 b_Sw_seal_0 rfl trivial ?_
  refine mj_callV h zGood (ev_Wi_fault l D cA n hn f False) v_Wi_fault l_Sw_seal_5 d_Sw_seal_5 rfl ⟨by decide, by decide⟩ ⟨by decide, by decide⟩ [(0, 51), (1, 52)] rfl rfl rfl rfl rfl rfl (Nat.le_of_ble_eq_true rfl) ?_
  rintro _ _ ⟨rfl, rfl⟩
  rw [h0]
  refine mj_k rfl rfl ?_
  refine mj_ifeq0 h.1 (tgt := 13) d_Sw_seal_8 (by decide) ?_
  refine mj_blk h.1 b_Sw_seal_13 rfl trivial ?_
  refine mj_callV h zGood (ev_Wi_makeSumsRight l D cA n hn f L hL hL2 hI) v_Wi_makeSumsRight l_Sw_seal_17 d_Sw_seal_17 rfl ⟨by decide, by decide⟩ ⟨by decide, by decide⟩ [(0, 51), (1, 52)] rfl rfl rfl rfl rfl rfl (Nat.le_of_ble_eq_true rfl) ?_
  rintro _ _ ⟨rfl, rfl⟩
  refine mj_k rfl rfl ?_
  refine mj_blk h.1 b_Sw_seal_20 rfl trivial ?_
  exact mj_zret h rfl (Or.inr rfl) d_Sw_seal_21 (by decide) (by decide) ⟨rfl, rfl⟩
set_option maxRecDepth 100000 in
set_option maxHeartbeats 4000000 in
theorem ev_Sw_seal0 (n : Nat) (hn : n ≤ 100) (f : Nat → Int32) (h0 : ¬ wFault n f False = 0) : E0_Sw_seal l D cA [.ref 50] [(50, cSw st rc), (51, cWi 52 n), (52, cIs 100 f)] (some (.int 0)) [(50, cSw st rc), (51, cWi 52 n), (52, cIs 100 f)] := by
  refine mj_ev (lv := [(0, .ref 50)]) (by decide +kernel) (Nat.le_of_ble_eq_true rfl) rfl (fun X h => ?_)
  refine mj_blk h.1 b_Sw_seal_0 rfl trivial ?_
  refine mj_callV h zGood (ev_Wi_fault l D cA n hn f False) v_Wi_fault l_Sw_seal_5 d_Sw_seal_5 rfl ⟨by decide, by decide⟩ ⟨by decide, by decide⟩ [(0, 51), (1, 52)] rfl rfl rfl rfl rfl rfl (Nat.le_of_ble_eq_true rfl) ?_
  rintro _ _ ⟨rfl, rfl⟩
  generalize hx : wFault n f False = x at h0 ⊢
  refine mj_k rfl rfl ?_
  first | refine mj_ifeqB h.1 (tgt := 13) d_Sw_seal_8 (by decide) (fun h1 => ?_) (fun h1 => ?_) | refine mj_ifeq h.1 (tgt := 13) d_Sw_seal_8 (by decide) (fun h1 => ?_) (fun h1 => ?_)
  · exact absurd h1 h0
  · refine mj_blk h.1 b_Sw_seal_11 rfl trivial ?_
    exact mj_zret h rfl (Or.inl rfl) d_Sw_seal_12 (by decide) (by decide) ⟨rfl, rfl⟩
end SWH
