/-! Rule (its options' places: o, a list of three), Option -/
abbrev cRu (a : Nat) (wy pt : Int32) (c : Nat) : mj_C := .inr (6, [.int wy, .int pt, .ref a, .int (nI c)])
abbrev cOs (o : List (Option Nat)) : mj_C := .inl (5, 3, .inr (.inr o))
abbrev cOp (nt rl : Bool) (le mo sz : Int32) (ct : Int64) (ac : Bool) : mj_C := .inr (4, [.int (if nt then 1 else 0), .int (if rl then 1 else 0), .int le, .int mo, .int sz, .long ct, .int (if ac then 1 else 0)])
def oFo (ac : Bool) (x : Int32) : Int32 := if ac then (if x < 65 then x else if 90 < x then x else x - 65 + 97) else x
section RULE
variable (l : Launch) (D : va_G) (cA : Nat → ClassId) (wy pt : Int32) (c : Nat)

set_option maxRecDepth 100000 in
set_option maxHeartbeats 4000000 in
theorem ev_Ru_size : E0_Ru_size l D cA [.ref 0] [(0, cRu 1 wy pt c)] (some (.int (nI c))) [(0, cRu 1 wy pt c)] := by
  refine mj_ev (lv := [(0, .ref 0)]) (by decide +kernel) (Nat.le_of_ble_eq_true rfl) rfl (fun X h => ?_)
  refine mj_blk h.1 b_Ru_size_0 rfl trivial ?_
  exact mj_iret h rfl d_Ru_size_4 (by decide) (by decide) ⟨rfl, rfl⟩
set_option maxRecDepth 100000 in
set_option maxHeartbeats 4000000 in
theorem ev_Ru_isFor (w p : Int32) : E0_Ru_isFor l D cA [.ref 0, .int w, .int p] [(0, cRu 1 wy pt c)] (some (.int (if (wy = 2 ∨ wy = w) ∧ (pt = 0 ∨ pt = p) then 1 else 0))) [(0, cRu 1 wy pt c)] := by
  refine mj_ev (lv := [(0, .ref 0), (1, .int w), (2, .int p)]) (by decide +kernel) (Nat.le_of_ble_eq_true rfl) rfl (fun X h => ?_)
  refine mj_blk h.1 b_Ru_isFor_0 rfl trivial ?_
  refine mj_iceq h.1 (tgt := 16) d_Ru_isFor_5 (by decide) (fun h1 => ?_) (fun h1 => ?_)
  · refine mj_blk h.1 b_Ru_isFor_16 rfl trivial ?_
    refine mj_blk h.1 b_Ru_isFor_21 rfl trivial ?_
    refine mj_ifeq1 h.1 (tgt := 45) d_Ru_isFor_23 (by decide) ?_
    refine mj_blk h.1 b_Ru_isFor_26 rfl trivial ?_
    first | refine mj_ifeqB h.1 (tgt := 41) d_Ru_isFor_30 (by decide) (fun h3 => ?_) (fun h3 => ?_) | refine mj_ifeq h.1 (tgt := 41) d_Ru_isFor_30 (by decide) (fun h3 => ?_) (fun h3 => ?_)
    · refine mj_blk h.1 b_Ru_isFor_41 rfl trivial ?_
      exact mj_zret h rfl (by first | exact Or.inl rfl | exact Or.inr rfl) d_Ru_isFor_46 (by decide) (by decide) ⟨by rw [if_pos ⟨Or.inl h1, Or.inl h3⟩], rfl⟩
    · refine mj_blk h.1 b_Ru_isFor_33 rfl trivial ?_
      refine mj_icne h.1 (tgt := 45) d_Ru_isFor_38 (by decide) (fun h4 => ?_) (fun h4 => ?_)
      · refine mj_blk h.1 b_Ru_isFor_45 rfl trivial ?_
        exact mj_zret h rfl (by first | exact Or.inl rfl | exact Or.inr rfl) d_Ru_isFor_46 (by decide) (by decide) ⟨by rw [if_neg (fun z => z.2.elim h3 h4)], rfl⟩
      · refine mj_blk h.1 b_Ru_isFor_41 rfl trivial ?_
        exact mj_zret h rfl (by first | exact Or.inl rfl | exact Or.inr rfl) d_Ru_isFor_46 (by decide) (by decide) ⟨by rw [if_pos ⟨Or.inl h1, Or.inr h4⟩], rfl⟩
  · refine mj_blk h.1 b_Ru_isFor_8 rfl trivial ?_
    refine mj_icne h.1 (tgt := 20) d_Ru_isFor_13 (by decide) (fun h5 => ?_) (fun h5 => ?_)
    · refine mj_blk h.1 b_Ru_isFor_20 rfl trivial ?_
      refine mj_blk h.1 b_Ru_isFor_21 rfl trivial ?_
      refine mj_ifeq0 h.1 (tgt := 45) d_Ru_isFor_23 (by decide) ?_
      refine mj_blk h.1 b_Ru_isFor_45 rfl trivial ?_
      exact mj_zret h rfl (by first | exact Or.inl rfl | exact Or.inr rfl) d_Ru_isFor_46 (by decide) (by decide) ⟨by rw [if_neg (fun z => z.1.elim h1 h5)], rfl⟩
    · refine mj_blk h.1 b_Ru_isFor_16 rfl trivial ?_
      refine mj_blk h.1 b_Ru_isFor_21 rfl trivial ?_
      refine mj_ifeq1 h.1 (tgt := 45) d_Ru_isFor_23 (by decide) ?_
      refine mj_blk h.1 b_Ru_isFor_26 rfl trivial ?_
      first | refine mj_ifeqB h.1 (tgt := 41) d_Ru_isFor_30 (by decide) (fun h8 => ?_) (fun h8 => ?_) | refine mj_ifeq h.1 (tgt := 41) d_Ru_isFor_30 (by decide) (fun h8 => ?_) (fun h8 => ?_)
      · refine mj_blk h.1 b_Ru_isFor_41 rfl trivial ?_
        exact mj_zret h rfl (by first | exact Or.inl rfl | exact Or.inr rfl) d_Ru_isFor_46 (by decide) (by decide) ⟨by rw [if_pos ⟨Or.inr h5, Or.inl h8⟩], rfl⟩
      · refine mj_blk h.1 b_Ru_isFor_33 rfl trivial ?_
        refine mj_icne h.1 (tgt := 45) d_Ru_isFor_38 (by decide) (fun h9 => ?_) (fun h9 => ?_)
        · refine mj_blk h.1 b_Ru_isFor_45 rfl trivial ?_
          exact mj_zret h rfl (by first | exact Or.inl rfl | exact Or.inr rfl) d_Ru_isFor_46 (by decide) (by decide) ⟨by rw [if_neg (fun z => z.2.elim h8 h9)], rfl⟩
        · refine mj_blk h.1 b_Ru_isFor_41 rfl trivial ?_
          exact mj_zret h rfl (by first | exact Or.inl rfl | exact Or.inr rfl) d_Ru_isFor_46 (by decide) (by decide) ⟨by rw [if_pos ⟨Or.inr h5, Or.inr h9⟩], rfl⟩
set_option maxRecDepth 100000 in
set_option maxHeartbeats 4000000 in
theorem ev_Ru_at (o : List (Option Nat)) (hc : c ≤ 3) (i a : Nat) (hi : i < c) (ha : o.getD i none = some a) : E0_Ru_at l D cA [.ref 0, .int (nI i)] [(0, cRu 1 wy pt c), (1, cOs o)] (some (.ref a)) [(0, cRu 1 wy pt c), (1, cOs o)] := by
  refine mj_ev (lv := [(0, .ref 0), (1, .int (nI i))]) (by decide +kernel) (Nat.le_of_ble_eq_true rfl) rfl (fun X h => ?_)
  refine mj_blk h.1 b_Ru_at_0 rfl trivial ?_
  refine mj_iflt h.1 (tgt := 21) d_Ru_at_1 (by decide) (fun h1 => ?_) (fun h1 => ?_)
  · first | exact absurd h1 (nI_pos (by omega)) | exact absurd h2 (nI_ge hi (by omega))
  · refine mj_blk h.1 b_Ru_at_4 rfl trivial ?_
    refine mj_icge h.1 (tgt := 21) d_Ru_at_9 (by decide) (fun h2 => ?_) (fun h2 => ?_)
    · first | exact absurd h1 (nI_pos (by omega)) | exact absurd h2 (nI_ge hi (by omega))
    · refine mj_blk h.1 b_Ru_at_12 rfl ⟨vp_in_nI (by omega) (by decide), trivial⟩ ?_
      rw [nI_clamp (by omega), ha]
      exact mj_aret h rfl d_Ru_at_22 (by decide) (by decide) ⟨rfl, rfl⟩
end RULE
section OPTN
variable (l : Launch) (D : va_G) (cA : Nat → ClassId) (nt rl : Bool) (le mo sz : Int32) (ct : Int64) (ac : Bool)

set_option maxRecDepth 100000 in
set_option maxHeartbeats 4000000 in
theorem ev_Op_folded (x : Int32) : E0_Op_folded l D cA [.ref 0, .int x] [(0, cOp nt rl le mo sz ct ac)] (some (.int (oFo ac x))) [(0, cOp nt rl le mo sz ct ac)] := by
  refine mj_ev (lv := [(0, .ref 0), (1, .int x)]) (by decide +kernel) (Nat.le_of_ble_eq_true rfl) rfl (fun X h => ?_)
  refine mj_blk h.1 b_Op_folded_0 rfl trivial ?_
  first | refine mj_ifeqB h.1 (tgt := 29) d_Op_folded_4 (by decide) (fun h1 => ?_) (fun h1 => ?_) | refine mj_ifeq h.1 (tgt := 29) d_Op_folded_4 (by decide) (fun h1 => ?_) (fun h1 => ?_)
  · refine mj_blk h.1 b_Op_folded_29 rfl trivial ?_
    exact mj_iret h rfl d_Op_folded_30 (by decide) (by decide) ⟨by unfold oFo; rw [if_neg h1], rfl⟩
  · refine mj_blk h.1 b_Op_folded_7 rfl trivial ?_
    refine mj_iclt h.1 (tgt := 29) d_Op_folded_10 (by decide) (fun h2 => ?_) (fun h2 => ?_)
    · refine mj_blk h.1 b_Op_folded_29 rfl trivial ?_
      exact mj_iret h rfl d_Op_folded_30 (by decide) (by decide) ⟨by unfold oFo; rw [if_pos h1, if_pos h2], rfl⟩
    · refine mj_blk h.1 b_Op_folded_13 rfl trivial ?_
      refine mj_icgt h.1 (tgt := 29) d_Op_folded_16 (by decide) (fun h3 => ?_) (fun h3 => ?_)
      · refine mj_blk h.1 b_Op_folded_29 rfl trivial ?_
        exact mj_iret h rfl d_Op_folded_30 (by decide) (by decide) ⟨by unfold oFo; rw [if_pos h1, if_neg h2, if_pos h3], rfl⟩
      · refine mj_blk h.1 b_Op_folded_19 rfl trivial ?_
        exact mj_iret h rfl d_Op_folded_30 (by decide) (by decide) ⟨by unfold oFo; rw [if_pos h1, if_neg h2, if_neg h3], rfl⟩
/-- the content's byte i -/
abbrev oB (sz : Int32) (ct : Int64) (i : Int32) : Int32 := wB ct (sz - 1 - i)
abbrev sAt (tx : Nat → Int32) (ts : Nat) (k : Int32) : Int32 := if 0 ≤ k ∧ k < nI ts then tx k.toNatClampNeg else -1
/-- the content's r bytes from i on stand in the text from place p on -/
def oSame (ac : Bool) (s : Nat) (ct : Int64) (tx : Nat → Int32) (ts : Nat) (p : Int32) : Nat → Nat → Bool
  | 0, _ => true
  | r + 1, i => decide (oFo ac (sAt tx ts (p + nI i)) = oFo ac (oB (nI s) ct (nI i))) && oSame ac s ct tx ts p r (i + 1)
def oSt (ac : Bool) (s : Nat) (ct : Int64) (tx : Nat → Int32) (ts : Nat) (p : Int32) : Bool := decide (p + nI s ≤ nI ts) && oSame ac s ct tx ts p s 0
set_option maxRecDepth 100000 in
set_option maxHeartbeats 4000000 in
theorem lp_Op_standsAt {X : mj_X} {post : mj_R} (s : Nat) (hs9 : s ≤ 6) (tx : Nat → Int32) (ts : Nat) (ht : ts ≤ 80) (hd : Nat → Int32) (hs nx rr : Int32) (bg en : Bool) (p : Int32) (h : mj_E zG X l D cA m_Op_standsAt 1 40 0 0 (fun _ => True) post) : ∀ (r i : Nat), i + r = s → post (some (.int (if oSame ac s ct tx ts p r i then 1 else 0))) [(0, cOp nt rl le mo (nI s) ct ac), (1, cSm 2 3 ts hs nx rr bg en), (2, cIs 80 tx), (3, cIs 32 hd)] → mj_W zG X 0 0 17 [(3, .int (nI i)), (0, .ref 0), (1, .int p), (2, .ref 1)] [] [(0, cOp nt rl le mo (nI s) ct ac), (1, cSm 2 3 ts hs nx rr bg en), (2, cIs 80 tx), (3, cIs 32 hd)] := by
  intro r
  induction r with
  | zero =>
    intro i hi hp
    refine mj_blk h.1 b_Op_standsAt_17 rfl trivial ?_
    refine mj_icge h.1 (tgt := 76) d_Op_standsAt_22 (by decide) (fun h1 => ?_) (fun h1 => ?_)
    · refine mj_blk h.1 b_Op_standsAt_76 rfl trivial ?_
      exact mj_zret h rfl (Or.inr rfl) d_Op_standsAt_77 (by decide) (by decide) hp
    · exact absurd (nI_le (by omega) (by omega)) h1
  | succ r ih =>
    intro i hi hp
    refine mj_blk h.1 b_Op_standsAt_17 rfl trivial ?_
    refine mj_icge h.1 (tgt := 76) d_Op_standsAt_22 (by decide) (fun h1 => ?_) (fun h1 => ?_)
    · exact absurd ((nI_leI (by omega) (by omega)).mp h1) (by omega)
    · refine mj_blk h.1 b_Op_standsAt_25 rfl trivial ?_
      refine mj_callV h zGood (ev_Sm_byteAt l D cA _ _ _ _ _ _ _ _ ht _) v_Sm_byteAt l_Op_standsAt_53 d_Op_standsAt_53 rfl ⟨by decide, by decide⟩ ⟨by decide, by decide⟩ [(0, 1), (1, 2), (2, 3)] rfl rfl rfl rfl rfl rfl (Nat.le_of_ble_eq_true rfl) ?_
      rintro _ _ ⟨rfl, rfl⟩
      refine mj_k rfl rfl ?_
      refine mj_callV h zGood (ev_Op_folded l D cA _ _ _ _ _ _ _ _) v_Op_folded l_Op_standsAt_56 d_Op_standsAt_56 rfl ⟨by decide, by decide⟩ ⟨by decide, by decide⟩ [(0, 0)] rfl rfl rfl rfl rfl rfl (Nat.le_of_ble_eq_true rfl) ?_
      rintro _ _ ⟨rfl, rfl⟩
      refine mj_k rfl rfl ?_
      refine mj_blk h.1 b_Op_standsAt_59 rfl trivial ?_
      refine mj_callV h zGood (ev_Op_folded l D cA _ _ _ _ _ _ _ _) v_Op_folded l_Op_standsAt_62 d_Op_standsAt_62 rfl ⟨by decide, by decide⟩ ⟨by decide, by decide⟩ [(0, 0)] rfl rfl rfl rfl rfl rfl (Nat.le_of_ble_eq_true rfl) ?_
      rintro _ _ ⟨rfl, rfl⟩
      refine mj_k rfl rfl ?_
      refine mj_iceq h.1 (tgt := 70) d_Op_standsAt_65 (by decide) (fun h2 => ?_) (fun h2 => ?_)
      · refine mj_blk h.1 b_Op_standsAt_70 rfl trivial ?_
        refine mj_lpk [0, 2, 3, 4] rfl ?_
        have hp2 := hp
        unfold oSame at hp2
        rw [decide_eq_true (show oFo ac (sAt tx ts (p + nI i)) = oFo ac (oB (nI s) ct (nI i)) from h2), Bool.true_and] at hp2
        rw [show nI i + 1 = nI (i + 1) from (nI_succ i).symm]
        exact ih (i + 1) (by omega) hp2
      · have hp2 := hp
        unfold oSame at hp2
        rw [decide_eq_false (show ¬ oFo ac (sAt tx ts (p + nI i)) = oFo ac (oB (nI s) ct (nI i)) from h2), Bool.false_and] at hp2
        refine mj_blk h.1 b_Op_standsAt_68 rfl trivial ?_
        exact mj_zret h rfl (Or.inl rfl) d_Op_standsAt_69 (by decide) (by decide) hp2
set_option maxRecDepth 100000 in
set_option maxHeartbeats 4000000 in
theorem ev_Op_standsAt (s : Nat) (hs9 : s ≤ 6) (tx : Nat → Int32) (ts : Nat) (ht : ts ≤ 80) (hd : Nat → Int32) (hs nx rr : Int32) (bg en : Bool) (p : Int32) : E0_Op_standsAt l D cA [.ref 0, .int p, .ref 1] [(0, cOp nt rl le mo (nI s) ct ac), (1, cSm 2 3 ts hs nx rr bg en), (2, cIs 80 tx), (3, cIs 32 hd)] (some (.int (if oSt ac s ct tx ts p then 1 else 0))) [(0, cOp nt rl le mo (nI s) ct ac), (1, cSm 2 3 ts hs nx rr bg en), (2, cIs 80 tx), (3, cIs 32 hd)] := by
  refine mj_ev (lv := [(0, .ref 0), (1, .int p), (2, .ref 1)]) (by decide +kernel) (Nat.le_of_ble_eq_true rfl) rfl (fun X h => ?_)
  refine mj_blk h.1 b_Op_standsAt_0 rfl trivial ?_
  refine mj_callV h zGood (ev_Sm_size l D cA _ _ _ _ _ _ _ _) v_Sm_size l_Op_standsAt_7 d_Op_standsAt_7 rfl ⟨by decide, by decide⟩ ⟨by decide, by decide⟩ [(0, 1), (1, 2), (2, 3)] rfl rfl rfl rfl rfl rfl (Nat.le_of_ble_eq_true rfl) ?_
  rintro _ _ ⟨rfl, rfl⟩
  refine mj_k rfl rfl ?_
  refine mj_icle h.1 (tgt := 15) d_Op_standsAt_10 (by decide) (fun h1 => ?_) (fun h1 => ?_)
  · refine mj_blk h.1 b_Op_standsAt_15 rfl trivial ?_
    exact lp_Op_standsAt l D cA nt rl le mo ct ac s hs9 tx ts ht hd hs nx rr bg en p h s 0 (by omega) ⟨by unfold oSt; rw [decide_eq_true h1, Bool.true_and], rfl⟩
  · refine mj_blk h.1 b_Op_standsAt_13 rfl trivial ?_
    exact mj_zret h rfl (Or.inl rfl) d_Op_standsAt_14 (by decide) (by decide) ⟨by unfold oSt; rw [decide_eq_false h1, Bool.false_and]; rfl, rfl⟩
end OPTN
