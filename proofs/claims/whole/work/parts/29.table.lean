/-! FlowTable: at 0; the array at 1; flow j at 2 + j, its streams at 6 + 2 j, 7 + 2 j (by program: wip/whole/src_table.py) -/
def updB (f : Nat → Bool) (k : Nat) (x : Bool) : Nat → Bool := fun j => if j = k then x else f j
section TABLE
variable (l : Launch) (D : va_G) (cA : Nat → ClassId) (ph : Int32) (ch cp sh sp ha : Nat → Int32) (lv : Nat → Bool)

set_option maxRecDepth 100000 in
set_option maxHeartbeats 4000000 in
theorem ev_Ft_at_0 : E0_Ft_at l D cA [.ref 0, .int (nI 0)] [(0, .inr (2, [.ref 1, .int ph])), (1, .inl (3, 4, .inr (.inr [some 2, some 3, some 4, some 5]))), (2, cFl 6 7 (ch 0) (cp 0) (sh 0) (sp 0) (ha 0) (lv 0)), (3, cFl 8 9 (ch 1) (cp 1) (sh 1) (sp 1) (ha 1) (lv 1)), (4, cFl 10 11 (ch 2) (cp 2) (sh 2) (sp 2) (ha 2) (lv 2)), (5, cFl 12 13 (ch 3) (cp 3) (sh 3) (sp 3) (ha 3) (lv 3))] (some (if lv 0 then .ref 2 else .null)) [(0, .inr (2, [.ref 1, .int ph])), (1, .inl (3, 4, .inr (.inr [some 2, some 3, some 4, some 5]))), (2, cFl 6 7 (ch 0) (cp 0) (sh 0) (sp 0) (ha 0) (lv 0)), (3, cFl 8 9 (ch 1) (cp 1) (sh 1) (sp 1) (ha 1) (lv 1)), (4, cFl 10 11 (ch 2) (cp 2) (sh 2) (sp 2) (ha 2) (lv 2)), (5, cFl 12 13 (ch 3) (cp 3) (sh 3) (sp 3) (ha 3) (lv 3))] := by
  refine mj_ev (lv := [(0, .ref 0), (1, .int (nI 0))]) (by decide +kernel) (Nat.le_of_ble_eq_true rfl) rfl (fun X h => ?_)
  refine mj_blk h.1 b_Ft_at_0 rfl trivial ?_
  refine mj_iflt h.1 (tgt := 30) d_Ft_at_1 (by decide) (fun h1 => ?_) (fun h1 => ?_)
  · exact absurd h1 (by decide)
  · refine mj_blk h.1 b_Ft_at_4 rfl trivial ?_
    refine mj_icge h.1 (tgt := 30) d_Ft_at_6 (by decide) (fun h2 => ?_) (fun h2 => ?_)
    · exact absurd h2 (by decide)
    · refine mj_blk h.1 b_Ft_at_9 rfl ⟨vp_in_nI (by decide) (by decide), trivial⟩ ?_
      refine mj_callV h zGood (ev_Fl_isLive l D cA _ _ _ _ _ _) v_Fl_isLive l_Ft_at_15 d_Ft_at_15 rfl ⟨by decide, by decide⟩ ⟨by decide, by decide⟩ [(0, 2), (1, 6), (2, 7)] rfl rfl rfl rfl rfl rfl (Nat.le_of_ble_eq_true rfl) ?_
      rintro _ _ ⟨rfl, rfl⟩
      refine mj_k rfl rfl ?_
      first | refine mj_ifeqB h.1 (tgt := 30) d_Ft_at_18 (by decide) (fun h3 => ?_) (fun h3 => ?_) | refine mj_ifeq h.1 (tgt := 30) d_Ft_at_18 (by decide) (fun h3 => ?_) (fun h3 => ?_)
      · refine mj_blk h.1 b_Ft_at_30 rfl trivial ?_
        exact mj_aretN h rfl d_Ft_at_31 (by decide) (by decide) ⟨by rw [if_neg h3], rfl⟩
      · refine mj_blk h.1 b_Ft_at_21 rfl ⟨vp_in_nI (by decide) (by decide), trivial⟩ ?_
        exact mj_aret h rfl d_Ft_at_31 (by decide) (by decide) ⟨by rw [if_pos h3], rfl⟩
set_option maxRecDepth 100000 in
set_option maxHeartbeats 4000000 in
theorem ev_Ft_at_1 : E0_Ft_at l D cA [.ref 0, .int (nI 1)] [(0, .inr (2, [.ref 1, .int ph])), (1, .inl (3, 4, .inr (.inr [some 2, some 3, some 4, some 5]))), (2, cFl 6 7 (ch 0) (cp 0) (sh 0) (sp 0) (ha 0) (lv 0)), (3, cFl 8 9 (ch 1) (cp 1) (sh 1) (sp 1) (ha 1) (lv 1)), (4, cFl 10 11 (ch 2) (cp 2) (sh 2) (sp 2) (ha 2) (lv 2)), (5, cFl 12 13 (ch 3) (cp 3) (sh 3) (sp 3) (ha 3) (lv 3))] (some (if lv 1 then .ref 3 else .null)) [(0, .inr (2, [.ref 1, .int ph])), (1, .inl (3, 4, .inr (.inr [some 2, some 3, some 4, some 5]))), (2, cFl 6 7 (ch 0) (cp 0) (sh 0) (sp 0) (ha 0) (lv 0)), (3, cFl 8 9 (ch 1) (cp 1) (sh 1) (sp 1) (ha 1) (lv 1)), (4, cFl 10 11 (ch 2) (cp 2) (sh 2) (sp 2) (ha 2) (lv 2)), (5, cFl 12 13 (ch 3) (cp 3) (sh 3) (sp 3) (ha 3) (lv 3))] := by
  refine mj_ev (lv := [(0, .ref 0), (1, .int (nI 1))]) (by decide +kernel) (Nat.le_of_ble_eq_true rfl) rfl (fun X h => ?_)
  refine mj_blk h.1 b_Ft_at_0 rfl trivial ?_
  refine mj_iflt h.1 (tgt := 30) d_Ft_at_1 (by decide) (fun h1 => ?_) (fun h1 => ?_)
  · exact absurd h1 (by decide)
  · refine mj_blk h.1 b_Ft_at_4 rfl trivial ?_
    refine mj_icge h.1 (tgt := 30) d_Ft_at_6 (by decide) (fun h2 => ?_) (fun h2 => ?_)
    · exact absurd h2 (by decide)
    · refine mj_blk h.1 b_Ft_at_9 rfl ⟨vp_in_nI (by decide) (by decide), trivial⟩ ?_
      refine mj_callV h zGood (ev_Fl_isLive l D cA _ _ _ _ _ _) v_Fl_isLive l_Ft_at_15 d_Ft_at_15 rfl ⟨by decide, by decide⟩ ⟨by decide, by decide⟩ [(0, 3), (1, 8), (2, 9)] rfl rfl rfl rfl rfl rfl (Nat.le_of_ble_eq_true rfl) ?_
      rintro _ _ ⟨rfl, rfl⟩
      refine mj_k rfl rfl ?_
      first | refine mj_ifeqB h.1 (tgt := 30) d_Ft_at_18 (by decide) (fun h3 => ?_) (fun h3 => ?_) | refine mj_ifeq h.1 (tgt := 30) d_Ft_at_18 (by decide) (fun h3 => ?_) (fun h3 => ?_)
      · refine mj_blk h.1 b_Ft_at_30 rfl trivial ?_
        exact mj_aretN h rfl d_Ft_at_31 (by decide) (by decide) ⟨by rw [if_neg h3], rfl⟩
      · refine mj_blk h.1 b_Ft_at_21 rfl ⟨vp_in_nI (by decide) (by decide), trivial⟩ ?_
        exact mj_aret h rfl d_Ft_at_31 (by decide) (by decide) ⟨by rw [if_pos h3], rfl⟩
set_option maxRecDepth 100000 in
set_option maxHeartbeats 4000000 in
theorem ev_Ft_at_2 : E0_Ft_at l D cA [.ref 0, .int (nI 2)] [(0, .inr (2, [.ref 1, .int ph])), (1, .inl (3, 4, .inr (.inr [some 2, some 3, some 4, some 5]))), (2, cFl 6 7 (ch 0) (cp 0) (sh 0) (sp 0) (ha 0) (lv 0)), (3, cFl 8 9 (ch 1) (cp 1) (sh 1) (sp 1) (ha 1) (lv 1)), (4, cFl 10 11 (ch 2) (cp 2) (sh 2) (sp 2) (ha 2) (lv 2)), (5, cFl 12 13 (ch 3) (cp 3) (sh 3) (sp 3) (ha 3) (lv 3))] (some (if lv 2 then .ref 4 else .null)) [(0, .inr (2, [.ref 1, .int ph])), (1, .inl (3, 4, .inr (.inr [some 2, some 3, some 4, some 5]))), (2, cFl 6 7 (ch 0) (cp 0) (sh 0) (sp 0) (ha 0) (lv 0)), (3, cFl 8 9 (ch 1) (cp 1) (sh 1) (sp 1) (ha 1) (lv 1)), (4, cFl 10 11 (ch 2) (cp 2) (sh 2) (sp 2) (ha 2) (lv 2)), (5, cFl 12 13 (ch 3) (cp 3) (sh 3) (sp 3) (ha 3) (lv 3))] := by
  refine mj_ev (lv := [(0, .ref 0), (1, .int (nI 2))]) (by decide +kernel) (Nat.le_of_ble_eq_true rfl) rfl (fun X h => ?_)
  refine mj_blk h.1 b_Ft_at_0 rfl trivial ?_
  refine mj_iflt h.1 (tgt := 30) d_Ft_at_1 (by decide) (fun h1 => ?_) (fun h1 => ?_)
  · exact absurd h1 (by decide)
  · refine mj_blk h.1 b_Ft_at_4 rfl trivial ?_
    refine mj_icge h.1 (tgt := 30) d_Ft_at_6 (by decide) (fun h2 => ?_) (fun h2 => ?_)
    · exact absurd h2 (by decide)
    · refine mj_blk h.1 b_Ft_at_9 rfl ⟨vp_in_nI (by decide) (by decide), trivial⟩ ?_
      refine mj_callV h zGood (ev_Fl_isLive l D cA _ _ _ _ _ _) v_Fl_isLive l_Ft_at_15 d_Ft_at_15 rfl ⟨by decide, by decide⟩ ⟨by decide, by decide⟩ [(0, 4), (1, 10), (2, 11)] rfl rfl rfl rfl rfl rfl (Nat.le_of_ble_eq_true rfl) ?_
      rintro _ _ ⟨rfl, rfl⟩
      refine mj_k rfl rfl ?_
      first | refine mj_ifeqB h.1 (tgt := 30) d_Ft_at_18 (by decide) (fun h3 => ?_) (fun h3 => ?_) | refine mj_ifeq h.1 (tgt := 30) d_Ft_at_18 (by decide) (fun h3 => ?_) (fun h3 => ?_)
      · refine mj_blk h.1 b_Ft_at_30 rfl trivial ?_
        exact mj_aretN h rfl d_Ft_at_31 (by decide) (by decide) ⟨by rw [if_neg h3], rfl⟩
      · refine mj_blk h.1 b_Ft_at_21 rfl ⟨vp_in_nI (by decide) (by decide), trivial⟩ ?_
        exact mj_aret h rfl d_Ft_at_31 (by decide) (by decide) ⟨by rw [if_pos h3], rfl⟩
set_option maxRecDepth 100000 in
set_option maxHeartbeats 4000000 in
theorem ev_Ft_at_3 : E0_Ft_at l D cA [.ref 0, .int (nI 3)] [(0, .inr (2, [.ref 1, .int ph])), (1, .inl (3, 4, .inr (.inr [some 2, some 3, some 4, some 5]))), (2, cFl 6 7 (ch 0) (cp 0) (sh 0) (sp 0) (ha 0) (lv 0)), (3, cFl 8 9 (ch 1) (cp 1) (sh 1) (sp 1) (ha 1) (lv 1)), (4, cFl 10 11 (ch 2) (cp 2) (sh 2) (sp 2) (ha 2) (lv 2)), (5, cFl 12 13 (ch 3) (cp 3) (sh 3) (sp 3) (ha 3) (lv 3))] (some (if lv 3 then .ref 5 else .null)) [(0, .inr (2, [.ref 1, .int ph])), (1, .inl (3, 4, .inr (.inr [some 2, some 3, some 4, some 5]))), (2, cFl 6 7 (ch 0) (cp 0) (sh 0) (sp 0) (ha 0) (lv 0)), (3, cFl 8 9 (ch 1) (cp 1) (sh 1) (sp 1) (ha 1) (lv 1)), (4, cFl 10 11 (ch 2) (cp 2) (sh 2) (sp 2) (ha 2) (lv 2)), (5, cFl 12 13 (ch 3) (cp 3) (sh 3) (sp 3) (ha 3) (lv 3))] := by
  refine mj_ev (lv := [(0, .ref 0), (1, .int (nI 3))]) (by decide +kernel) (Nat.le_of_ble_eq_true rfl) rfl (fun X h => ?_)
  refine mj_blk h.1 b_Ft_at_0 rfl trivial ?_
  refine mj_iflt h.1 (tgt := 30) d_Ft_at_1 (by decide) (fun h1 => ?_) (fun h1 => ?_)
  · exact absurd h1 (by decide)
  · refine mj_blk h.1 b_Ft_at_4 rfl trivial ?_
    refine mj_icge h.1 (tgt := 30) d_Ft_at_6 (by decide) (fun h2 => ?_) (fun h2 => ?_)
    · exact absurd h2 (by decide)
    · refine mj_blk h.1 b_Ft_at_9 rfl ⟨vp_in_nI (by decide) (by decide), trivial⟩ ?_
      refine mj_callV h zGood (ev_Fl_isLive l D cA _ _ _ _ _ _) v_Fl_isLive l_Ft_at_15 d_Ft_at_15 rfl ⟨by decide, by decide⟩ ⟨by decide, by decide⟩ [(0, 5), (1, 12), (2, 13)] rfl rfl rfl rfl rfl rfl (Nat.le_of_ble_eq_true rfl) ?_
      rintro _ _ ⟨rfl, rfl⟩
      refine mj_k rfl rfl ?_
      first | refine mj_ifeqB h.1 (tgt := 30) d_Ft_at_18 (by decide) (fun h3 => ?_) (fun h3 => ?_) | refine mj_ifeq h.1 (tgt := 30) d_Ft_at_18 (by decide) (fun h3 => ?_) (fun h3 => ?_)
      · refine mj_blk h.1 b_Ft_at_30 rfl trivial ?_
        exact mj_aretN h rfl d_Ft_at_31 (by decide) (by decide) ⟨by rw [if_neg h3], rfl⟩
      · refine mj_blk h.1 b_Ft_at_21 rfl ⟨vp_in_nI (by decide) (by decide), trivial⟩ ?_
        exact mj_aret h rfl d_Ft_at_31 (by decide) (by decide) ⟨by rw [if_pos h3], rfl⟩
set_option maxRecDepth 100000 in
set_option maxHeartbeats 4000000 in
theorem ev_Ft_at_N (k : Int32) (hk : k < 0 ∨ 4 ≤ k) : E0_Ft_at l D cA [.ref 0, .int k] [(0, .inr (2, [.ref 1, .int ph])), (1, .inl (3, 4, .inr (.inr [some 2, some 3, some 4, some 5]))), (2, cFl 6 7 (ch 0) (cp 0) (sh 0) (sp 0) (ha 0) (lv 0)), (3, cFl 8 9 (ch 1) (cp 1) (sh 1) (sp 1) (ha 1) (lv 1)), (4, cFl 10 11 (ch 2) (cp 2) (sh 2) (sp 2) (ha 2) (lv 2)), (5, cFl 12 13 (ch 3) (cp 3) (sh 3) (sp 3) (ha 3) (lv 3))] (some .null) [(0, .inr (2, [.ref 1, .int ph])), (1, .inl (3, 4, .inr (.inr [some 2, some 3, some 4, some 5]))), (2, cFl 6 7 (ch 0) (cp 0) (sh 0) (sp 0) (ha 0) (lv 0)), (3, cFl 8 9 (ch 1) (cp 1) (sh 1) (sp 1) (ha 1) (lv 1)), (4, cFl 10 11 (ch 2) (cp 2) (sh 2) (sp 2) (ha 2) (lv 2)), (5, cFl 12 13 (ch 3) (cp 3) (sh 3) (sp 3) (ha 3) (lv 3))] := by
  refine mj_ev (lv := [(0, .ref 0), (1, .int k)]) (by decide +kernel) (Nat.le_of_ble_eq_true rfl) rfl (fun X h => ?_)
  refine mj_blk h.1 b_Ft_at_0 rfl trivial ?_
  refine mj_iflt h.1 (tgt := 30) d_Ft_at_1 (by decide) (fun h1 => ?_) (fun h1 => ?_)
  · refine mj_blk h.1 b_Ft_at_30 rfl trivial ?_
    first | exact mj_aret h rfl d_Ft_at_31 (by decide) (by decide) ⟨rfl, rfl⟩ | exact mj_aretN h rfl d_Ft_at_31 (by decide) (by decide) ⟨rfl, rfl⟩
  · refine mj_blk h.1 b_Ft_at_4 rfl trivial ?_
    refine mj_icge h.1 (tgt := 30) d_Ft_at_6 (by decide) (fun h2 => ?_) (fun h2 => ?_)
    · refine mj_blk h.1 b_Ft_at_30 rfl trivial ?_
      first | exact mj_aret h rfl d_Ft_at_31 (by decide) (by decide) ⟨rfl, rfl⟩ | exact mj_aretN h rfl d_Ft_at_31 (by decide) (by decide) ⟨rfl, rfl⟩
    · exact absurd hk (fun z => z.elim h1 h2)
set_option maxRecDepth 100000 in
set_option maxHeartbeats 4000000 in
theorem ev_Ft_hear_0 (a b : Nat) (c1 c2 c3 c4 c5 : Int32) (v : Bool) : E0_Ft_hear l D cA [.ref 0, .ref 2] [(0, .inr (2, [.ref 1, .int ph])), (2, cFl 6 7 c1 c2 c3 c4 c5 v)] none [(0, .inr (2, [.ref 1, .int (ph + 1)])), (2, cFl 6 7 c1 c2 c3 c4 (ph + 1) v)] := by
  refine mj_ev (lv := [(0, .ref 0), (1, .ref 2)]) (by decide +kernel) (Nat.le_of_ble_eq_true rfl) rfl (fun X h => ?_)
  refine mj_blk h.1 b_Ft_hear_0 rfl trivial ?_
  exact mj_vret h rfl d_Ft_hear_18 (by decide) (by decide) ⟨rfl, rfl⟩
abbrev fIs (ch cp sh sp : Nat → Int32) (lv : Nat → Bool) (fh fp th tp : Int32) (j : Nat) : Prop := lv j = true ∧ ¬ fWay (ch j) (cp j) (sh j) (sp j) fh fp th tp = -1
/-- which flow the packet is of -/
def fOf (ch cp sh sp : Nat → Int32) (lv : Nat → Bool) (fh fp th tp : Int32) : Nat → Nat → Option Nat
  | 0, _ => none
  | r + 1, j => if fIs ch cp sh sp lv fh fp th tp j then some j else fOf ch cp sh sp lv fh fp th tp r (j + 1)
def fRef : Option Nat → Value
  | some j => .ref (2 + j)
  | none => .null
set_option maxRecDepth 100000 in
set_option maxHeartbeats 4000000 in
theorem lp_Ft_of_4 {X : mj_X} {post : mj_R} (fh fp th tp fn ds dz fg : Int32) (h : mj_E zG X l D cA m_Ft_of 2 80 0 0 (fun _ => True) post) (hp : post (some .null) [(0, .inr (2, [.ref 1, .int ph])), (1, .inl (3, 4, .inr (.inr [some 2, some 3, some 4, some 5]))), (2, cFl 6 7 (ch 0) (cp 0) (sh 0) (sp 0) (ha 0) (lv 0)), (3, cFl 8 9 (ch 1) (cp 1) (sh 1) (sp 1) (ha 1) (lv 1)), (4, cFl 10 11 (ch 2) (cp 2) (sh 2) (sp 2) (ha 2) (lv 2)), (5, cFl 12 13 (ch 3) (cp 3) (sh 3) (sp 3) (ha 3) (lv 3)), (40, cPk fh fp th tp fn ds dz fg)]) : mj_W zG X 0 0 2 [(2, .int (nI 4)), (0, .ref 0), (1, .ref 40)] [] [(0, .inr (2, [.ref 1, .int ph])), (1, .inl (3, 4, .inr (.inr [some 2, some 3, some 4, some 5]))), (2, cFl 6 7 (ch 0) (cp 0) (sh 0) (sp 0) (ha 0) (lv 0)), (3, cFl 8 9 (ch 1) (cp 1) (sh 1) (sp 1) (ha 1) (lv 1)), (4, cFl 10 11 (ch 2) (cp 2) (sh 2) (sp 2) (ha 2) (lv 2)), (5, cFl 12 13 (ch 3) (cp 3) (sh 3) (sp 3) (ha 3) (lv 3)), (40, cPk fh fp th tp fn ds dz fg)] := by
  refine mj_blk h.1 b_Ft_of_2 rfl trivial ?_
  refine mj_icge h.1 (tgt := 34) d_Ft_of_4 (by decide) (fun h1 => ?_) (fun h1 => ?_)
  · refine mj_blk h.1 b_Ft_of_34 rfl trivial ?_
    exact mj_aretN h rfl d_Ft_of_35 (by decide) (by decide) hp
  · exact absurd (by decide) h1
set_option maxRecDepth 100000 in
set_option maxHeartbeats 4000000 in
theorem lp_Ft_of_3 {X : mj_X} {post : mj_R} (fh fp th tp fn ds dz fg : Int32) (h : mj_E zG X l D cA m_Ft_of 2 80 0 0 (fun _ => True) post) (hp : post (some (fRef (fOf ch cp sh sp lv fh fp th tp 1 3))) [(0, .inr (2, [.ref 1, .int ph])), (1, .inl (3, 4, .inr (.inr [some 2, some 3, some 4, some 5]))), (2, cFl 6 7 (ch 0) (cp 0) (sh 0) (sp 0) (ha 0) (lv 0)), (3, cFl 8 9 (ch 1) (cp 1) (sh 1) (sp 1) (ha 1) (lv 1)), (4, cFl 10 11 (ch 2) (cp 2) (sh 2) (sp 2) (ha 2) (lv 2)), (5, cFl 12 13 (ch 3) (cp 3) (sh 3) (sp 3) (ha 3) (lv 3)), (40, cPk fh fp th tp fn ds dz fg)]) : mj_W zG X 0 0 2 [(2, .int (nI 3)), (0, .ref 0), (1, .ref 40)] [] [(0, .inr (2, [.ref 1, .int ph])), (1, .inl (3, 4, .inr (.inr [some 2, some 3, some 4, some 5]))), (2, cFl 6 7 (ch 0) (cp 0) (sh 0) (sp 0) (ha 0) (lv 0)), (3, cFl 8 9 (ch 1) (cp 1) (sh 1) (sp 1) (ha 1) (lv 1)), (4, cFl 10 11 (ch 2) (cp 2) (sh 2) (sp 2) (ha 2) (lv 2)), (5, cFl 12 13 (ch 3) (cp 3) (sh 3) (sp 3) (ha 3) (lv 3)), (40, cPk fh fp th tp fn ds dz fg)] := by
  refine mj_blk h.1 b_Ft_of_2 rfl trivial ?_
  refine mj_icge h.1 (tgt := 34) d_Ft_of_4 (by decide) (fun h1 => ?_) (fun h1 => ?_)
  · exact absurd h1 (by decide)
  · refine mj_blk h.1 b_Ft_of_7 rfl trivial ?_
    refine mj_callV h zGood (ev_Ft_at_3 l D cA _ _ _ _ _ _ _) v_Ft_at l_Ft_of_9 d_Ft_of_9 rfl ⟨by decide, by decide⟩ ⟨by decide, by decide⟩ [(0, 0), (1, 1), (2, 2), (3, 3), (4, 4), (5, 5), (6, 6), (7, 7), (8, 8), (9, 9), (10, 10), (11, 11), (12, 12), (13, 13)] rfl rfl rfl rfl rfl rfl (Nat.le_of_ble_eq_true rfl) ?_
    rintro _ _ ⟨rfl, rfl⟩
    by_cases hl : lv 3 = true
    · rw [show (if lv 3 = true then Value.ref 5 else Value.null) = Value.ref 5 from if_pos hl]
      refine mj_k rfl rfl ?_
      refine mj_blk h.1 b_Ft_of_12 rfl trivial ?_
      refine mj_ifnull_r h.1 d_Ft_of_14 ?_
      refine mj_blk h.1 b_Ft_of_17 rfl trivial ?_
      refine mj_callV h zGood (ev_Fl_wayOf l D cA _ _ _ _ _ _ _ _ _ _ _ _ _ _) v_Fl_wayOf l_Ft_of_19 d_Ft_of_19 rfl ⟨by decide, by decide⟩ ⟨by decide, by decide⟩ [(0, 5), (1, 12), (2, 13), (3, 40)] rfl rfl rfl rfl rfl rfl (Nat.le_of_ble_eq_true rfl) ?_
      rintro _ _ ⟨rfl, rfl⟩
      refine mj_k rfl rfl ?_
      refine mj_blk h.1 b_Ft_of_22 rfl trivial ?_
      refine mj_iceq h.1 (tgt := 28) d_Ft_of_23 (by decide) (fun h2 => ?_) (fun h2 => ?_)
      · refine mj_blk h.1 b_Ft_of_28 rfl trivial ?_
        refine mj_lpk [0, 2, 3] rfl ?_
        have hp2 : post (some (fRef (fOf ch cp sh sp lv fh fp th tp 0 4))) [(0, .inr (2, [.ref 1, .int ph])), (1, .inl (3, 4, .inr (.inr [some 2, some 3, some 4, some 5]))), (2, cFl 6 7 (ch 0) (cp 0) (sh 0) (sp 0) (ha 0) (lv 0)), (3, cFl 8 9 (ch 1) (cp 1) (sh 1) (sp 1) (ha 1) (lv 1)), (4, cFl 10 11 (ch 2) (cp 2) (sh 2) (sp 2) (ha 2) (lv 2)), (5, cFl 12 13 (ch 3) (cp 3) (sh 3) (sp 3) (ha 3) (lv 3)), (40, cPk fh fp th tp fn ds dz fg)] := by
          have hp2 := hp
          unfold fOf at hp2
          rw [if_neg (show ¬ fIs ch cp sh sp lv fh fp th tp 3 from fun z => z.2 h2)] at hp2
          exact hp2
        rw [show (nI 3 + 1 : Int32) = nI 4 from rfl]
        exact lp_Ft_of_4 l D cA ph ch cp sh sp ha lv fh fp th tp fn ds dz fg h hp2
      · have hp2 := hp
        unfold fOf at hp2
        rw [if_pos (show fIs ch cp sh sp lv fh fp th tp 3 from ⟨hl, h2⟩)] at hp2
        refine mj_blk h.1 b_Ft_of_26 rfl trivial ?_
        exact mj_aret h rfl d_Ft_of_27 (by decide) (by decide) hp2
    · rw [show (if lv 3 = true then Value.ref 5 else Value.null) = Value.null from if_neg hl]
      refine mj_k rfl rfl ?_
      refine mj_blk h.1 b_Ft_of_12 rfl trivial ?_
      refine mj_ifnull_n h.1 d_Ft_of_14 (tgt := 28) (by decide) ?_
      refine mj_blk h.1 b_Ft_of_28 rfl trivial ?_
      refine mj_lpk [0, 2, 3] rfl ?_
      have hp2 : post (some (fRef (fOf ch cp sh sp lv fh fp th tp 0 4))) [(0, .inr (2, [.ref 1, .int ph])), (1, .inl (3, 4, .inr (.inr [some 2, some 3, some 4, some 5]))), (2, cFl 6 7 (ch 0) (cp 0) (sh 0) (sp 0) (ha 0) (lv 0)), (3, cFl 8 9 (ch 1) (cp 1) (sh 1) (sp 1) (ha 1) (lv 1)), (4, cFl 10 11 (ch 2) (cp 2) (sh 2) (sp 2) (ha 2) (lv 2)), (5, cFl 12 13 (ch 3) (cp 3) (sh 3) (sp 3) (ha 3) (lv 3)), (40, cPk fh fp th tp fn ds dz fg)] := by
        have hp2 := hp
        unfold fOf at hp2
        rw [if_neg (show ¬ fIs ch cp sh sp lv fh fp th tp 3 from fun z => hl z.1)] at hp2
        exact hp2
      rw [show (nI 3 + 1 : Int32) = nI 4 from rfl]
      exact lp_Ft_of_4 l D cA ph ch cp sh sp ha lv fh fp th tp fn ds dz fg h hp2
set_option maxRecDepth 100000 in
set_option maxHeartbeats 4000000 in
theorem lp_Ft_of_2 {X : mj_X} {post : mj_R} (fh fp th tp fn ds dz fg : Int32) (h : mj_E zG X l D cA m_Ft_of 2 80 0 0 (fun _ => True) post) (hp : post (some (fRef (fOf ch cp sh sp lv fh fp th tp 2 2))) [(0, .inr (2, [.ref 1, .int ph])), (1, .inl (3, 4, .inr (.inr [some 2, some 3, some 4, some 5]))), (2, cFl 6 7 (ch 0) (cp 0) (sh 0) (sp 0) (ha 0) (lv 0)), (3, cFl 8 9 (ch 1) (cp 1) (sh 1) (sp 1) (ha 1) (lv 1)), (4, cFl 10 11 (ch 2) (cp 2) (sh 2) (sp 2) (ha 2) (lv 2)), (5, cFl 12 13 (ch 3) (cp 3) (sh 3) (sp 3) (ha 3) (lv 3)), (40, cPk fh fp th tp fn ds dz fg)]) : mj_W zG X 0 0 2 [(2, .int (nI 2)), (0, .ref 0), (1, .ref 40)] [] [(0, .inr (2, [.ref 1, .int ph])), (1, .inl (3, 4, .inr (.inr [some 2, some 3, some 4, some 5]))), (2, cFl 6 7 (ch 0) (cp 0) (sh 0) (sp 0) (ha 0) (lv 0)), (3, cFl 8 9 (ch 1) (cp 1) (sh 1) (sp 1) (ha 1) (lv 1)), (4, cFl 10 11 (ch 2) (cp 2) (sh 2) (sp 2) (ha 2) (lv 2)), (5, cFl 12 13 (ch 3) (cp 3) (sh 3) (sp 3) (ha 3) (lv 3)), (40, cPk fh fp th tp fn ds dz fg)] := by
  refine mj_blk h.1 b_Ft_of_2 rfl trivial ?_
  refine mj_icge h.1 (tgt := 34) d_Ft_of_4 (by decide) (fun h1 => ?_) (fun h1 => ?_)
  · exact absurd h1 (by decide)
  · refine mj_blk h.1 b_Ft_of_7 rfl trivial ?_
    refine mj_callV h zGood (ev_Ft_at_2 l D cA _ _ _ _ _ _ _) v_Ft_at l_Ft_of_9 d_Ft_of_9 rfl ⟨by decide, by decide⟩ ⟨by decide, by decide⟩ [(0, 0), (1, 1), (2, 2), (3, 3), (4, 4), (5, 5), (6, 6), (7, 7), (8, 8), (9, 9), (10, 10), (11, 11), (12, 12), (13, 13)] rfl rfl rfl rfl rfl rfl (Nat.le_of_ble_eq_true rfl) ?_
    rintro _ _ ⟨rfl, rfl⟩
    by_cases hl : lv 2 = true
    · rw [show (if lv 2 = true then Value.ref 4 else Value.null) = Value.ref 4 from if_pos hl]
      refine mj_k rfl rfl ?_
      refine mj_blk h.1 b_Ft_of_12 rfl trivial ?_
      refine mj_ifnull_r h.1 d_Ft_of_14 ?_
      refine mj_blk h.1 b_Ft_of_17 rfl trivial ?_
      refine mj_callV h zGood (ev_Fl_wayOf l D cA _ _ _ _ _ _ _ _ _ _ _ _ _ _) v_Fl_wayOf l_Ft_of_19 d_Ft_of_19 rfl ⟨by decide, by decide⟩ ⟨by decide, by decide⟩ [(0, 4), (1, 10), (2, 11), (3, 40)] rfl rfl rfl rfl rfl rfl (Nat.le_of_ble_eq_true rfl) ?_
      rintro _ _ ⟨rfl, rfl⟩
      refine mj_k rfl rfl ?_
      refine mj_blk h.1 b_Ft_of_22 rfl trivial ?_
      refine mj_iceq h.1 (tgt := 28) d_Ft_of_23 (by decide) (fun h2 => ?_) (fun h2 => ?_)
      · refine mj_blk h.1 b_Ft_of_28 rfl trivial ?_
        refine mj_lpk [0, 2, 3] rfl ?_
        have hp2 : post (some (fRef (fOf ch cp sh sp lv fh fp th tp 1 3))) [(0, .inr (2, [.ref 1, .int ph])), (1, .inl (3, 4, .inr (.inr [some 2, some 3, some 4, some 5]))), (2, cFl 6 7 (ch 0) (cp 0) (sh 0) (sp 0) (ha 0) (lv 0)), (3, cFl 8 9 (ch 1) (cp 1) (sh 1) (sp 1) (ha 1) (lv 1)), (4, cFl 10 11 (ch 2) (cp 2) (sh 2) (sp 2) (ha 2) (lv 2)), (5, cFl 12 13 (ch 3) (cp 3) (sh 3) (sp 3) (ha 3) (lv 3)), (40, cPk fh fp th tp fn ds dz fg)] := by
          have hp2 := hp
          unfold fOf at hp2
          rw [if_neg (show ¬ fIs ch cp sh sp lv fh fp th tp 2 from fun z => z.2 h2)] at hp2
          exact hp2
        rw [show (nI 2 + 1 : Int32) = nI 3 from rfl]
        exact lp_Ft_of_3 l D cA ph ch cp sh sp ha lv fh fp th tp fn ds dz fg h hp2
      · have hp2 := hp
        unfold fOf at hp2
        rw [if_pos (show fIs ch cp sh sp lv fh fp th tp 2 from ⟨hl, h2⟩)] at hp2
        refine mj_blk h.1 b_Ft_of_26 rfl trivial ?_
        exact mj_aret h rfl d_Ft_of_27 (by decide) (by decide) hp2
    · rw [show (if lv 2 = true then Value.ref 4 else Value.null) = Value.null from if_neg hl]
      refine mj_k rfl rfl ?_
      refine mj_blk h.1 b_Ft_of_12 rfl trivial ?_
      refine mj_ifnull_n h.1 d_Ft_of_14 (tgt := 28) (by decide) ?_
      refine mj_blk h.1 b_Ft_of_28 rfl trivial ?_
      refine mj_lpk [0, 2, 3] rfl ?_
      have hp2 : post (some (fRef (fOf ch cp sh sp lv fh fp th tp 1 3))) [(0, .inr (2, [.ref 1, .int ph])), (1, .inl (3, 4, .inr (.inr [some 2, some 3, some 4, some 5]))), (2, cFl 6 7 (ch 0) (cp 0) (sh 0) (sp 0) (ha 0) (lv 0)), (3, cFl 8 9 (ch 1) (cp 1) (sh 1) (sp 1) (ha 1) (lv 1)), (4, cFl 10 11 (ch 2) (cp 2) (sh 2) (sp 2) (ha 2) (lv 2)), (5, cFl 12 13 (ch 3) (cp 3) (sh 3) (sp 3) (ha 3) (lv 3)), (40, cPk fh fp th tp fn ds dz fg)] := by
        have hp2 := hp
        unfold fOf at hp2
        rw [if_neg (show ¬ fIs ch cp sh sp lv fh fp th tp 2 from fun z => hl z.1)] at hp2
        exact hp2
      rw [show (nI 2 + 1 : Int32) = nI 3 from rfl]
      exact lp_Ft_of_3 l D cA ph ch cp sh sp ha lv fh fp th tp fn ds dz fg h hp2
set_option maxRecDepth 100000 in
set_option maxHeartbeats 4000000 in
theorem lp_Ft_of_1 {X : mj_X} {post : mj_R} (fh fp th tp fn ds dz fg : Int32) (h : mj_E zG X l D cA m_Ft_of 2 80 0 0 (fun _ => True) post) (hp : post (some (fRef (fOf ch cp sh sp lv fh fp th tp 3 1))) [(0, .inr (2, [.ref 1, .int ph])), (1, .inl (3, 4, .inr (.inr [some 2, some 3, some 4, some 5]))), (2, cFl 6 7 (ch 0) (cp 0) (sh 0) (sp 0) (ha 0) (lv 0)), (3, cFl 8 9 (ch 1) (cp 1) (sh 1) (sp 1) (ha 1) (lv 1)), (4, cFl 10 11 (ch 2) (cp 2) (sh 2) (sp 2) (ha 2) (lv 2)), (5, cFl 12 13 (ch 3) (cp 3) (sh 3) (sp 3) (ha 3) (lv 3)), (40, cPk fh fp th tp fn ds dz fg)]) : mj_W zG X 0 0 2 [(2, .int (nI 1)), (0, .ref 0), (1, .ref 40)] [] [(0, .inr (2, [.ref 1, .int ph])), (1, .inl (3, 4, .inr (.inr [some 2, some 3, some 4, some 5]))), (2, cFl 6 7 (ch 0) (cp 0) (sh 0) (sp 0) (ha 0) (lv 0)), (3, cFl 8 9 (ch 1) (cp 1) (sh 1) (sp 1) (ha 1) (lv 1)), (4, cFl 10 11 (ch 2) (cp 2) (sh 2) (sp 2) (ha 2) (lv 2)), (5, cFl 12 13 (ch 3) (cp 3) (sh 3) (sp 3) (ha 3) (lv 3)), (40, cPk fh fp th tp fn ds dz fg)] := by
  refine mj_blk h.1 b_Ft_of_2 rfl trivial ?_
  refine mj_icge h.1 (tgt := 34) d_Ft_of_4 (by decide) (fun h1 => ?_) (fun h1 => ?_)
  · exact absurd h1 (by decide)
  · refine mj_blk h.1 b_Ft_of_7 rfl trivial ?_
    refine mj_callV h zGood (ev_Ft_at_1 l D cA _ _ _ _ _ _ _) v_Ft_at l_Ft_of_9 d_Ft_of_9 rfl ⟨by decide, by decide⟩ ⟨by decide, by decide⟩ [(0, 0), (1, 1), (2, 2), (3, 3), (4, 4), (5, 5), (6, 6), (7, 7), (8, 8), (9, 9), (10, 10), (11, 11), (12, 12), (13, 13)] rfl rfl rfl rfl rfl rfl (Nat.le_of_ble_eq_true rfl) ?_
    rintro _ _ ⟨rfl, rfl⟩
    by_cases hl : lv 1 = true
    · rw [show (if lv 1 = true then Value.ref 3 else Value.null) = Value.ref 3 from if_pos hl]
      refine mj_k rfl rfl ?_
      refine mj_blk h.1 b_Ft_of_12 rfl trivial ?_
      refine mj_ifnull_r h.1 d_Ft_of_14 ?_
      refine mj_blk h.1 b_Ft_of_17 rfl trivial ?_
      refine mj_callV h zGood (ev_Fl_wayOf l D cA _ _ _ _ _ _ _ _ _ _ _ _ _ _) v_Fl_wayOf l_Ft_of_19 d_Ft_of_19 rfl ⟨by decide, by decide⟩ ⟨by decide, by decide⟩ [(0, 3), (1, 8), (2, 9), (3, 40)] rfl rfl rfl rfl rfl rfl (Nat.le_of_ble_eq_true rfl) ?_
      rintro _ _ ⟨rfl, rfl⟩
      refine mj_k rfl rfl ?_
      refine mj_blk h.1 b_Ft_of_22 rfl trivial ?_
      refine mj_iceq h.1 (tgt := 28) d_Ft_of_23 (by decide) (fun h2 => ?_) (fun h2 => ?_)
      · refine mj_blk h.1 b_Ft_of_28 rfl trivial ?_
        refine mj_lpk [0, 2, 3] rfl ?_
        have hp2 : post (some (fRef (fOf ch cp sh sp lv fh fp th tp 2 2))) [(0, .inr (2, [.ref 1, .int ph])), (1, .inl (3, 4, .inr (.inr [some 2, some 3, some 4, some 5]))), (2, cFl 6 7 (ch 0) (cp 0) (sh 0) (sp 0) (ha 0) (lv 0)), (3, cFl 8 9 (ch 1) (cp 1) (sh 1) (sp 1) (ha 1) (lv 1)), (4, cFl 10 11 (ch 2) (cp 2) (sh 2) (sp 2) (ha 2) (lv 2)), (5, cFl 12 13 (ch 3) (cp 3) (sh 3) (sp 3) (ha 3) (lv 3)), (40, cPk fh fp th tp fn ds dz fg)] := by
          have hp2 := hp
          unfold fOf at hp2
          rw [if_neg (show ¬ fIs ch cp sh sp lv fh fp th tp 1 from fun z => z.2 h2)] at hp2
          exact hp2
        rw [show (nI 1 + 1 : Int32) = nI 2 from rfl]
        exact lp_Ft_of_2 l D cA ph ch cp sh sp ha lv fh fp th tp fn ds dz fg h hp2
      · have hp2 := hp
        unfold fOf at hp2
        rw [if_pos (show fIs ch cp sh sp lv fh fp th tp 1 from ⟨hl, h2⟩)] at hp2
        refine mj_blk h.1 b_Ft_of_26 rfl trivial ?_
        exact mj_aret h rfl d_Ft_of_27 (by decide) (by decide) hp2
    · rw [show (if lv 1 = true then Value.ref 3 else Value.null) = Value.null from if_neg hl]
      refine mj_k rfl rfl ?_
      refine mj_blk h.1 b_Ft_of_12 rfl trivial ?_
      refine mj_ifnull_n h.1 d_Ft_of_14 (tgt := 28) (by decide) ?_
      refine mj_blk h.1 b_Ft_of_28 rfl trivial ?_
      refine mj_lpk [0, 2, 3] rfl ?_
      have hp2 : post (some (fRef (fOf ch cp sh sp lv fh fp th tp 2 2))) [(0, .inr (2, [.ref 1, .int ph])), (1, .inl (3, 4, .inr (.inr [some 2, some 3, some 4, some 5]))), (2, cFl 6 7 (ch 0) (cp 0) (sh 0) (sp 0) (ha 0) (lv 0)), (3, cFl 8 9 (ch 1) (cp 1) (sh 1) (sp 1) (ha 1) (lv 1)), (4, cFl 10 11 (ch 2) (cp 2) (sh 2) (sp 2) (ha 2) (lv 2)), (5, cFl 12 13 (ch 3) (cp 3) (sh 3) (sp 3) (ha 3) (lv 3)), (40, cPk fh fp th tp fn ds dz fg)] := by
        have hp2 := hp
        unfold fOf at hp2
        rw [if_neg (show ¬ fIs ch cp sh sp lv fh fp th tp 1 from fun z => hl z.1)] at hp2
        exact hp2
      rw [show (nI 1 + 1 : Int32) = nI 2 from rfl]
      exact lp_Ft_of_2 l D cA ph ch cp sh sp ha lv fh fp th tp fn ds dz fg h hp2
set_option maxRecDepth 100000 in
set_option maxHeartbeats 4000000 in
theorem lp_Ft_of_0 {X : mj_X} {post : mj_R} (fh fp th tp fn ds dz fg : Int32) (h : mj_E zG X l D cA m_Ft_of 2 80 0 0 (fun _ => True) post) (hp : post (some (fRef (fOf ch cp sh sp lv fh fp th tp 4 0))) [(0, .inr (2, [.ref 1, .int ph])), (1, .inl (3, 4, .inr (.inr [some 2, some 3, some 4, some 5]))), (2, cFl 6 7 (ch 0) (cp 0) (sh 0) (sp 0) (ha 0) (lv 0)), (3, cFl 8 9 (ch 1) (cp 1) (sh 1) (sp 1) (ha 1) (lv 1)), (4, cFl 10 11 (ch 2) (cp 2) (sh 2) (sp 2) (ha 2) (lv 2)), (5, cFl 12 13 (ch 3) (cp 3) (sh 3) (sp 3) (ha 3) (lv 3)), (40, cPk fh fp th tp fn ds dz fg)]) : mj_W zG X 0 0 2 [(2, .int (nI 0)), (0, .ref 0), (1, .ref 40)] [] [(0, .inr (2, [.ref 1, .int ph])), (1, .inl (3, 4, .inr (.inr [some 2, some 3, some 4, some 5]))), (2, cFl 6 7 (ch 0) (cp 0) (sh 0) (sp 0) (ha 0) (lv 0)), (3, cFl 8 9 (ch 1) (cp 1) (sh 1) (sp 1) (ha 1) (lv 1)), (4, cFl 10 11 (ch 2) (cp 2) (sh 2) (sp 2) (ha 2) (lv 2)), (5, cFl 12 13 (ch 3) (cp 3) (sh 3) (sp 3) (ha 3) (lv 3)), (40, cPk fh fp th tp fn ds dz fg)] := by
  refine mj_blk h.1 b_Ft_of_2 rfl trivial ?_
  refine mj_icge h.1 (tgt := 34) d_Ft_of_4 (by decide) (fun h1 => ?_) (fun h1 => ?_)
  · exact absurd h1 (by decide)
  · refine mj_blk h.1 b_Ft_of_7 rfl trivial ?_
    refine mj_callV h zGood (ev_Ft_at_0 l D cA _ _ _ _ _ _ _) v_Ft_at l_Ft_of_9 d_Ft_of_9 rfl ⟨by decide, by decide⟩ ⟨by decide, by decide⟩ [(0, 0), (1, 1), (2, 2), (3, 3), (4, 4), (5, 5), (6, 6), (7, 7), (8, 8), (9, 9), (10, 10), (11, 11), (12, 12), (13, 13)] rfl rfl rfl rfl rfl rfl (Nat.le_of_ble_eq_true rfl) ?_
    rintro _ _ ⟨rfl, rfl⟩
    by_cases hl : lv 0 = true
    · rw [show (if lv 0 = true then Value.ref 2 else Value.null) = Value.ref 2 from if_pos hl]
      refine mj_k rfl rfl ?_
      refine mj_blk h.1 b_Ft_of_12 rfl trivial ?_
      refine mj_ifnull_r h.1 d_Ft_of_14 ?_
      refine mj_blk h.1 b_Ft_of_17 rfl trivial ?_
      refine mj_callV h zGood (ev_Fl_wayOf l D cA _ _ _ _ _ _ _ _ _ _ _ _ _ _) v_Fl_wayOf l_Ft_of_19 d_Ft_of_19 rfl ⟨by decide, by decide⟩ ⟨by decide, by decide⟩ [(0, 2), (1, 6), (2, 7), (3, 40)] rfl rfl rfl rfl rfl rfl (Nat.le_of_ble_eq_true rfl) ?_
      rintro _ _ ⟨rfl, rfl⟩
      refine mj_k rfl rfl ?_
      refine mj_blk h.1 b_Ft_of_22 rfl trivial ?_
      refine mj_iceq h.1 (tgt := 28) d_Ft_of_23 (by decide) (fun h2 => ?_) (fun h2 => ?_)
      · refine mj_blk h.1 b_Ft_of_28 rfl trivial ?_
        refine mj_lpk [0, 2, 3] rfl ?_
        have hp2 : post (some (fRef (fOf ch cp sh sp lv fh fp th tp 3 1))) [(0, .inr (2, [.ref 1, .int ph])), (1, .inl (3, 4, .inr (.inr [some 2, some 3, some 4, some 5]))), (2, cFl 6 7 (ch 0) (cp 0) (sh 0) (sp 0) (ha 0) (lv 0)), (3, cFl 8 9 (ch 1) (cp 1) (sh 1) (sp 1) (ha 1) (lv 1)), (4, cFl 10 11 (ch 2) (cp 2) (sh 2) (sp 2) (ha 2) (lv 2)), (5, cFl 12 13 (ch 3) (cp 3) (sh 3) (sp 3) (ha 3) (lv 3)), (40, cPk fh fp th tp fn ds dz fg)] := by
          have hp2 := hp
          unfold fOf at hp2
          rw [if_neg (show ¬ fIs ch cp sh sp lv fh fp th tp 0 from fun z => z.2 h2)] at hp2
          exact hp2
        rw [show (nI 0 + 1 : Int32) = nI 1 from rfl]
        exact lp_Ft_of_1 l D cA ph ch cp sh sp ha lv fh fp th tp fn ds dz fg h hp2
      · have hp2 := hp
        unfold fOf at hp2
        rw [if_pos (show fIs ch cp sh sp lv fh fp th tp 0 from ⟨hl, h2⟩)] at hp2
        refine mj_blk h.1 b_Ft_of_26 rfl trivial ?_
        exact mj_aret h rfl d_Ft_of_27 (by decide) (by decide) hp2
    · rw [show (if lv 0 = true then Value.ref 2 else Value.null) = Value.null from if_neg hl]
      refine mj_k rfl rfl ?_
      refine mj_blk h.1 b_Ft_of_12 rfl trivial ?_
      refine mj_ifnull_n h.1 d_Ft_of_14 (tgt := 28) (by decide) ?_
      refine mj_blk h.1 b_Ft_of_28 rfl trivial ?_
      refine mj_lpk [0, 2, 3] rfl ?_
      have hp2 : post (some (fRef (fOf ch cp sh sp lv fh fp th tp 3 1))) [(0, .inr (2, [.ref 1, .int ph])), (1, .inl (3, 4, .inr (.inr [some 2, some 3, some 4, some 5]))), (2, cFl 6 7 (ch 0) (cp 0) (sh 0) (sp 0) (ha 0) (lv 0)), (3, cFl 8 9 (ch 1) (cp 1) (sh 1) (sp 1) (ha 1) (lv 1)), (4, cFl 10 11 (ch 2) (cp 2) (sh 2) (sp 2) (ha 2) (lv 2)), (5, cFl 12 13 (ch 3) (cp 3) (sh 3) (sp 3) (ha 3) (lv 3)), (40, cPk fh fp th tp fn ds dz fg)] := by
        have hp2 := hp
        unfold fOf at hp2
        rw [if_neg (show ¬ fIs ch cp sh sp lv fh fp th tp 0 from fun z => hl z.1)] at hp2
        exact hp2
      rw [show (nI 0 + 1 : Int32) = nI 1 from rfl]
      exact lp_Ft_of_1 l D cA ph ch cp sh sp ha lv fh fp th tp fn ds dz fg h hp2
set_option maxRecDepth 100000 in
set_option maxHeartbeats 4000000 in
theorem ev_Ft_of (fh fp th tp fn ds dz fg : Int32) : E0_Ft_of l D cA [.ref 0, .ref 40] [(0, .inr (2, [.ref 1, .int ph])), (1, .inl (3, 4, .inr (.inr [some 2, some 3, some 4, some 5]))), (2, cFl 6 7 (ch 0) (cp 0) (sh 0) (sp 0) (ha 0) (lv 0)), (3, cFl 8 9 (ch 1) (cp 1) (sh 1) (sp 1) (ha 1) (lv 1)), (4, cFl 10 11 (ch 2) (cp 2) (sh 2) (sp 2) (ha 2) (lv 2)), (5, cFl 12 13 (ch 3) (cp 3) (sh 3) (sp 3) (ha 3) (lv 3)), (40, cPk fh fp th tp fn ds dz fg)] (some (fRef (fOf ch cp sh sp lv fh fp th tp 4 0))) [(0, .inr (2, [.ref 1, .int ph])), (1, .inl (3, 4, .inr (.inr [some 2, some 3, some 4, some 5]))), (2, cFl 6 7 (ch 0) (cp 0) (sh 0) (sp 0) (ha 0) (lv 0)), (3, cFl 8 9 (ch 1) (cp 1) (sh 1) (sp 1) (ha 1) (lv 1)), (4, cFl 10 11 (ch 2) (cp 2) (sh 2) (sp 2) (ha 2) (lv 2)), (5, cFl 12 13 (ch 3) (cp 3) (sh 3) (sp 3) (ha 3) (lv 3)), (40, cPk fh fp th tp fn ds dz fg)] := by
  refine mj_ev (lv := [(0, .ref 0), (1, .ref 40)]) (by decide +kernel) (Nat.le_of_ble_eq_true rfl) rfl (fun X h => ?_)
  refine mj_blk h.1 b_Ft_of_0 rfl trivial ?_
  exact lp_Ft_of_0 l D cA ph ch cp sh sp ha lv fh fp th tp fn ds dz fg h ⟨rfl, rfl⟩
def hStep (c : Int32) (v : Bool) (a b : Int32) : Int32 := if v = true ∧ ¬ a ≤ b then c + 1 else c
def hAft (ha : Nat → Int32) (lv : Nat → Bool) (b : Int32) : Nat → Nat → Int32 → Int32
  | 0, _, c => c
  | r + 1, j, c => hAft ha lv b r (j + 1) (hStep c (lv j) (ha j) b)
set_option maxRecDepth 100000 in
set_option maxHeartbeats 4000000 in
theorem lp_Ft_ha0_4 {X : mj_X} {post : mj_R} (h : mj_E zG X l D cA m_Ft_heardAfter 2 80 0 0 (fun _ => True) post) (c : Int32) (hp : post (some (.int c)) [(0, .inr (2, [.ref 1, .int ph])), (1, .inl (3, 4, .inr (.inr [some 2, some 3, some 4, some 5]))), (2, cFl 6 7 (ch 0) (cp 0) (sh 0) (sp 0) (ha 0) (lv 0)), (3, cFl 8 9 (ch 1) (cp 1) (sh 1) (sp 1) (ha 1) (lv 1)), (4, cFl 10 11 (ch 2) (cp 2) (sh 2) (sp 2) (ha 2) (lv 2)), (5, cFl 12 13 (ch 3) (cp 3) (sh 3) (sp 3) (ha 3) (lv 3))]) : mj_W zG X 0 0 4 [(3, .int (nI 4)), (2, .int c), (0, .ref 0), (1, .ref 2)] [] [(0, .inr (2, [.ref 1, .int ph])), (1, .inl (3, 4, .inr (.inr [some 2, some 3, some 4, some 5]))), (2, cFl 6 7 (ch 0) (cp 0) (sh 0) (sp 0) (ha 0) (lv 0)), (3, cFl 8 9 (ch 1) (cp 1) (sh 1) (sp 1) (ha 1) (lv 1)), (4, cFl 10 11 (ch 2) (cp 2) (sh 2) (sp 2) (ha 2) (lv 2)), (5, cFl 12 13 (ch 3) (cp 3) (sh 3) (sp 3) (ha 3) (lv 3))] := by
  refine mj_blk h.1 b_Ft_heardAfter_4 rfl trivial ?_
  refine mj_icge h.1 (tgt := 42) d_Ft_heardAfter_6 (by decide) (fun h1 => ?_) (fun h1 => ?_)
  · refine mj_blk h.1 b_Ft_heardAfter_42 rfl trivial ?_
    exact mj_iret h rfl d_Ft_heardAfter_43 (by decide) (by decide) hp
  · exact absurd (by decide) h1
set_option maxRecDepth 100000 in
set_option maxHeartbeats 4000000 in
theorem lp_Ft_ha0_3 {X : mj_X} {post : mj_R} (h : mj_E zG X l D cA m_Ft_heardAfter 2 80 0 0 (fun _ => True) post) (c : Int32) (hp : post (some (.int (hAft ha lv (ha 0) 1 3 c))) [(0, .inr (2, [.ref 1, .int ph])), (1, .inl (3, 4, .inr (.inr [some 2, some 3, some 4, some 5]))), (2, cFl 6 7 (ch 0) (cp 0) (sh 0) (sp 0) (ha 0) (lv 0)), (3, cFl 8 9 (ch 1) (cp 1) (sh 1) (sp 1) (ha 1) (lv 1)), (4, cFl 10 11 (ch 2) (cp 2) (sh 2) (sp 2) (ha 2) (lv 2)), (5, cFl 12 13 (ch 3) (cp 3) (sh 3) (sp 3) (ha 3) (lv 3))]) : mj_W zG X 0 0 4 [(3, .int (nI 3)), (2, .int c), (0, .ref 0), (1, .ref 2)] [] [(0, .inr (2, [.ref 1, .int ph])), (1, .inl (3, 4, .inr (.inr [some 2, some 3, some 4, some 5]))), (2, cFl 6 7 (ch 0) (cp 0) (sh 0) (sp 0) (ha 0) (lv 0)), (3, cFl 8 9 (ch 1) (cp 1) (sh 1) (sp 1) (ha 1) (lv 1)), (4, cFl 10 11 (ch 2) (cp 2) (sh 2) (sp 2) (ha 2) (lv 2)), (5, cFl 12 13 (ch 3) (cp 3) (sh 3) (sp 3) (ha 3) (lv 3))] := by
  refine mj_blk h.1 b_Ft_heardAfter_4 rfl trivial ?_
  refine mj_icge h.1 (tgt := 42) d_Ft_heardAfter_6 (by decide) (fun h1 => ?_) (fun h1 => ?_)
  · exact absurd h1 (by decide)
  · refine mj_blk h.1 b_Ft_heardAfter_9 rfl trivial ?_
    refine mj_callV h zGood (ev_Ft_at_3 l D cA _ _ _ _ _ _ _) v_Ft_at l_Ft_heardAfter_11 d_Ft_heardAfter_11 rfl ⟨by decide, by decide⟩ ⟨by decide, by decide⟩ [(0, 0), (1, 1), (2, 2), (3, 3), (4, 4), (5, 5), (6, 6), (7, 7), (8, 8), (9, 9), (10, 10), (11, 11), (12, 12), (13, 13)] rfl rfl rfl rfl rfl rfl (Nat.le_of_ble_eq_true rfl) ?_
    rintro _ _ ⟨rfl, rfl⟩
    by_cases hl : lv 3 = true
    · rw [show (if lv 3 = true then Value.ref 5 else Value.null) = Value.ref 5 from if_pos hl]
      refine mj_k rfl rfl ?_
      refine mj_blk h.1 b_Ft_heardAfter_14 rfl trivial ?_
      refine mj_ifnull_r h.1 d_Ft_heardAfter_18 ?_
      refine mj_blk h.1 b_Ft_heardAfter_21 rfl trivial ?_
      refine mj_icle h.1 (tgt := 36) d_Ft_heardAfter_30 (by decide) (fun h2 => ?_) (fun h2 => ?_)
      · refine mj_blk h.1 b_Ft_heardAfter_36 rfl trivial ?_
        refine mj_lpk [0, 2, 3, 4] rfl ?_
        have hp2 := hp
        unfold hAft hStep at hp2
        rw [if_neg (fun z => z.2 h2)] at hp2
        rw [show (nI 3 + 1 : Int32) = nI 4 from rfl]
        exact lp_Ft_ha0_4 l D cA ph ch cp sh sp ha lv h _ hp2
      · refine mj_blk h.1 b_Ft_heardAfter_33 rfl trivial ?_
        refine mj_blk h.1 b_Ft_heardAfter_36 rfl trivial ?_
        refine mj_lpk [0, 1, 3, 4] rfl ?_
        have hp2 := hp
        unfold hAft hStep at hp2
        rw [if_pos ⟨hl, h2⟩] at hp2
        rw [show (nI 3 + 1 : Int32) = nI 4 from rfl]
        exact lp_Ft_ha0_4 l D cA ph ch cp sh sp ha lv h _ hp2
    · rw [show (if lv 3 = true then Value.ref 5 else Value.null) = Value.null from if_neg hl]
      refine mj_k rfl rfl ?_
      refine mj_blk h.1 b_Ft_heardAfter_14 rfl trivial ?_
      refine mj_ifnull_n h.1 d_Ft_heardAfter_18 (tgt := 36) (by decide) ?_
      refine mj_blk h.1 b_Ft_heardAfter_36 rfl trivial ?_
      refine mj_lpk [0, 2, 3, 4] rfl ?_
      have hp2 := hp
      unfold hAft hStep at hp2
      rw [if_neg (fun z => hl z.1)] at hp2
      rw [show (nI 3 + 1 : Int32) = nI 4 from rfl]
      exact lp_Ft_ha0_4 l D cA ph ch cp sh sp ha lv h _ hp2
set_option maxRecDepth 100000 in
set_option maxHeartbeats 4000000 in
theorem lp_Ft_ha0_2 {X : mj_X} {post : mj_R} (h : mj_E zG X l D cA m_Ft_heardAfter 2 80 0 0 (fun _ => True) post) (c : Int32) (hp : post (some (.int (hAft ha lv (ha 0) 2 2 c))) [(0, .inr (2, [.ref 1, .int ph])), (1, .inl (3, 4, .inr (.inr [some 2, some 3, some 4, some 5]))), (2, cFl 6 7 (ch 0) (cp 0) (sh 0) (sp 0) (ha 0) (lv 0)), (3, cFl 8 9 (ch 1) (cp 1) (sh 1) (sp 1) (ha 1) (lv 1)), (4, cFl 10 11 (ch 2) (cp 2) (sh 2) (sp 2) (ha 2) (lv 2)), (5, cFl 12 13 (ch 3) (cp 3) (sh 3) (sp 3) (ha 3) (lv 3))]) : mj_W zG X 0 0 4 [(3, .int (nI 2)), (2, .int c), (0, .ref 0), (1, .ref 2)] [] [(0, .inr (2, [.ref 1, .int ph])), (1, .inl (3, 4, .inr (.inr [some 2, some 3, some 4, some 5]))), (2, cFl 6 7 (ch 0) (cp 0) (sh 0) (sp 0) (ha 0) (lv 0)), (3, cFl 8 9 (ch 1) (cp 1) (sh 1) (sp 1) (ha 1) (lv 1)), (4, cFl 10 11 (ch 2) (cp 2) (sh 2) (sp 2) (ha 2) (lv 2)), (5, cFl 12 13 (ch 3) (cp 3) (sh 3) (sp 3) (ha 3) (lv 3))] := by
  refine mj_blk h.1 b_Ft_heardAfter_4 rfl trivial ?_
  refine mj_icge h.1 (tgt := 42) d_Ft_heardAfter_6 (by decide) (fun h1 => ?_) (fun h1 => ?_)
  · exact absurd h1 (by decide)
  · refine mj_blk h.1 b_Ft_heardAfter_9 rfl trivial ?_
    refine mj_callV h zGood (ev_Ft_at_2 l D cA _ _ _ _ _ _ _) v_Ft_at l_Ft_heardAfter_11 d_Ft_heardAfter_11 rfl ⟨by decide, by decide⟩ ⟨by decide, by decide⟩ [(0, 0), (1, 1), (2, 2), (3, 3), (4, 4), (5, 5), (6, 6), (7, 7), (8, 8), (9, 9), (10, 10), (11, 11), (12, 12), (13, 13)] rfl rfl rfl rfl rfl rfl (Nat.le_of_ble_eq_true rfl) ?_
    rintro _ _ ⟨rfl, rfl⟩
    by_cases hl : lv 2 = true
    · rw [show (if lv 2 = true then Value.ref 4 else Value.null) = Value.ref 4 from if_pos hl]
      refine mj_k rfl rfl ?_
      refine mj_blk h.1 b_Ft_heardAfter_14 rfl trivial ?_
      refine mj_ifnull_r h.1 d_Ft_heardAfter_18 ?_
      refine mj_blk h.1 b_Ft_heardAfter_21 rfl trivial ?_
      refine mj_icle h.1 (tgt := 36) d_Ft_heardAfter_30 (by decide) (fun h2 => ?_) (fun h2 => ?_)
      · refine mj_blk h.1 b_Ft_heardAfter_36 rfl trivial ?_
        refine mj_lpk [0, 2, 3, 4] rfl ?_
        have hp2 := hp
        unfold hAft hStep at hp2
        rw [if_neg (fun z => z.2 h2)] at hp2
        rw [show (nI 2 + 1 : Int32) = nI 3 from rfl]
        exact lp_Ft_ha0_3 l D cA ph ch cp sh sp ha lv h _ hp2
      · refine mj_blk h.1 b_Ft_heardAfter_33 rfl trivial ?_
        refine mj_blk h.1 b_Ft_heardAfter_36 rfl trivial ?_
        refine mj_lpk [0, 1, 3, 4] rfl ?_
        have hp2 := hp
        unfold hAft hStep at hp2
        rw [if_pos ⟨hl, h2⟩] at hp2
        rw [show (nI 2 + 1 : Int32) = nI 3 from rfl]
        exact lp_Ft_ha0_3 l D cA ph ch cp sh sp ha lv h _ hp2
    · rw [show (if lv 2 = true then Value.ref 4 else Value.null) = Value.null from if_neg hl]
      refine mj_k rfl rfl ?_
      refine mj_blk h.1 b_Ft_heardAfter_14 rfl trivial ?_
      refine mj_ifnull_n h.1 d_Ft_heardAfter_18 (tgt := 36) (by decide) ?_
      refine mj_blk h.1 b_Ft_heardAfter_36 rfl trivial ?_
      refine mj_lpk [0, 2, 3, 4] rfl ?_
      have hp2 := hp
      unfold hAft hStep at hp2
      rw [if_neg (fun z => hl z.1)] at hp2
      rw [show (nI 2 + 1 : Int32) = nI 3 from rfl]
      exact lp_Ft_ha0_3 l D cA ph ch cp sh sp ha lv h _ hp2
set_option maxRecDepth 100000 in
set_option maxHeartbeats 4000000 in
theorem lp_Ft_ha0_1 {X : mj_X} {post : mj_R} (h : mj_E zG X l D cA m_Ft_heardAfter 2 80 0 0 (fun _ => True) post) (c : Int32) (hp : post (some (.int (hAft ha lv (ha 0) 3 1 c))) [(0, .inr (2, [.ref 1, .int ph])), (1, .inl (3, 4, .inr (.inr [some 2, some 3, some 4, some 5]))), (2, cFl 6 7 (ch 0) (cp 0) (sh 0) (sp 0) (ha 0) (lv 0)), (3, cFl 8 9 (ch 1) (cp 1) (sh 1) (sp 1) (ha 1) (lv 1)), (4, cFl 10 11 (ch 2) (cp 2) (sh 2) (sp 2) (ha 2) (lv 2)), (5, cFl 12 13 (ch 3) (cp 3) (sh 3) (sp 3) (ha 3) (lv 3))]) : mj_W zG X 0 0 4 [(3, .int (nI 1)), (2, .int c), (0, .ref 0), (1, .ref 2)] [] [(0, .inr (2, [.ref 1, .int ph])), (1, .inl (3, 4, .inr (.inr [some 2, some 3, some 4, some 5]))), (2, cFl 6 7 (ch 0) (cp 0) (sh 0) (sp 0) (ha 0) (lv 0)), (3, cFl 8 9 (ch 1) (cp 1) (sh 1) (sp 1) (ha 1) (lv 1)), (4, cFl 10 11 (ch 2) (cp 2) (sh 2) (sp 2) (ha 2) (lv 2)), (5, cFl 12 13 (ch 3) (cp 3) (sh 3) (sp 3) (ha 3) (lv 3))] := by
  refine mj_blk h.1 b_Ft_heardAfter_4 rfl trivial ?_
  refine mj_icge h.1 (tgt := 42) d_Ft_heardAfter_6 (by decide) (fun h1 => ?_) (fun h1 => ?_)
  · exact absurd h1 (by decide)
  · refine mj_blk h.1 b_Ft_heardAfter_9 rfl trivial ?_
    refine mj_callV h zGood (ev_Ft_at_1 l D cA _ _ _ _ _ _ _) v_Ft_at l_Ft_heardAfter_11 d_Ft_heardAfter_11 rfl ⟨by decide, by decide⟩ ⟨by decide, by decide⟩ [(0, 0), (1, 1), (2, 2), (3, 3), (4, 4), (5, 5), (6, 6), (7, 7), (8, 8), (9, 9), (10, 10), (11, 11), (12, 12), (13, 13)] rfl rfl rfl rfl rfl rfl (Nat.le_of_ble_eq_true rfl) ?_
    rintro _ _ ⟨rfl, rfl⟩
    by_cases hl : lv 1 = true
    · rw [show (if lv 1 = true then Value.ref 3 else Value.null) = Value.ref 3 from if_pos hl]
      refine mj_k rfl rfl ?_
      refine mj_blk h.1 b_Ft_heardAfter_14 rfl trivial ?_
      refine mj_ifnull_r h.1 d_Ft_heardAfter_18 ?_
      refine mj_blk h.1 b_Ft_heardAfter_21 rfl trivial ?_
      refine mj_icle h.1 (tgt := 36) d_Ft_heardAfter_30 (by decide) (fun h2 => ?_) (fun h2 => ?_)
      · refine mj_blk h.1 b_Ft_heardAfter_36 rfl trivial ?_
        refine mj_lpk [0, 2, 3, 4] rfl ?_
        have hp2 := hp
        unfold hAft hStep at hp2
        rw [if_neg (fun z => z.2 h2)] at hp2
        rw [show (nI 1 + 1 : Int32) = nI 2 from rfl]
        exact lp_Ft_ha0_2 l D cA ph ch cp sh sp ha lv h _ hp2
      · refine mj_blk h.1 b_Ft_heardAfter_33 rfl trivial ?_
        refine mj_blk h.1 b_Ft_heardAfter_36 rfl trivial ?_
        refine mj_lpk [0, 1, 3, 4] rfl ?_
        have hp2 := hp
        unfold hAft hStep at hp2
        rw [if_pos ⟨hl, h2⟩] at hp2
        rw [show (nI 1 + 1 : Int32) = nI 2 from rfl]
        exact lp_Ft_ha0_2 l D cA ph ch cp sh sp ha lv h _ hp2
    · rw [show (if lv 1 = true then Value.ref 3 else Value.null) = Value.null from if_neg hl]
      refine mj_k rfl rfl ?_
      refine mj_blk h.1 b_Ft_heardAfter_14 rfl trivial ?_
      refine mj_ifnull_n h.1 d_Ft_heardAfter_18 (tgt := 36) (by decide) ?_
      refine mj_blk h.1 b_Ft_heardAfter_36 rfl trivial ?_
      refine mj_lpk [0, 2, 3, 4] rfl ?_
      have hp2 := hp
      unfold hAft hStep at hp2
      rw [if_neg (fun z => hl z.1)] at hp2
      rw [show (nI 1 + 1 : Int32) = nI 2 from rfl]
      exact lp_Ft_ha0_2 l D cA ph ch cp sh sp ha lv h _ hp2
set_option maxRecDepth 100000 in
set_option maxHeartbeats 4000000 in
theorem lp_Ft_ha0_0 {X : mj_X} {post : mj_R} (h : mj_E zG X l D cA m_Ft_heardAfter 2 80 0 0 (fun _ => True) post) (c : Int32) (hp : post (some (.int (hAft ha lv (ha 0) 4 0 c))) [(0, .inr (2, [.ref 1, .int ph])), (1, .inl (3, 4, .inr (.inr [some 2, some 3, some 4, some 5]))), (2, cFl 6 7 (ch 0) (cp 0) (sh 0) (sp 0) (ha 0) (lv 0)), (3, cFl 8 9 (ch 1) (cp 1) (sh 1) (sp 1) (ha 1) (lv 1)), (4, cFl 10 11 (ch 2) (cp 2) (sh 2) (sp 2) (ha 2) (lv 2)), (5, cFl 12 13 (ch 3) (cp 3) (sh 3) (sp 3) (ha 3) (lv 3))]) : mj_W zG X 0 0 4 [(3, .int (nI 0)), (2, .int c), (0, .ref 0), (1, .ref 2)] [] [(0, .inr (2, [.ref 1, .int ph])), (1, .inl (3, 4, .inr (.inr [some 2, some 3, some 4, some 5]))), (2, cFl 6 7 (ch 0) (cp 0) (sh 0) (sp 0) (ha 0) (lv 0)), (3, cFl 8 9 (ch 1) (cp 1) (sh 1) (sp 1) (ha 1) (lv 1)), (4, cFl 10 11 (ch 2) (cp 2) (sh 2) (sp 2) (ha 2) (lv 2)), (5, cFl 12 13 (ch 3) (cp 3) (sh 3) (sp 3) (ha 3) (lv 3))] := by
  refine mj_blk h.1 b_Ft_heardAfter_4 rfl trivial ?_
  refine mj_icge h.1 (tgt := 42) d_Ft_heardAfter_6 (by decide) (fun h1 => ?_) (fun h1 => ?_)
  · exact absurd h1 (by decide)
  · refine mj_blk h.1 b_Ft_heardAfter_9 rfl trivial ?_
    refine mj_callV h zGood (ev_Ft_at_0 l D cA _ _ _ _ _ _ _) v_Ft_at l_Ft_heardAfter_11 d_Ft_heardAfter_11 rfl ⟨by decide, by decide⟩ ⟨by decide, by decide⟩ [(0, 0), (1, 1), (2, 2), (3, 3), (4, 4), (5, 5), (6, 6), (7, 7), (8, 8), (9, 9), (10, 10), (11, 11), (12, 12), (13, 13)] rfl rfl rfl rfl rfl rfl (Nat.le_of_ble_eq_true rfl) ?_
    rintro _ _ ⟨rfl, rfl⟩
    by_cases hl : lv 0 = true
    · rw [show (if lv 0 = true then Value.ref 2 else Value.null) = Value.ref 2 from if_pos hl]
      refine mj_k rfl rfl ?_
      refine mj_blk h.1 b_Ft_heardAfter_14 rfl trivial ?_
      refine mj_ifnull_r h.1 d_Ft_heardAfter_18 ?_
      refine mj_blk h.1 b_Ft_heardAfter_21 rfl trivial ?_
      refine mj_icle h.1 (tgt := 36) d_Ft_heardAfter_30 (by decide) (fun h2 => ?_) (fun h2 => ?_)
      · refine mj_blk h.1 b_Ft_heardAfter_36 rfl trivial ?_
        refine mj_lpk [0, 2, 3, 4] rfl ?_
        have hp2 := hp
        unfold hAft hStep at hp2
        rw [if_neg (fun z => z.2 h2)] at hp2
        rw [show (nI 0 + 1 : Int32) = nI 1 from rfl]
        exact lp_Ft_ha0_1 l D cA ph ch cp sh sp ha lv h _ hp2
      · refine mj_blk h.1 b_Ft_heardAfter_33 rfl trivial ?_
        refine mj_blk h.1 b_Ft_heardAfter_36 rfl trivial ?_
        refine mj_lpk [0, 1, 3, 4] rfl ?_
        have hp2 := hp
        unfold hAft hStep at hp2
        rw [if_pos ⟨hl, h2⟩] at hp2
        rw [show (nI 0 + 1 : Int32) = nI 1 from rfl]
        exact lp_Ft_ha0_1 l D cA ph ch cp sh sp ha lv h _ hp2
    · rw [show (if lv 0 = true then Value.ref 2 else Value.null) = Value.null from if_neg hl]
      refine mj_k rfl rfl ?_
      refine mj_blk h.1 b_Ft_heardAfter_14 rfl trivial ?_
      refine mj_ifnull_n h.1 d_Ft_heardAfter_18 (tgt := 36) (by decide) ?_
      refine mj_blk h.1 b_Ft_heardAfter_36 rfl trivial ?_
      refine mj_lpk [0, 2, 3, 4] rfl ?_
      have hp2 := hp
      unfold hAft hStep at hp2
      rw [if_neg (fun z => hl z.1)] at hp2
      rw [show (nI 0 + 1 : Int32) = nI 1 from rfl]
      exact lp_Ft_ha0_1 l D cA ph ch cp sh sp ha lv h _ hp2
set_option maxRecDepth 100000 in
set_option maxHeartbeats 4000000 in
theorem ev_Ft_heardAfter_0 : E0_Ft_heardAfter l D cA [.ref 0, .ref 2] [(0, .inr (2, [.ref 1, .int ph])), (1, .inl (3, 4, .inr (.inr [some 2, some 3, some 4, some 5]))), (2, cFl 6 7 (ch 0) (cp 0) (sh 0) (sp 0) (ha 0) (lv 0)), (3, cFl 8 9 (ch 1) (cp 1) (sh 1) (sp 1) (ha 1) (lv 1)), (4, cFl 10 11 (ch 2) (cp 2) (sh 2) (sp 2) (ha 2) (lv 2)), (5, cFl 12 13 (ch 3) (cp 3) (sh 3) (sp 3) (ha 3) (lv 3))] (some (.int (hAft ha lv (ha 0) 4 0 0))) [(0, .inr (2, [.ref 1, .int ph])), (1, .inl (3, 4, .inr (.inr [some 2, some 3, some 4, some 5]))), (2, cFl 6 7 (ch 0) (cp 0) (sh 0) (sp 0) (ha 0) (lv 0)), (3, cFl 8 9 (ch 1) (cp 1) (sh 1) (sp 1) (ha 1) (lv 1)), (4, cFl 10 11 (ch 2) (cp 2) (sh 2) (sp 2) (ha 2) (lv 2)), (5, cFl 12 13 (ch 3) (cp 3) (sh 3) (sp 3) (ha 3) (lv 3))] := by
  refine mj_ev (lv := [(0, .ref 0), (1, .ref 2)]) (by decide +kernel) (Nat.le_of_ble_eq_true rfl) rfl (fun X h => ?_)
  refine mj_blk h.1 b_Ft_heardAfter_0 rfl trivial ?_
  exact lp_Ft_ha0_0 l D cA ph ch cp sh sp ha lv h 0 ⟨rfl, rfl⟩
set_option maxRecDepth 100000 in
set_option maxHeartbeats 4000000 in
theorem lp_Ft_ha1_4 {X : mj_X} {post : mj_R} (h : mj_E zG X l D cA m_Ft_heardAfter 2 80 0 0 (fun _ => True) post) (c : Int32) (hp : post (some (.int c)) [(0, .inr (2, [.ref 1, .int ph])), (1, .inl (3, 4, .inr (.inr [some 2, some 3, some 4, some 5]))), (2, cFl 6 7 (ch 0) (cp 0) (sh 0) (sp 0) (ha 0) (lv 0)), (3, cFl 8 9 (ch 1) (cp 1) (sh 1) (sp 1) (ha 1) (lv 1)), (4, cFl 10 11 (ch 2) (cp 2) (sh 2) (sp 2) (ha 2) (lv 2)), (5, cFl 12 13 (ch 3) (cp 3) (sh 3) (sp 3) (ha 3) (lv 3))]) : mj_W zG X 0 0 4 [(3, .int (nI 4)), (2, .int c), (0, .ref 0), (1, .ref 3)] [] [(0, .inr (2, [.ref 1, .int ph])), (1, .inl (3, 4, .inr (.inr [some 2, some 3, some 4, some 5]))), (2, cFl 6 7 (ch 0) (cp 0) (sh 0) (sp 0) (ha 0) (lv 0)), (3, cFl 8 9 (ch 1) (cp 1) (sh 1) (sp 1) (ha 1) (lv 1)), (4, cFl 10 11 (ch 2) (cp 2) (sh 2) (sp 2) (ha 2) (lv 2)), (5, cFl 12 13 (ch 3) (cp 3) (sh 3) (sp 3) (ha 3) (lv 3))] := by
  refine mj_blk h.1 b_Ft_heardAfter_4 rfl trivial ?_
  refine mj_icge h.1 (tgt := 42) d_Ft_heardAfter_6 (by decide) (fun h1 => ?_) (fun h1 => ?_)
  · refine mj_blk h.1 b_Ft_heardAfter_42 rfl trivial ?_
    exact mj_iret h rfl d_Ft_heardAfter_43 (by decide) (by decide) hp
  · exact absurd (by decide) h1
set_option maxRecDepth 100000 in
set_option maxHeartbeats 4000000 in
theorem lp_Ft_ha1_3 {X : mj_X} {post : mj_R} (h : mj_E zG X l D cA m_Ft_heardAfter 2 80 0 0 (fun _ => True) post) (c : Int32) (hp : post (some (.int (hAft ha lv (ha 1) 1 3 c))) [(0, .inr (2, [.ref 1, .int ph])), (1, .inl (3, 4, .inr (.inr [some 2, some 3, some 4, some 5]))), (2, cFl 6 7 (ch 0) (cp 0) (sh 0) (sp 0) (ha 0) (lv 0)), (3, cFl 8 9 (ch 1) (cp 1) (sh 1) (sp 1) (ha 1) (lv 1)), (4, cFl 10 11 (ch 2) (cp 2) (sh 2) (sp 2) (ha 2) (lv 2)), (5, cFl 12 13 (ch 3) (cp 3) (sh 3) (sp 3) (ha 3) (lv 3))]) : mj_W zG X 0 0 4 [(3, .int (nI 3)), (2, .int c), (0, .ref 0), (1, .ref 3)] [] [(0, .inr (2, [.ref 1, .int ph])), (1, .inl (3, 4, .inr (.inr [some 2, some 3, some 4, some 5]))), (2, cFl 6 7 (ch 0) (cp 0) (sh 0) (sp 0) (ha 0) (lv 0)), (3, cFl 8 9 (ch 1) (cp 1) (sh 1) (sp 1) (ha 1) (lv 1)), (4, cFl 10 11 (ch 2) (cp 2) (sh 2) (sp 2) (ha 2) (lv 2)), (5, cFl 12 13 (ch 3) (cp 3) (sh 3) (sp 3) (ha 3) (lv 3))] := by
  refine mj_blk h.1 b_Ft_heardAfter_4 rfl trivial ?_
  refine mj_icge h.1 (tgt := 42) d_Ft_heardAfter_6 (by decide) (fun h1 => ?_) (fun h1 => ?_)
  · exact absurd h1 (by decide)
  · refine mj_blk h.1 b_Ft_heardAfter_9 rfl trivial ?_
    refine mj_callV h zGood (ev_Ft_at_3 l D cA _ _ _ _ _ _ _) v_Ft_at l_Ft_heardAfter_11 d_Ft_heardAfter_11 rfl ⟨by decide, by decide⟩ ⟨by decide, by decide⟩ [(0, 0), (1, 1), (2, 2), (3, 3), (4, 4), (5, 5), (6, 6), (7, 7), (8, 8), (9, 9), (10, 10), (11, 11), (12, 12), (13, 13)] rfl rfl rfl rfl rfl rfl (Nat.le_of_ble_eq_true rfl) ?_
    rintro _ _ ⟨rfl, rfl⟩
    by_cases hl : lv 3 = true
    · rw [show (if lv 3 = true then Value.ref 5 else Value.null) = Value.ref 5 from if_pos hl]
      refine mj_k rfl rfl ?_
      refine mj_blk h.1 b_Ft_heardAfter_14 rfl trivial ?_
      refine mj_ifnull_r h.1 d_Ft_heardAfter_18 ?_
      refine mj_blk h.1 b_Ft_heardAfter_21 rfl trivial ?_
      refine mj_icle h.1 (tgt := 36) d_Ft_heardAfter_30 (by decide) (fun h2 => ?_) (fun h2 => ?_)
      · refine mj_blk h.1 b_Ft_heardAfter_36 rfl trivial ?_
        refine mj_lpk [0, 2, 3, 4] rfl ?_
        have hp2 := hp
        unfold hAft hStep at hp2
        rw [if_neg (fun z => z.2 h2)] at hp2
        rw [show (nI 3 + 1 : Int32) = nI 4 from rfl]
        exact lp_Ft_ha1_4 l D cA ph ch cp sh sp ha lv h _ hp2
      · refine mj_blk h.1 b_Ft_heardAfter_33 rfl trivial ?_
        refine mj_blk h.1 b_Ft_heardAfter_36 rfl trivial ?_
        refine mj_lpk [0, 1, 3, 4] rfl ?_
        have hp2 := hp
        unfold hAft hStep at hp2
        rw [if_pos ⟨hl, h2⟩] at hp2
        rw [show (nI 3 + 1 : Int32) = nI 4 from rfl]
        exact lp_Ft_ha1_4 l D cA ph ch cp sh sp ha lv h _ hp2
    · rw [show (if lv 3 = true then Value.ref 5 else Value.null) = Value.null from if_neg hl]
      refine mj_k rfl rfl ?_
      refine mj_blk h.1 b_Ft_heardAfter_14 rfl trivial ?_
      refine mj_ifnull_n h.1 d_Ft_heardAfter_18 (tgt := 36) (by decide) ?_
      refine mj_blk h.1 b_Ft_heardAfter_36 rfl trivial ?_
      refine mj_lpk [0, 2, 3, 4] rfl ?_
      have hp2 := hp
      unfold hAft hStep at hp2
      rw [if_neg (fun z => hl z.1)] at hp2
      rw [show (nI 3 + 1 : Int32) = nI 4 from rfl]
      exact lp_Ft_ha1_4 l D cA ph ch cp sh sp ha lv h _ hp2
set_option maxRecDepth 100000 in
set_option maxHeartbeats 4000000 in
theorem lp_Ft_ha1_2 {X : mj_X} {post : mj_R} (h : mj_E zG X l D cA m_Ft_heardAfter 2 80 0 0 (fun _ => True) post) (c : Int32) (hp : post (some (.int (hAft ha lv (ha 1) 2 2 c))) [(0, .inr (2, [.ref 1, .int ph])), (1, .inl (3, 4, .inr (.inr [some 2, some 3, some 4, some 5]))), (2, cFl 6 7 (ch 0) (cp 0) (sh 0) (sp 0) (ha 0) (lv 0)), (3, cFl 8 9 (ch 1) (cp 1) (sh 1) (sp 1) (ha 1) (lv 1)), (4, cFl 10 11 (ch 2) (cp 2) (sh 2) (sp 2) (ha 2) (lv 2)), (5, cFl 12 13 (ch 3) (cp 3) (sh 3) (sp 3) (ha 3) (lv 3))]) : mj_W zG X 0 0 4 [(3, .int (nI 2)), (2, .int c), (0, .ref 0), (1, .ref 3)] [] [(0, .inr (2, [.ref 1, .int ph])), (1, .inl (3, 4, .inr (.inr [some 2, some 3, some 4, some 5]))), (2, cFl 6 7 (ch 0) (cp 0) (sh 0) (sp 0) (ha 0) (lv 0)), (3, cFl 8 9 (ch 1) (cp 1) (sh 1) (sp 1) (ha 1) (lv 1)), (4, cFl 10 11 (ch 2) (cp 2) (sh 2) (sp 2) (ha 2) (lv 2)), (5, cFl 12 13 (ch 3) (cp 3) (sh 3) (sp 3) (ha 3) (lv 3))] := by
  refine mj_blk h.1 b_Ft_heardAfter_4 rfl trivial ?_
  refine mj_icge h.1 (tgt := 42) d_Ft_heardAfter_6 (by decide) (fun h1 => ?_) (fun h1 => ?_)
  · exact absurd h1 (by decide)
  · refine mj_blk h.1 b_Ft_heardAfter_9 rfl trivial ?_
    refine mj_callV h zGood (ev_Ft_at_2 l D cA _ _ _ _ _ _ _) v_Ft_at l_Ft_heardAfter_11 d_Ft_heardAfter_11 rfl ⟨by decide, by decide⟩ ⟨by decide, by decide⟩ [(0, 0), (1, 1), (2, 2), (3, 3), (4, 4), (5, 5), (6, 6), (7, 7), (8, 8), (9, 9), (10, 10), (11, 11), (12, 12), (13, 13)] rfl rfl rfl rfl rfl rfl (Nat.le_of_ble_eq_true rfl) ?_
    rintro _ _ ⟨rfl, rfl⟩
    by_cases hl : lv 2 = true
    · rw [show (if lv 2 = true then Value.ref 4 else Value.null) = Value.ref 4 from if_pos hl]
      refine mj_k rfl rfl ?_
      refine mj_blk h.1 b_Ft_heardAfter_14 rfl trivial ?_
      refine mj_ifnull_r h.1 d_Ft_heardAfter_18 ?_
      refine mj_blk h.1 b_Ft_heardAfter_21 rfl trivial ?_
      refine mj_icle h.1 (tgt := 36) d_Ft_heardAfter_30 (by decide) (fun h2 => ?_) (fun h2 => ?_)
      · refine mj_blk h.1 b_Ft_heardAfter_36 rfl trivial ?_
        refine mj_lpk [0, 2, 3, 4] rfl ?_
        have hp2 := hp
        unfold hAft hStep at hp2
        rw [if_neg (fun z => z.2 h2)] at hp2
        rw [show (nI 2 + 1 : Int32) = nI 3 from rfl]
        exact lp_Ft_ha1_3 l D cA ph ch cp sh sp ha lv h _ hp2
      · refine mj_blk h.1 b_Ft_heardAfter_33 rfl trivial ?_
        refine mj_blk h.1 b_Ft_heardAfter_36 rfl trivial ?_
        refine mj_lpk [0, 1, 3, 4] rfl ?_
        have hp2 := hp
        unfold hAft hStep at hp2
        rw [if_pos ⟨hl, h2⟩] at hp2
        rw [show (nI 2 + 1 : Int32) = nI 3 from rfl]
        exact lp_Ft_ha1_3 l D cA ph ch cp sh sp ha lv h _ hp2
    · rw [show (if lv 2 = true then Value.ref 4 else Value.null) = Value.null from if_neg hl]
      refine mj_k rfl rfl ?_
      refine mj_blk h.1 b_Ft_heardAfter_14 rfl trivial ?_
      refine mj_ifnull_n h.1 d_Ft_heardAfter_18 (tgt := 36) (by decide) ?_
      refine mj_blk h.1 b_Ft_heardAfter_36 rfl trivial ?_
      refine mj_lpk [0, 2, 3, 4] rfl ?_
      have hp2 := hp
      unfold hAft hStep at hp2
      rw [if_neg (fun z => hl z.1)] at hp2
      rw [show (nI 2 + 1 : Int32) = nI 3 from rfl]
      exact lp_Ft_ha1_3 l D cA ph ch cp sh sp ha lv h _ hp2
set_option maxRecDepth 100000 in
set_option maxHeartbeats 4000000 in
theorem lp_Ft_ha1_1 {X : mj_X} {post : mj_R} (h : mj_E zG X l D cA m_Ft_heardAfter 2 80 0 0 (fun _ => True) post) (c : Int32) (hp : post (some (.int (hAft ha lv (ha 1) 3 1 c))) [(0, .inr (2, [.ref 1, .int ph])), (1, .inl (3, 4, .inr (.inr [some 2, some 3, some 4, some 5]))), (2, cFl 6 7 (ch 0) (cp 0) (sh 0) (sp 0) (ha 0) (lv 0)), (3, cFl 8 9 (ch 1) (cp 1) (sh 1) (sp 1) (ha 1) (lv 1)), (4, cFl 10 11 (ch 2) (cp 2) (sh 2) (sp 2) (ha 2) (lv 2)), (5, cFl 12 13 (ch 3) (cp 3) (sh 3) (sp 3) (ha 3) (lv 3))]) : mj_W zG X 0 0 4 [(3, .int (nI 1)), (2, .int c), (0, .ref 0), (1, .ref 3)] [] [(0, .inr (2, [.ref 1, .int ph])), (1, .inl (3, 4, .inr (.inr [some 2, some 3, some 4, some 5]))), (2, cFl 6 7 (ch 0) (cp 0) (sh 0) (sp 0) (ha 0) (lv 0)), (3, cFl 8 9 (ch 1) (cp 1) (sh 1) (sp 1) (ha 1) (lv 1)), (4, cFl 10 11 (ch 2) (cp 2) (sh 2) (sp 2) (ha 2) (lv 2)), (5, cFl 12 13 (ch 3) (cp 3) (sh 3) (sp 3) (ha 3) (lv 3))] := by
  refine mj_blk h.1 b_Ft_heardAfter_4 rfl trivial ?_
  refine mj_icge h.1 (tgt := 42) d_Ft_heardAfter_6 (by decide) (fun h1 => ?_) (fun h1 => ?_)
  · exact absurd h1 (by decide)
  · refine mj_blk h.1 b_Ft_heardAfter_9 rfl trivial ?_
    refine mj_callV h zGood (ev_Ft_at_1 l D cA _ _ _ _ _ _ _) v_Ft_at l_Ft_heardAfter_11 d_Ft_heardAfter_11 rfl ⟨by decide, by decide⟩ ⟨by decide, by decide⟩ [(0, 0), (1, 1), (2, 2), (3, 3), (4, 4), (5, 5), (6, 6), (7, 7), (8, 8), (9, 9), (10, 10), (11, 11), (12, 12), (13, 13)] rfl rfl rfl rfl rfl rfl (Nat.le_of_ble_eq_true rfl) ?_
    rintro _ _ ⟨rfl, rfl⟩
    by_cases hl : lv 1 = true
    · rw [show (if lv 1 = true then Value.ref 3 else Value.null) = Value.ref 3 from if_pos hl]
      refine mj_k rfl rfl ?_
      refine mj_blk h.1 b_Ft_heardAfter_14 rfl trivial ?_
      refine mj_ifnull_r h.1 d_Ft_heardAfter_18 ?_
      refine mj_blk h.1 b_Ft_heardAfter_21 rfl trivial ?_
      refine mj_icle h.1 (tgt := 36) d_Ft_heardAfter_30 (by decide) (fun h2 => ?_) (fun h2 => ?_)
      · refine mj_blk h.1 b_Ft_heardAfter_36 rfl trivial ?_
        refine mj_lpk [0, 2, 3, 4] rfl ?_
        have hp2 := hp
        unfold hAft hStep at hp2
        rw [if_neg (fun z => z.2 h2)] at hp2
        rw [show (nI 1 + 1 : Int32) = nI 2 from rfl]
        exact lp_Ft_ha1_2 l D cA ph ch cp sh sp ha lv h _ hp2
      · refine mj_blk h.1 b_Ft_heardAfter_33 rfl trivial ?_
        refine mj_blk h.1 b_Ft_heardAfter_36 rfl trivial ?_
        refine mj_lpk [0, 1, 3, 4] rfl ?_
        have hp2 := hp
        unfold hAft hStep at hp2
        rw [if_pos ⟨hl, h2⟩] at hp2
        rw [show (nI 1 + 1 : Int32) = nI 2 from rfl]
        exact lp_Ft_ha1_2 l D cA ph ch cp sh sp ha lv h _ hp2
    · rw [show (if lv 1 = true then Value.ref 3 else Value.null) = Value.null from if_neg hl]
      refine mj_k rfl rfl ?_
      refine mj_blk h.1 b_Ft_heardAfter_14 rfl trivial ?_
      refine mj_ifnull_n h.1 d_Ft_heardAfter_18 (tgt := 36) (by decide) ?_
      refine mj_blk h.1 b_Ft_heardAfter_36 rfl trivial ?_
      refine mj_lpk [0, 2, 3, 4] rfl ?_
      have hp2 := hp
      unfold hAft hStep at hp2
      rw [if_neg (fun z => hl z.1)] at hp2
      rw [show (nI 1 + 1 : Int32) = nI 2 from rfl]
      exact lp_Ft_ha1_2 l D cA ph ch cp sh sp ha lv h _ hp2
set_option maxRecDepth 100000 in
set_option maxHeartbeats 4000000 in
theorem lp_Ft_ha1_0 {X : mj_X} {post : mj_R} (h : mj_E zG X l D cA m_Ft_heardAfter 2 80 0 0 (fun _ => True) post) (c : Int32) (hp : post (some (.int (hAft ha lv (ha 1) 4 0 c))) [(0, .inr (2, [.ref 1, .int ph])), (1, .inl (3, 4, .inr (.inr [some 2, some 3, some 4, some 5]))), (2, cFl 6 7 (ch 0) (cp 0) (sh 0) (sp 0) (ha 0) (lv 0)), (3, cFl 8 9 (ch 1) (cp 1) (sh 1) (sp 1) (ha 1) (lv 1)), (4, cFl 10 11 (ch 2) (cp 2) (sh 2) (sp 2) (ha 2) (lv 2)), (5, cFl 12 13 (ch 3) (cp 3) (sh 3) (sp 3) (ha 3) (lv 3))]) : mj_W zG X 0 0 4 [(3, .int (nI 0)), (2, .int c), (0, .ref 0), (1, .ref 3)] [] [(0, .inr (2, [.ref 1, .int ph])), (1, .inl (3, 4, .inr (.inr [some 2, some 3, some 4, some 5]))), (2, cFl 6 7 (ch 0) (cp 0) (sh 0) (sp 0) (ha 0) (lv 0)), (3, cFl 8 9 (ch 1) (cp 1) (sh 1) (sp 1) (ha 1) (lv 1)), (4, cFl 10 11 (ch 2) (cp 2) (sh 2) (sp 2) (ha 2) (lv 2)), (5, cFl 12 13 (ch 3) (cp 3) (sh 3) (sp 3) (ha 3) (lv 3))] := by
  refine mj_blk h.1 b_Ft_heardAfter_4 rfl trivial ?_
  refine mj_icge h.1 (tgt := 42) d_Ft_heardAfter_6 (by decide) (fun h1 => ?_) (fun h1 => ?_)
  · exact absurd h1 (by decide)
  · refine mj_blk h.1 b_Ft_heardAfter_9 rfl trivial ?_
    refine mj_callV h zGood (ev_Ft_at_0 l D cA _ _ _ _ _ _ _) v_Ft_at l_Ft_heardAfter_11 d_Ft_heardAfter_11 rfl ⟨by decide, by decide⟩ ⟨by decide, by decide⟩ [(0, 0), (1, 1), (2, 2), (3, 3), (4, 4), (5, 5), (6, 6), (7, 7), (8, 8), (9, 9), (10, 10), (11, 11), (12, 12), (13, 13)] rfl rfl rfl rfl rfl rfl (Nat.le_of_ble_eq_true rfl) ?_
    rintro _ _ ⟨rfl, rfl⟩
    by_cases hl : lv 0 = true
    · rw [show (if lv 0 = true then Value.ref 2 else Value.null) = Value.ref 2 from if_pos hl]
      refine mj_k rfl rfl ?_
      refine mj_blk h.1 b_Ft_heardAfter_14 rfl trivial ?_
      refine mj_ifnull_r h.1 d_Ft_heardAfter_18 ?_
      refine mj_blk h.1 b_Ft_heardAfter_21 rfl trivial ?_
      refine mj_icle h.1 (tgt := 36) d_Ft_heardAfter_30 (by decide) (fun h2 => ?_) (fun h2 => ?_)
      · refine mj_blk h.1 b_Ft_heardAfter_36 rfl trivial ?_
        refine mj_lpk [0, 2, 3, 4] rfl ?_
        have hp2 := hp
        unfold hAft hStep at hp2
        rw [if_neg (fun z => z.2 h2)] at hp2
        rw [show (nI 0 + 1 : Int32) = nI 1 from rfl]
        exact lp_Ft_ha1_1 l D cA ph ch cp sh sp ha lv h _ hp2
      · refine mj_blk h.1 b_Ft_heardAfter_33 rfl trivial ?_
        refine mj_blk h.1 b_Ft_heardAfter_36 rfl trivial ?_
        refine mj_lpk [0, 1, 3, 4] rfl ?_
        have hp2 := hp
        unfold hAft hStep at hp2
        rw [if_pos ⟨hl, h2⟩] at hp2
        rw [show (nI 0 + 1 : Int32) = nI 1 from rfl]
        exact lp_Ft_ha1_1 l D cA ph ch cp sh sp ha lv h _ hp2
    · rw [show (if lv 0 = true then Value.ref 2 else Value.null) = Value.null from if_neg hl]
      refine mj_k rfl rfl ?_
      refine mj_blk h.1 b_Ft_heardAfter_14 rfl trivial ?_
      refine mj_ifnull_n h.1 d_Ft_heardAfter_18 (tgt := 36) (by decide) ?_
      refine mj_blk h.1 b_Ft_heardAfter_36 rfl trivial ?_
      refine mj_lpk [0, 2, 3, 4] rfl ?_
      have hp2 := hp
      unfold hAft hStep at hp2
      rw [if_neg (fun z => hl z.1)] at hp2
      rw [show (nI 0 + 1 : Int32) = nI 1 from rfl]
      exact lp_Ft_ha1_1 l D cA ph ch cp sh sp ha lv h _ hp2
set_option maxRecDepth 100000 in
set_option maxHeartbeats 4000000 in
theorem ev_Ft_heardAfter_1 : E0_Ft_heardAfter l D cA [.ref 0, .ref 3] [(0, .inr (2, [.ref 1, .int ph])), (1, .inl (3, 4, .inr (.inr [some 2, some 3, some 4, some 5]))), (2, cFl 6 7 (ch 0) (cp 0) (sh 0) (sp 0) (ha 0) (lv 0)), (3, cFl 8 9 (ch 1) (cp 1) (sh 1) (sp 1) (ha 1) (lv 1)), (4, cFl 10 11 (ch 2) (cp 2) (sh 2) (sp 2) (ha 2) (lv 2)), (5, cFl 12 13 (ch 3) (cp 3) (sh 3) (sp 3) (ha 3) (lv 3))] (some (.int (hAft ha lv (ha 1) 4 0 0))) [(0, .inr (2, [.ref 1, .int ph])), (1, .inl (3, 4, .inr (.inr [some 2, some 3, some 4, some 5]))), (2, cFl 6 7 (ch 0) (cp 0) (sh 0) (sp 0) (ha 0) (lv 0)), (3, cFl 8 9 (ch 1) (cp 1) (sh 1) (sp 1) (ha 1) (lv 1)), (4, cFl 10 11 (ch 2) (cp 2) (sh 2) (sp 2) (ha 2) (lv 2)), (5, cFl 12 13 (ch 3) (cp 3) (sh 3) (sp 3) (ha 3) (lv 3))] := by
  refine mj_ev (lv := [(0, .ref 0), (1, .ref 3)]) (by decide +kernel) (Nat.le_of_ble_eq_true rfl) rfl (fun X h => ?_)
  refine mj_blk h.1 b_Ft_heardAfter_0 rfl trivial ?_
  exact lp_Ft_ha1_0 l D cA ph ch cp sh sp ha lv h 0 ⟨rfl, rfl⟩
set_option maxRecDepth 100000 in
set_option maxHeartbeats 4000000 in
theorem lp_Ft_ha2_4 {X : mj_X} {post : mj_R} (h : mj_E zG X l D cA m_Ft_heardAfter 2 80 0 0 (fun _ => True) post) (c : Int32) (hp : post (some (.int c)) [(0, .inr (2, [.ref 1, .int ph])), (1, .inl (3, 4, .inr (.inr [some 2, some 3, some 4, some 5]))), (2, cFl 6 7 (ch 0) (cp 0) (sh 0) (sp 0) (ha 0) (lv 0)), (3, cFl 8 9 (ch 1) (cp 1) (sh 1) (sp 1) (ha 1) (lv 1)), (4, cFl 10 11 (ch 2) (cp 2) (sh 2) (sp 2) (ha 2) (lv 2)), (5, cFl 12 13 (ch 3) (cp 3) (sh 3) (sp 3) (ha 3) (lv 3))]) : mj_W zG X 0 0 4 [(3, .int (nI 4)), (2, .int c), (0, .ref 0), (1, .ref 4)] [] [(0, .inr (2, [.ref 1, .int ph])), (1, .inl (3, 4, .inr (.inr [some 2, some 3, some 4, some 5]))), (2, cFl 6 7 (ch 0) (cp 0) (sh 0) (sp 0) (ha 0) (lv 0)), (3, cFl 8 9 (ch 1) (cp 1) (sh 1) (sp 1) (ha 1) (lv 1)), (4, cFl 10 11 (ch 2) (cp 2) (sh 2) (sp 2) (ha 2) (lv 2)), (5, cFl 12 13 (ch 3) (cp 3) (sh 3) (sp 3) (ha 3) (lv 3))] := by
  refine mj_blk h.1 b_Ft_heardAfter_4 rfl trivial ?_
  refine mj_icge h.1 (tgt := 42) d_Ft_heardAfter_6 (by decide) (fun h1 => ?_) (fun h1 => ?_)
  · refine mj_blk h.1 b_Ft_heardAfter_42 rfl trivial ?_
    exact mj_iret h rfl d_Ft_heardAfter_43 (by decide) (by decide) hp
  · exact absurd (by decide) h1
set_option maxRecDepth 100000 in
set_option maxHeartbeats 4000000 in
theorem lp_Ft_ha2_3 {X : mj_X} {post : mj_R} (h : mj_E zG X l D cA m_Ft_heardAfter 2 80 0 0 (fun _ => True) post) (c : Int32) (hp : post (some (.int (hAft ha lv (ha 2) 1 3 c))) [(0, .inr (2, [.ref 1, .int ph])), (1, .inl (3, 4, .inr (.inr [some 2, some 3, some 4, some 5]))), (2, cFl 6 7 (ch 0) (cp 0) (sh 0) (sp 0) (ha 0) (lv 0)), (3, cFl 8 9 (ch 1) (cp 1) (sh 1) (sp 1) (ha 1) (lv 1)), (4, cFl 10 11 (ch 2) (cp 2) (sh 2) (sp 2) (ha 2) (lv 2)), (5, cFl 12 13 (ch 3) (cp 3) (sh 3) (sp 3) (ha 3) (lv 3))]) : mj_W zG X 0 0 4 [(3, .int (nI 3)), (2, .int c), (0, .ref 0), (1, .ref 4)] [] [(0, .inr (2, [.ref 1, .int ph])), (1, .inl (3, 4, .inr (.inr [some 2, some 3, some 4, some 5]))), (2, cFl 6 7 (ch 0) (cp 0) (sh 0) (sp 0) (ha 0) (lv 0)), (3, cFl 8 9 (ch 1) (cp 1) (sh 1) (sp 1) (ha 1) (lv 1)), (4, cFl 10 11 (ch 2) (cp 2) (sh 2) (sp 2) (ha 2) (lv 2)), (5, cFl 12 13 (ch 3) (cp 3) (sh 3) (sp 3) (ha 3) (lv 3))] := by
  refine mj_blk h.1 b_Ft_heardAfter_4 rfl trivial ?_
  refine mj_icge h.1 (tgt := 42) d_Ft_heardAfter_6 (by decide) (fun h1 => ?_) (fun h1 => ?_)
  · exact absurd h1 (by decide)
  · refine mj_blk h.1 b_Ft_heardAfter_9 rfl trivial ?_
    refine mj_callV h zGood (ev_Ft_at_3 l D cA _ _ _ _ _ _ _) v_Ft_at l_Ft_heardAfter_11 d_Ft_heardAfter_11 rfl ⟨by decide, by decide⟩ ⟨by decide, by decide⟩ [(0, 0), (1, 1), (2, 2), (3, 3), (4, 4), (5, 5), (6, 6), (7, 7), (8, 8), (9, 9), (10, 10), (11, 11), (12, 12), (13, 13)] rfl rfl rfl rfl rfl rfl (Nat.le_of_ble_eq_true rfl) ?_
    rintro _ _ ⟨rfl, rfl⟩
    by_cases hl : lv 3 = true
    · rw [show (if lv 3 = true then Value.ref 5 else Value.null) = Value.ref 5 from if_pos hl]
      refine mj_k rfl rfl ?_
      refine mj_blk h.1 b_Ft_heardAfter_14 rfl trivial ?_
      refine mj_ifnull_r h.1 d_Ft_heardAfter_18 ?_
      refine mj_blk h.1 b_Ft_heardAfter_21 rfl trivial ?_
      refine mj_icle h.1 (tgt := 36) d_Ft_heardAfter_30 (by decide) (fun h2 => ?_) (fun h2 => ?_)
      · refine mj_blk h.1 b_Ft_heardAfter_36 rfl trivial ?_
        refine mj_lpk [0, 2, 3, 4] rfl ?_
        have hp2 := hp
        unfold hAft hStep at hp2
        rw [if_neg (fun z => z.2 h2)] at hp2
        rw [show (nI 3 + 1 : Int32) = nI 4 from rfl]
        exact lp_Ft_ha2_4 l D cA ph ch cp sh sp ha lv h _ hp2
      · refine mj_blk h.1 b_Ft_heardAfter_33 rfl trivial ?_
        refine mj_blk h.1 b_Ft_heardAfter_36 rfl trivial ?_
        refine mj_lpk [0, 1, 3, 4] rfl ?_
        have hp2 := hp
        unfold hAft hStep at hp2
        rw [if_pos ⟨hl, h2⟩] at hp2
        rw [show (nI 3 + 1 : Int32) = nI 4 from rfl]
        exact lp_Ft_ha2_4 l D cA ph ch cp sh sp ha lv h _ hp2
    · rw [show (if lv 3 = true then Value.ref 5 else Value.null) = Value.null from if_neg hl]
      refine mj_k rfl rfl ?_
      refine mj_blk h.1 b_Ft_heardAfter_14 rfl trivial ?_
      refine mj_ifnull_n h.1 d_Ft_heardAfter_18 (tgt := 36) (by decide) ?_
      refine mj_blk h.1 b_Ft_heardAfter_36 rfl trivial ?_
      refine mj_lpk [0, 2, 3, 4] rfl ?_
      have hp2 := hp
      unfold hAft hStep at hp2
      rw [if_neg (fun z => hl z.1)] at hp2
      rw [show (nI 3 + 1 : Int32) = nI 4 from rfl]
      exact lp_Ft_ha2_4 l D cA ph ch cp sh sp ha lv h _ hp2
set_option maxRecDepth 100000 in
set_option maxHeartbeats 4000000 in
theorem lp_Ft_ha2_2 {X : mj_X} {post : mj_R} (h : mj_E zG X l D cA m_Ft_heardAfter 2 80 0 0 (fun _ => True) post) (c : Int32) (hp : post (some (.int (hAft ha lv (ha 2) 2 2 c))) [(0, .inr (2, [.ref 1, .int ph])), (1, .inl (3, 4, .inr (.inr [some 2, some 3, some 4, some 5]))), (2, cFl 6 7 (ch 0) (cp 0) (sh 0) (sp 0) (ha 0) (lv 0)), (3, cFl 8 9 (ch 1) (cp 1) (sh 1) (sp 1) (ha 1) (lv 1)), (4, cFl 10 11 (ch 2) (cp 2) (sh 2) (sp 2) (ha 2) (lv 2)), (5, cFl 12 13 (ch 3) (cp 3) (sh 3) (sp 3) (ha 3) (lv 3))]) : mj_W zG X 0 0 4 [(3, .int (nI 2)), (2, .int c), (0, .ref 0), (1, .ref 4)] [] [(0, .inr (2, [.ref 1, .int ph])), (1, .inl (3, 4, .inr (.inr [some 2, some 3, some 4, some 5]))), (2, cFl 6 7 (ch 0) (cp 0) (sh 0) (sp 0) (ha 0) (lv 0)), (3, cFl 8 9 (ch 1) (cp 1) (sh 1) (sp 1) (ha 1) (lv 1)), (4, cFl 10 11 (ch 2) (cp 2) (sh 2) (sp 2) (ha 2) (lv 2)), (5, cFl 12 13 (ch 3) (cp 3) (sh 3) (sp 3) (ha 3) (lv 3))] := by
  refine mj_blk h.1 b_Ft_heardAfter_4 rfl trivial ?_
  refine mj_icge h.1 (tgt := 42) d_Ft_heardAfter_6 (by decide) (fun h1 => ?_) (fun h1 => ?_)
  · exact absurd h1 (by decide)
  · refine mj_blk h.1 b_Ft_heardAfter_9 rfl trivial ?_
    refine mj_callV h zGood (ev_Ft_at_2 l D cA _ _ _ _ _ _ _) v_Ft_at l_Ft_heardAfter_11 d_Ft_heardAfter_11 rfl ⟨by decide, by decide⟩ ⟨by decide, by decide⟩ [(0, 0), (1, 1), (2, 2), (3, 3), (4, 4), (5, 5), (6, 6), (7, 7), (8, 8), (9, 9), (10, 10), (11, 11), (12, 12), (13, 13)] rfl rfl rfl rfl rfl rfl (Nat.le_of_ble_eq_true rfl) ?_
    rintro _ _ ⟨rfl, rfl⟩
    by_cases hl : lv 2 = true
    · rw [show (if lv 2 = true then Value.ref 4 else Value.null) = Value.ref 4 from if_pos hl]
      refine mj_k rfl rfl ?_
      refine mj_blk h.1 b_Ft_heardAfter_14 rfl trivial ?_
      refine mj_ifnull_r h.1 d_Ft_heardAfter_18 ?_
      refine mj_blk h.1 b_Ft_heardAfter_21 rfl trivial ?_
      refine mj_icle h.1 (tgt := 36) d_Ft_heardAfter_30 (by decide) (fun h2 => ?_) (fun h2 => ?_)
      · refine mj_blk h.1 b_Ft_heardAfter_36 rfl trivial ?_
        refine mj_lpk [0, 2, 3, 4] rfl ?_
        have hp2 := hp
        unfold hAft hStep at hp2
        rw [if_neg (fun z => z.2 h2)] at hp2
        rw [show (nI 2 + 1 : Int32) = nI 3 from rfl]
        exact lp_Ft_ha2_3 l D cA ph ch cp sh sp ha lv h _ hp2
      · refine mj_blk h.1 b_Ft_heardAfter_33 rfl trivial ?_
        refine mj_blk h.1 b_Ft_heardAfter_36 rfl trivial ?_
        refine mj_lpk [0, 1, 3, 4] rfl ?_
        have hp2 := hp
        unfold hAft hStep at hp2
        rw [if_pos ⟨hl, h2⟩] at hp2
        rw [show (nI 2 + 1 : Int32) = nI 3 from rfl]
        exact lp_Ft_ha2_3 l D cA ph ch cp sh sp ha lv h _ hp2
    · rw [show (if lv 2 = true then Value.ref 4 else Value.null) = Value.null from if_neg hl]
      refine mj_k rfl rfl ?_
      refine mj_blk h.1 b_Ft_heardAfter_14 rfl trivial ?_
      refine mj_ifnull_n h.1 d_Ft_heardAfter_18 (tgt := 36) (by decide) ?_
      refine mj_blk h.1 b_Ft_heardAfter_36 rfl trivial ?_
      refine mj_lpk [0, 2, 3, 4] rfl ?_
      have hp2 := hp
      unfold hAft hStep at hp2
      rw [if_neg (fun z => hl z.1)] at hp2
      rw [show (nI 2 + 1 : Int32) = nI 3 from rfl]
      exact lp_Ft_ha2_3 l D cA ph ch cp sh sp ha lv h _ hp2
set_option maxRecDepth 100000 in
set_option maxHeartbeats 4000000 in
theorem lp_Ft_ha2_1 {X : mj_X} {post : mj_R} (h : mj_E zG X l D cA m_Ft_heardAfter 2 80 0 0 (fun _ => True) post) (c : Int32) (hp : post (some (.int (hAft ha lv (ha 2) 3 1 c))) [(0, .inr (2, [.ref 1, .int ph])), (1, .inl (3, 4, .inr (.inr [some 2, some 3, some 4, some 5]))), (2, cFl 6 7 (ch 0) (cp 0) (sh 0) (sp 0) (ha 0) (lv 0)), (3, cFl 8 9 (ch 1) (cp 1) (sh 1) (sp 1) (ha 1) (lv 1)), (4, cFl 10 11 (ch 2) (cp 2) (sh 2) (sp 2) (ha 2) (lv 2)), (5, cFl 12 13 (ch 3) (cp 3) (sh 3) (sp 3) (ha 3) (lv 3))]) : mj_W zG X 0 0 4 [(3, .int (nI 1)), (2, .int c), (0, .ref 0), (1, .ref 4)] [] [(0, .inr (2, [.ref 1, .int ph])), (1, .inl (3, 4, .inr (.inr [some 2, some 3, some 4, some 5]))), (2, cFl 6 7 (ch 0) (cp 0) (sh 0) (sp 0) (ha 0) (lv 0)), (3, cFl 8 9 (ch 1) (cp 1) (sh 1) (sp 1) (ha 1) (lv 1)), (4, cFl 10 11 (ch 2) (cp 2) (sh 2) (sp 2) (ha 2) (lv 2)), (5, cFl 12 13 (ch 3) (cp 3) (sh 3) (sp 3) (ha 3) (lv 3))] := by
  refine mj_blk h.1 b_Ft_heardAfter_4 rfl trivial ?_
  refine mj_icge h.1 (tgt := 42) d_Ft_heardAfter_6 (by decide) (fun h1 => ?_) (fun h1 => ?_)
  · exact absurd h1 (by decide)
  · refine mj_blk h.1 b_Ft_heardAfter_9 rfl trivial ?_
    refine mj_callV h zGood (ev_Ft_at_1 l D cA _ _ _ _ _ _ _) v_Ft_at l_Ft_heardAfter_11 d_Ft_heardAfter_11 rfl ⟨by decide, by decide⟩ ⟨by decide, by decide⟩ [(0, 0), (1, 1), (2, 2), (3, 3), (4, 4), (5, 5), (6, 6), (7, 7), (8, 8), (9, 9), (10, 10), (11, 11), (12, 12), (13, 13)] rfl rfl rfl rfl rfl rfl (Nat.le_of_ble_eq_true rfl) ?_
    rintro _ _ ⟨rfl, rfl⟩
    by_cases hl : lv 1 = true
    · rw [show (if lv 1 = true then Value.ref 3 else Value.null) = Value.ref 3 from if_pos hl]
      refine mj_k rfl rfl ?_
      refine mj_blk h.1 b_Ft_heardAfter_14 rfl trivial ?_
      refine mj_ifnull_r h.1 d_Ft_heardAfter_18 ?_
      refine mj_blk h.1 b_Ft_heardAfter_21 rfl trivial ?_
      refine mj_icle h.1 (tgt := 36) d_Ft_heardAfter_30 (by decide) (fun h2 => ?_) (fun h2 => ?_)
      · refine mj_blk h.1 b_Ft_heardAfter_36 rfl trivial ?_
        refine mj_lpk [0, 2, 3, 4] rfl ?_
        have hp2 := hp
        unfold hAft hStep at hp2
        rw [if_neg (fun z => z.2 h2)] at hp2
        rw [show (nI 1 + 1 : Int32) = nI 2 from rfl]
        exact lp_Ft_ha2_2 l D cA ph ch cp sh sp ha lv h _ hp2
      · refine mj_blk h.1 b_Ft_heardAfter_33 rfl trivial ?_
        refine mj_blk h.1 b_Ft_heardAfter_36 rfl trivial ?_
        refine mj_lpk [0, 1, 3, 4] rfl ?_
        have hp2 := hp
        unfold hAft hStep at hp2
        rw [if_pos ⟨hl, h2⟩] at hp2
        rw [show (nI 1 + 1 : Int32) = nI 2 from rfl]
        exact lp_Ft_ha2_2 l D cA ph ch cp sh sp ha lv h _ hp2
    · rw [show (if lv 1 = true then Value.ref 3 else Value.null) = Value.null from if_neg hl]
      refine mj_k rfl rfl ?_
      refine mj_blk h.1 b_Ft_heardAfter_14 rfl trivial ?_
      refine mj_ifnull_n h.1 d_Ft_heardAfter_18 (tgt := 36) (by decide) ?_
      refine mj_blk h.1 b_Ft_heardAfter_36 rfl trivial ?_
      refine mj_lpk [0, 2, 3, 4] rfl ?_
      have hp2 := hp
      unfold hAft hStep at hp2
      rw [if_neg (fun z => hl z.1)] at hp2
      rw [show (nI 1 + 1 : Int32) = nI 2 from rfl]
      exact lp_Ft_ha2_2 l D cA ph ch cp sh sp ha lv h _ hp2
set_option maxRecDepth 100000 in
set_option maxHeartbeats 4000000 in
theorem lp_Ft_ha2_0 {X : mj_X} {post : mj_R} (h : mj_E zG X l D cA m_Ft_heardAfter 2 80 0 0 (fun _ => True) post) (c : Int32) (hp : post (some (.int (hAft ha lv (ha 2) 4 0 c))) [(0, .inr (2, [.ref 1, .int ph])), (1, .inl (3, 4, .inr (.inr [some 2, some 3, some 4, some 5]))), (2, cFl 6 7 (ch 0) (cp 0) (sh 0) (sp 0) (ha 0) (lv 0)), (3, cFl 8 9 (ch 1) (cp 1) (sh 1) (sp 1) (ha 1) (lv 1)), (4, cFl 10 11 (ch 2) (cp 2) (sh 2) (sp 2) (ha 2) (lv 2)), (5, cFl 12 13 (ch 3) (cp 3) (sh 3) (sp 3) (ha 3) (lv 3))]) : mj_W zG X 0 0 4 [(3, .int (nI 0)), (2, .int c), (0, .ref 0), (1, .ref 4)] [] [(0, .inr (2, [.ref 1, .int ph])), (1, .inl (3, 4, .inr (.inr [some 2, some 3, some 4, some 5]))), (2, cFl 6 7 (ch 0) (cp 0) (sh 0) (sp 0) (ha 0) (lv 0)), (3, cFl 8 9 (ch 1) (cp 1) (sh 1) (sp 1) (ha 1) (lv 1)), (4, cFl 10 11 (ch 2) (cp 2) (sh 2) (sp 2) (ha 2) (lv 2)), (5, cFl 12 13 (ch 3) (cp 3) (sh 3) (sp 3) (ha 3) (lv 3))] := by
  refine mj_blk h.1 b_Ft_heardAfter_4 rfl trivial ?_
  refine mj_icge h.1 (tgt := 42) d_Ft_heardAfter_6 (by decide) (fun h1 => ?_) (fun h1 => ?_)
  · exact absurd h1 (by decide)
  · refine mj_blk h.1 b_Ft_heardAfter_9 rfl trivial ?_
    refine mj_callV h zGood (ev_Ft_at_0 l D cA _ _ _ _ _ _ _) v_Ft_at l_Ft_heardAfter_11 d_Ft_heardAfter_11 rfl ⟨by decide, by decide⟩ ⟨by decide, by decide⟩ [(0, 0), (1, 1), (2, 2), (3, 3), (4, 4), (5, 5), (6, 6), (7, 7), (8, 8), (9, 9), (10, 10), (11, 11), (12, 12), (13, 13)] rfl rfl rfl rfl rfl rfl (Nat.le_of_ble_eq_true rfl) ?_
    rintro _ _ ⟨rfl, rfl⟩
    by_cases hl : lv 0 = true
    · rw [show (if lv 0 = true then Value.ref 2 else Value.null) = Value.ref 2 from if_pos hl]
      refine mj_k rfl rfl ?_
      refine mj_blk h.1 b_Ft_heardAfter_14 rfl trivial ?_
      refine mj_ifnull_r h.1 d_Ft_heardAfter_18 ?_
      refine mj_blk h.1 b_Ft_heardAfter_21 rfl trivial ?_
      refine mj_icle h.1 (tgt := 36) d_Ft_heardAfter_30 (by decide) (fun h2 => ?_) (fun h2 => ?_)
      · refine mj_blk h.1 b_Ft_heardAfter_36 rfl trivial ?_
        refine mj_lpk [0, 2, 3, 4] rfl ?_
        have hp2 := hp
        unfold hAft hStep at hp2
        rw [if_neg (fun z => z.2 h2)] at hp2
        rw [show (nI 0 + 1 : Int32) = nI 1 from rfl]
        exact lp_Ft_ha2_1 l D cA ph ch cp sh sp ha lv h _ hp2
      · refine mj_blk h.1 b_Ft_heardAfter_33 rfl trivial ?_
        refine mj_blk h.1 b_Ft_heardAfter_36 rfl trivial ?_
        refine mj_lpk [0, 1, 3, 4] rfl ?_
        have hp2 := hp
        unfold hAft hStep at hp2
        rw [if_pos ⟨hl, h2⟩] at hp2
        rw [show (nI 0 + 1 : Int32) = nI 1 from rfl]
        exact lp_Ft_ha2_1 l D cA ph ch cp sh sp ha lv h _ hp2
    · rw [show (if lv 0 = true then Value.ref 2 else Value.null) = Value.null from if_neg hl]
      refine mj_k rfl rfl ?_
      refine mj_blk h.1 b_Ft_heardAfter_14 rfl trivial ?_
      refine mj_ifnull_n h.1 d_Ft_heardAfter_18 (tgt := 36) (by decide) ?_
      refine mj_blk h.1 b_Ft_heardAfter_36 rfl trivial ?_
      refine mj_lpk [0, 2, 3, 4] rfl ?_
      have hp2 := hp
      unfold hAft hStep at hp2
      rw [if_neg (fun z => hl z.1)] at hp2
      rw [show (nI 0 + 1 : Int32) = nI 1 from rfl]
      exact lp_Ft_ha2_1 l D cA ph ch cp sh sp ha lv h _ hp2
set_option maxRecDepth 100000 in
set_option maxHeartbeats 4000000 in
theorem ev_Ft_heardAfter_2 : E0_Ft_heardAfter l D cA [.ref 0, .ref 4] [(0, .inr (2, [.ref 1, .int ph])), (1, .inl (3, 4, .inr (.inr [some 2, some 3, some 4, some 5]))), (2, cFl 6 7 (ch 0) (cp 0) (sh 0) (sp 0) (ha 0) (lv 0)), (3, cFl 8 9 (ch 1) (cp 1) (sh 1) (sp 1) (ha 1) (lv 1)), (4, cFl 10 11 (ch 2) (cp 2) (sh 2) (sp 2) (ha 2) (lv 2)), (5, cFl 12 13 (ch 3) (cp 3) (sh 3) (sp 3) (ha 3) (lv 3))] (some (.int (hAft ha lv (ha 2) 4 0 0))) [(0, .inr (2, [.ref 1, .int ph])), (1, .inl (3, 4, .inr (.inr [some 2, some 3, some 4, some 5]))), (2, cFl 6 7 (ch 0) (cp 0) (sh 0) (sp 0) (ha 0) (lv 0)), (3, cFl 8 9 (ch 1) (cp 1) (sh 1) (sp 1) (ha 1) (lv 1)), (4, cFl 10 11 (ch 2) (cp 2) (sh 2) (sp 2) (ha 2) (lv 2)), (5, cFl 12 13 (ch 3) (cp 3) (sh 3) (sp 3) (ha 3) (lv 3))] := by
  refine mj_ev (lv := [(0, .ref 0), (1, .ref 4)]) (by decide +kernel) (Nat.le_of_ble_eq_true rfl) rfl (fun X h => ?_)
  refine mj_blk h.1 b_Ft_heardAfter_0 rfl trivial ?_
  exact lp_Ft_ha2_0 l D cA ph ch cp sh sp ha lv h 0 ⟨rfl, rfl⟩
set_option maxRecDepth 100000 in
set_option maxHeartbeats 4000000 in
theorem lp_Ft_ha3_4 {X : mj_X} {post : mj_R} (h : mj_E zG X l D cA m_Ft_heardAfter 2 80 0 0 (fun _ => True) post) (c : Int32) (hp : post (some (.int c)) [(0, .inr (2, [.ref 1, .int ph])), (1, .inl (3, 4, .inr (.inr [some 2, some 3, some 4, some 5]))), (2, cFl 6 7 (ch 0) (cp 0) (sh 0) (sp 0) (ha 0) (lv 0)), (3, cFl 8 9 (ch 1) (cp 1) (sh 1) (sp 1) (ha 1) (lv 1)), (4, cFl 10 11 (ch 2) (cp 2) (sh 2) (sp 2) (ha 2) (lv 2)), (5, cFl 12 13 (ch 3) (cp 3) (sh 3) (sp 3) (ha 3) (lv 3))]) : mj_W zG X 0 0 4 [(3, .int (nI 4)), (2, .int c), (0, .ref 0), (1, .ref 5)] [] [(0, .inr (2, [.ref 1, .int ph])), (1, .inl (3, 4, .inr (.inr [some 2, some 3, some 4, some 5]))), (2, cFl 6 7 (ch 0) (cp 0) (sh 0) (sp 0) (ha 0) (lv 0)), (3, cFl 8 9 (ch 1) (cp 1) (sh 1) (sp 1) (ha 1) (lv 1)), (4, cFl 10 11 (ch 2) (cp 2) (sh 2) (sp 2) (ha 2) (lv 2)), (5, cFl 12 13 (ch 3) (cp 3) (sh 3) (sp 3) (ha 3) (lv 3))] := by
  refine mj_blk h.1 b_Ft_heardAfter_4 rfl trivial ?_
  refine mj_icge h.1 (tgt := 42) d_Ft_heardAfter_6 (by decide) (fun h1 => ?_) (fun h1 => ?_)
  · refine mj_blk h.1 b_Ft_heardAfter_42 rfl trivial ?_
    exact mj_iret h rfl d_Ft_heardAfter_43 (by decide) (by decide) hp
  · exact absurd (by decide) h1
set_option maxRecDepth 100000 in
set_option maxHeartbeats 4000000 in
theorem lp_Ft_ha3_3 {X : mj_X} {post : mj_R} (h : mj_E zG X l D cA m_Ft_heardAfter 2 80 0 0 (fun _ => True) post) (c : Int32) (hp : post (some (.int (hAft ha lv (ha 3) 1 3 c))) [(0, .inr (2, [.ref 1, .int ph])), (1, .inl (3, 4, .inr (.inr [some 2, some 3, some 4, some 5]))), (2, cFl 6 7 (ch 0) (cp 0) (sh 0) (sp 0) (ha 0) (lv 0)), (3, cFl 8 9 (ch 1) (cp 1) (sh 1) (sp 1) (ha 1) (lv 1)), (4, cFl 10 11 (ch 2) (cp 2) (sh 2) (sp 2) (ha 2) (lv 2)), (5, cFl 12 13 (ch 3) (cp 3) (sh 3) (sp 3) (ha 3) (lv 3))]) : mj_W zG X 0 0 4 [(3, .int (nI 3)), (2, .int c), (0, .ref 0), (1, .ref 5)] [] [(0, .inr (2, [.ref 1, .int ph])), (1, .inl (3, 4, .inr (.inr [some 2, some 3, some 4, some 5]))), (2, cFl 6 7 (ch 0) (cp 0) (sh 0) (sp 0) (ha 0) (lv 0)), (3, cFl 8 9 (ch 1) (cp 1) (sh 1) (sp 1) (ha 1) (lv 1)), (4, cFl 10 11 (ch 2) (cp 2) (sh 2) (sp 2) (ha 2) (lv 2)), (5, cFl 12 13 (ch 3) (cp 3) (sh 3) (sp 3) (ha 3) (lv 3))] := by
  refine mj_blk h.1 b_Ft_heardAfter_4 rfl trivial ?_
  refine mj_icge h.1 (tgt := 42) d_Ft_heardAfter_6 (by decide) (fun h1 => ?_) (fun h1 => ?_)
  · exact absurd h1 (by decide)
  · refine mj_blk h.1 b_Ft_heardAfter_9 rfl trivial ?_
    refine mj_callV h zGood (ev_Ft_at_3 l D cA _ _ _ _ _ _ _) v_Ft_at l_Ft_heardAfter_11 d_Ft_heardAfter_11 rfl ⟨by decide, by decide⟩ ⟨by decide, by decide⟩ [(0, 0), (1, 1), (2, 2), (3, 3), (4, 4), (5, 5), (6, 6), (7, 7), (8, 8), (9, 9), (10, 10), (11, 11), (12, 12), (13, 13)] rfl rfl rfl rfl rfl rfl (Nat.le_of_ble_eq_true rfl) ?_
    rintro _ _ ⟨rfl, rfl⟩
    by_cases hl : lv 3 = true
    · rw [show (if lv 3 = true then Value.ref 5 else Value.null) = Value.ref 5 from if_pos hl]
      refine mj_k rfl rfl ?_
      refine mj_blk h.1 b_Ft_heardAfter_14 rfl trivial ?_
      refine mj_ifnull_r h.1 d_Ft_heardAfter_18 ?_
      refine mj_blk h.1 b_Ft_heardAfter_21 rfl trivial ?_
      refine mj_icle h.1 (tgt := 36) d_Ft_heardAfter_30 (by decide) (fun h2 => ?_) (fun h2 => ?_)
      · refine mj_blk h.1 b_Ft_heardAfter_36 rfl trivial ?_
        refine mj_lpk [0, 2, 3, 4] rfl ?_
        have hp2 := hp
        unfold hAft hStep at hp2
        rw [if_neg (fun z => z.2 h2)] at hp2
        rw [show (nI 3 + 1 : Int32) = nI 4 from rfl]
        exact lp_Ft_ha3_4 l D cA ph ch cp sh sp ha lv h _ hp2
      · refine mj_blk h.1 b_Ft_heardAfter_33 rfl trivial ?_
        refine mj_blk h.1 b_Ft_heardAfter_36 rfl trivial ?_
        refine mj_lpk [0, 1, 3, 4] rfl ?_
        have hp2 := hp
        unfold hAft hStep at hp2
        rw [if_pos ⟨hl, h2⟩] at hp2
        rw [show (nI 3 + 1 : Int32) = nI 4 from rfl]
        exact lp_Ft_ha3_4 l D cA ph ch cp sh sp ha lv h _ hp2
    · rw [show (if lv 3 = true then Value.ref 5 else Value.null) = Value.null from if_neg hl]
      refine mj_k rfl rfl ?_
      refine mj_blk h.1 b_Ft_heardAfter_14 rfl trivial ?_
      refine mj_ifnull_n h.1 d_Ft_heardAfter_18 (tgt := 36) (by decide) ?_
      refine mj_blk h.1 b_Ft_heardAfter_36 rfl trivial ?_
      refine mj_lpk [0, 2, 3, 4] rfl ?_
      have hp2 := hp
      unfold hAft hStep at hp2
      rw [if_neg (fun z => hl z.1)] at hp2
      rw [show (nI 3 + 1 : Int32) = nI 4 from rfl]
      exact lp_Ft_ha3_4 l D cA ph ch cp sh sp ha lv h _ hp2
set_option maxRecDepth 100000 in
set_option maxHeartbeats 4000000 in
theorem lp_Ft_ha3_2 {X : mj_X} {post : mj_R} (h : mj_E zG X l D cA m_Ft_heardAfter 2 80 0 0 (fun _ => True) post) (c : Int32) (hp : post (some (.int (hAft ha lv (ha 3) 2 2 c))) [(0, .inr (2, [.ref 1, .int ph])), (1, .inl (3, 4, .inr (.inr [some 2, some 3, some 4, some 5]))), (2, cFl 6 7 (ch 0) (cp 0) (sh 0) (sp 0) (ha 0) (lv 0)), (3, cFl 8 9 (ch 1) (cp 1) (sh 1) (sp 1) (ha 1) (lv 1)), (4, cFl 10 11 (ch 2) (cp 2) (sh 2) (sp 2) (ha 2) (lv 2)), (5, cFl 12 13 (ch 3) (cp 3) (sh 3) (sp 3) (ha 3) (lv 3))]) : mj_W zG X 0 0 4 [(3, .int (nI 2)), (2, .int c), (0, .ref 0), (1, .ref 5)] [] [(0, .inr (2, [.ref 1, .int ph])), (1, .inl (3, 4, .inr (.inr [some 2, some 3, some 4, some 5]))), (2, cFl 6 7 (ch 0) (cp 0) (sh 0) (sp 0) (ha 0) (lv 0)), (3, cFl 8 9 (ch 1) (cp 1) (sh 1) (sp 1) (ha 1) (lv 1)), (4, cFl 10 11 (ch 2) (cp 2) (sh 2) (sp 2) (ha 2) (lv 2)), (5, cFl 12 13 (ch 3) (cp 3) (sh 3) (sp 3) (ha 3) (lv 3))] := by
  refine mj_blk h.1 b_Ft_heardAfter_4 rfl trivial ?_
  refine mj_icge h.1 (tgt := 42) d_Ft_heardAfter_6 (by decide) (fun h1 => ?_) (fun h1 => ?_)
  · exact absurd h1 (by decide)
  · refine mj_blk h.1 b_Ft_heardAfter_9 rfl trivial ?_
    refine mj_callV h zGood (ev_Ft_at_2 l D cA _ _ _ _ _ _ _) v_Ft_at l_Ft_heardAfter_11 d_Ft_heardAfter_11 rfl ⟨by decide, by decide⟩ ⟨by decide, by decide⟩ [(0, 0), (1, 1), (2, 2), (3, 3), (4, 4), (5, 5), (6, 6), (7, 7), (8, 8), (9, 9), (10, 10), (11, 11), (12, 12), (13, 13)] rfl rfl rfl rfl rfl rfl (Nat.le_of_ble_eq_true rfl) ?_
    rintro _ _ ⟨rfl, rfl⟩
    by_cases hl : lv 2 = true
    · rw [show (if lv 2 = true then Value.ref 4 else Value.null) = Value.ref 4 from if_pos hl]
      refine mj_k rfl rfl ?_
      refine mj_blk h.1 b_Ft_heardAfter_14 rfl trivial ?_
      refine mj_ifnull_r h.1 d_Ft_heardAfter_18 ?_
      refine mj_blk h.1 b_Ft_heardAfter_21 rfl trivial ?_
      refine mj_icle h.1 (tgt := 36) d_Ft_heardAfter_30 (by decide) (fun h2 => ?_) (fun h2 => ?_)
      · refine mj_blk h.1 b_Ft_heardAfter_36 rfl trivial ?_
        refine mj_lpk [0, 2, 3, 4] rfl ?_
        have hp2 := hp
        unfold hAft hStep at hp2
        rw [if_neg (fun z => z.2 h2)] at hp2
        rw [show (nI 2 + 1 : Int32) = nI 3 from rfl]
        exact lp_Ft_ha3_3 l D cA ph ch cp sh sp ha lv h _ hp2
      · refine mj_blk h.1 b_Ft_heardAfter_33 rfl trivial ?_
        refine mj_blk h.1 b_Ft_heardAfter_36 rfl trivial ?_
        refine mj_lpk [0, 1, 3, 4] rfl ?_
        have hp2 := hp
        unfold hAft hStep at hp2
        rw [if_pos ⟨hl, h2⟩] at hp2
        rw [show (nI 2 + 1 : Int32) = nI 3 from rfl]
        exact lp_Ft_ha3_3 l D cA ph ch cp sh sp ha lv h _ hp2
    · rw [show (if lv 2 = true then Value.ref 4 else Value.null) = Value.null from if_neg hl]
      refine mj_k rfl rfl ?_
      refine mj_blk h.1 b_Ft_heardAfter_14 rfl trivial ?_
      refine mj_ifnull_n h.1 d_Ft_heardAfter_18 (tgt := 36) (by decide) ?_
      refine mj_blk h.1 b_Ft_heardAfter_36 rfl trivial ?_
      refine mj_lpk [0, 2, 3, 4] rfl ?_
      have hp2 := hp
      unfold hAft hStep at hp2
      rw [if_neg (fun z => hl z.1)] at hp2
      rw [show (nI 2 + 1 : Int32) = nI 3 from rfl]
      exact lp_Ft_ha3_3 l D cA ph ch cp sh sp ha lv h _ hp2
set_option maxRecDepth 100000 in
set_option maxHeartbeats 4000000 in
theorem lp_Ft_ha3_1 {X : mj_X} {post : mj_R} (h : mj_E zG X l D cA m_Ft_heardAfter 2 80 0 0 (fun _ => True) post) (c : Int32) (hp : post (some (.int (hAft ha lv (ha 3) 3 1 c))) [(0, .inr (2, [.ref 1, .int ph])), (1, .inl (3, 4, .inr (.inr [some 2, some 3, some 4, some 5]))), (2, cFl 6 7 (ch 0) (cp 0) (sh 0) (sp 0) (ha 0) (lv 0)), (3, cFl 8 9 (ch 1) (cp 1) (sh 1) (sp 1) (ha 1) (lv 1)), (4, cFl 10 11 (ch 2) (cp 2) (sh 2) (sp 2) (ha 2) (lv 2)), (5, cFl 12 13 (ch 3) (cp 3) (sh 3) (sp 3) (ha 3) (lv 3))]) : mj_W zG X 0 0 4 [(3, .int (nI 1)), (2, .int c), (0, .ref 0), (1, .ref 5)] [] [(0, .inr (2, [.ref 1, .int ph])), (1, .inl (3, 4, .inr (.inr [some 2, some 3, some 4, some 5]))), (2, cFl 6 7 (ch 0) (cp 0) (sh 0) (sp 0) (ha 0) (lv 0)), (3, cFl 8 9 (ch 1) (cp 1) (sh 1) (sp 1) (ha 1) (lv 1)), (4, cFl 10 11 (ch 2) (cp 2) (sh 2) (sp 2) (ha 2) (lv 2)), (5, cFl 12 13 (ch 3) (cp 3) (sh 3) (sp 3) (ha 3) (lv 3))] := by
  refine mj_blk h.1 b_Ft_heardAfter_4 rfl trivial ?_
  refine mj_icge h.1 (tgt := 42) d_Ft_heardAfter_6 (by decide) (fun h1 => ?_) (fun h1 => ?_)
  · exact absurd h1 (by decide)
  · refine mj_blk h.1 b_Ft_heardAfter_9 rfl trivial ?_
    refine mj_callV h zGood (ev_Ft_at_1 l D cA _ _ _ _ _ _ _) v_Ft_at l_Ft_heardAfter_11 d_Ft_heardAfter_11 rfl ⟨by decide, by decide⟩ ⟨by decide, by decide⟩ [(0, 0), (1, 1), (2, 2), (3, 3), (4, 4), (5, 5), (6, 6), (7, 7), (8, 8), (9, 9), (10, 10), (11, 11), (12, 12), (13, 13)] rfl rfl rfl rfl rfl rfl (Nat.le_of_ble_eq_true rfl) ?_
    rintro _ _ ⟨rfl, rfl⟩
    by_cases hl : lv 1 = true
    · rw [show (if lv 1 = true then Value.ref 3 else Value.null) = Value.ref 3 from if_pos hl]
      refine mj_k rfl rfl ?_
      refine mj_blk h.1 b_Ft_heardAfter_14 rfl trivial ?_
      refine mj_ifnull_r h.1 d_Ft_heardAfter_18 ?_
      refine mj_blk h.1 b_Ft_heardAfter_21 rfl trivial ?_
      refine mj_icle h.1 (tgt := 36) d_Ft_heardAfter_30 (by decide) (fun h2 => ?_) (fun h2 => ?_)
      · refine mj_blk h.1 b_Ft_heardAfter_36 rfl trivial ?_
        refine mj_lpk [0, 2, 3, 4] rfl ?_
        have hp2 := hp
        unfold hAft hStep at hp2
        rw [if_neg (fun z => z.2 h2)] at hp2
        rw [show (nI 1 + 1 : Int32) = nI 2 from rfl]
        exact lp_Ft_ha3_2 l D cA ph ch cp sh sp ha lv h _ hp2
      · refine mj_blk h.1 b_Ft_heardAfter_33 rfl trivial ?_
        refine mj_blk h.1 b_Ft_heardAfter_36 rfl trivial ?_
        refine mj_lpk [0, 1, 3, 4] rfl ?_
        have hp2 := hp
        unfold hAft hStep at hp2
        rw [if_pos ⟨hl, h2⟩] at hp2
        rw [show (nI 1 + 1 : Int32) = nI 2 from rfl]
        exact lp_Ft_ha3_2 l D cA ph ch cp sh sp ha lv h _ hp2
    · rw [show (if lv 1 = true then Value.ref 3 else Value.null) = Value.null from if_neg hl]
      refine mj_k rfl rfl ?_
      refine mj_blk h.1 b_Ft_heardAfter_14 rfl trivial ?_
      refine mj_ifnull_n h.1 d_Ft_heardAfter_18 (tgt := 36) (by decide) ?_
      refine mj_blk h.1 b_Ft_heardAfter_36 rfl trivial ?_
      refine mj_lpk [0, 2, 3, 4] rfl ?_
      have hp2 := hp
      unfold hAft hStep at hp2
      rw [if_neg (fun z => hl z.1)] at hp2
      rw [show (nI 1 + 1 : Int32) = nI 2 from rfl]
      exact lp_Ft_ha3_2 l D cA ph ch cp sh sp ha lv h _ hp2
set_option maxRecDepth 100000 in
set_option maxHeartbeats 4000000 in
theorem lp_Ft_ha3_0 {X : mj_X} {post : mj_R} (h : mj_E zG X l D cA m_Ft_heardAfter 2 80 0 0 (fun _ => True) post) (c : Int32) (hp : post (some (.int (hAft ha lv (ha 3) 4 0 c))) [(0, .inr (2, [.ref 1, .int ph])), (1, .inl (3, 4, .inr (.inr [some 2, some 3, some 4, some 5]))), (2, cFl 6 7 (ch 0) (cp 0) (sh 0) (sp 0) (ha 0) (lv 0)), (3, cFl 8 9 (ch 1) (cp 1) (sh 1) (sp 1) (ha 1) (lv 1)), (4, cFl 10 11 (ch 2) (cp 2) (sh 2) (sp 2) (ha 2) (lv 2)), (5, cFl 12 13 (ch 3) (cp 3) (sh 3) (sp 3) (ha 3) (lv 3))]) : mj_W zG X 0 0 4 [(3, .int (nI 0)), (2, .int c), (0, .ref 0), (1, .ref 5)] [] [(0, .inr (2, [.ref 1, .int ph])), (1, .inl (3, 4, .inr (.inr [some 2, some 3, some 4, some 5]))), (2, cFl 6 7 (ch 0) (cp 0) (sh 0) (sp 0) (ha 0) (lv 0)), (3, cFl 8 9 (ch 1) (cp 1) (sh 1) (sp 1) (ha 1) (lv 1)), (4, cFl 10 11 (ch 2) (cp 2) (sh 2) (sp 2) (ha 2) (lv 2)), (5, cFl 12 13 (ch 3) (cp 3) (sh 3) (sp 3) (ha 3) (lv 3))] := by
  refine mj_blk h.1 b_Ft_heardAfter_4 rfl trivial ?_
  refine mj_icge h.1 (tgt := 42) d_Ft_heardAfter_6 (by decide) (fun h1 => ?_) (fun h1 => ?_)
  · exact absurd h1 (by decide)
  · refine mj_blk h.1 b_Ft_heardAfter_9 rfl trivial ?_
    refine mj_callV h zGood (ev_Ft_at_0 l D cA _ _ _ _ _ _ _) v_Ft_at l_Ft_heardAfter_11 d_Ft_heardAfter_11 rfl ⟨by decide, by decide⟩ ⟨by decide, by decide⟩ [(0, 0), (1, 1), (2, 2), (3, 3), (4, 4), (5, 5), (6, 6), (7, 7), (8, 8), (9, 9), (10, 10), (11, 11), (12, 12), (13, 13)] rfl rfl rfl rfl rfl rfl (Nat.le_of_ble_eq_true rfl) ?_
    rintro _ _ ⟨rfl, rfl⟩
    by_cases hl : lv 0 = true
    · rw [show (if lv 0 = true then Value.ref 2 else Value.null) = Value.ref 2 from if_pos hl]
      refine mj_k rfl rfl ?_
      refine mj_blk h.1 b_Ft_heardAfter_14 rfl trivial ?_
      refine mj_ifnull_r h.1 d_Ft_heardAfter_18 ?_
      refine mj_blk h.1 b_Ft_heardAfter_21 rfl trivial ?_
      refine mj_icle h.1 (tgt := 36) d_Ft_heardAfter_30 (by decide) (fun h2 => ?_) (fun h2 => ?_)
      · refine mj_blk h.1 b_Ft_heardAfter_36 rfl trivial ?_
        refine mj_lpk [0, 2, 3, 4] rfl ?_
        have hp2 := hp
        unfold hAft hStep at hp2
        rw [if_neg (fun z => z.2 h2)] at hp2
        rw [show (nI 0 + 1 : Int32) = nI 1 from rfl]
        exact lp_Ft_ha3_1 l D cA ph ch cp sh sp ha lv h _ hp2
      · refine mj_blk h.1 b_Ft_heardAfter_33 rfl trivial ?_
        refine mj_blk h.1 b_Ft_heardAfter_36 rfl trivial ?_
        refine mj_lpk [0, 1, 3, 4] rfl ?_
        have hp2 := hp
        unfold hAft hStep at hp2
        rw [if_pos ⟨hl, h2⟩] at hp2
        rw [show (nI 0 + 1 : Int32) = nI 1 from rfl]
        exact lp_Ft_ha3_1 l D cA ph ch cp sh sp ha lv h _ hp2
    · rw [show (if lv 0 = true then Value.ref 2 else Value.null) = Value.null from if_neg hl]
      refine mj_k rfl rfl ?_
      refine mj_blk h.1 b_Ft_heardAfter_14 rfl trivial ?_
      refine mj_ifnull_n h.1 d_Ft_heardAfter_18 (tgt := 36) (by decide) ?_
      refine mj_blk h.1 b_Ft_heardAfter_36 rfl trivial ?_
      refine mj_lpk [0, 2, 3, 4] rfl ?_
      have hp2 := hp
      unfold hAft hStep at hp2
      rw [if_neg (fun z => hl z.1)] at hp2
      rw [show (nI 0 + 1 : Int32) = nI 1 from rfl]
      exact lp_Ft_ha3_1 l D cA ph ch cp sh sp ha lv h _ hp2
set_option maxRecDepth 100000 in
set_option maxHeartbeats 4000000 in
theorem ev_Ft_heardAfter_3 : E0_Ft_heardAfter l D cA [.ref 0, .ref 5] [(0, .inr (2, [.ref 1, .int ph])), (1, .inl (3, 4, .inr (.inr [some 2, some 3, some 4, some 5]))), (2, cFl 6 7 (ch 0) (cp 0) (sh 0) (sp 0) (ha 0) (lv 0)), (3, cFl 8 9 (ch 1) (cp 1) (sh 1) (sp 1) (ha 1) (lv 1)), (4, cFl 10 11 (ch 2) (cp 2) (sh 2) (sp 2) (ha 2) (lv 2)), (5, cFl 12 13 (ch 3) (cp 3) (sh 3) (sp 3) (ha 3) (lv 3))] (some (.int (hAft ha lv (ha 3) 4 0 0))) [(0, .inr (2, [.ref 1, .int ph])), (1, .inl (3, 4, .inr (.inr [some 2, some 3, some 4, some 5]))), (2, cFl 6 7 (ch 0) (cp 0) (sh 0) (sp 0) (ha 0) (lv 0)), (3, cFl 8 9 (ch 1) (cp 1) (sh 1) (sp 1) (ha 1) (lv 1)), (4, cFl 10 11 (ch 2) (cp 2) (sh 2) (sp 2) (ha 2) (lv 2)), (5, cFl 12 13 (ch 3) (cp 3) (sh 3) (sp 3) (ha 3) (lv 3))] := by
  refine mj_ev (lv := [(0, .ref 0), (1, .ref 5)]) (by decide +kernel) (Nat.le_of_ble_eq_true rfl) rfl (fun X h => ?_)
  refine mj_blk h.1 b_Ft_heardAfter_0 rfl trivial ?_
  exact lp_Ft_ha3_0 l D cA ph ch cp sh sp ha lv h 0 ⟨rfl, rfl⟩
end TABLE
