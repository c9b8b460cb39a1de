/-! Bad arguments (by program: wip/whole/src_bad.py) -/
def TLx : List Cond := mj_tw "StreamWatch" 58 60 62 "java/lang/IllegalArgumentException" "c is not 0 .. 7" ++ (mj_tw "StreamWatch" 58 65 62 "java/lang/IllegalArgumentException" "way is not 0 or 1" ++ (mj_tw "StreamWatch" 58 67 62 "java/lang/IllegalArgumentException" "n is not 0 .. 8" ++ (mj_tw "StreamWatch" 58 138 62 "java/lang/IllegalArgumentException" "way is not 0 .. 2" ++ (mj_tw "StreamWatch" 58 141 62 "java/lang/IllegalArgumentException" "port is not 0 .. 65535" ++ (mj_tw "StreamWatch" 143 145 147 "java/lang/IllegalStateException" "there are 6 rules" ++ (mj_tw "StreamWatch" 58 151 62 "java/lang/IllegalArgumentException" "n is not 1 .. 6" ++ (mj_tw "StreamWatch" 58 153 62 "java/lang/IllegalArgumentException" "marks is not 0 .. 7" ++ (mj_tw "StreamWatch" 58 155 62 "java/lang/IllegalArgumentException" "least is not -80 .. 80" ++ (mj_tw "StreamWatch" 58 157 62 "java/lang/IllegalArgumentException" "span is not 0 .. 80" ++ (mj_tw "StreamWatch" 143 163 147 "java/lang/IllegalStateException" "there is no rule" ++ (mj_tw "StreamWatch" 143 166 147 "java/lang/IllegalStateException" "the rule has 3 options" ++ [Cond.not (.castable "java/lang/IllegalStateException" "java/lang/IllegalArgumentException")])))))))))))
theorem tw_Sw_craft_10 : ∀ c ∈ mj_tw "StreamWatch" 58 60 62 "java/lang/IllegalArgumentException" "c is not 0 .. 7", c ∈ TLx := fun c h => List.mem_append_left _ h
theorem tw_Sw_craft_29 : ∀ c ∈ mj_tw "StreamWatch" 58 65 62 "java/lang/IllegalArgumentException" "way is not 0 or 1", c ∈ TLx := fun c h => List.mem_append_right _ (List.mem_append_left _ h)
theorem tw_Sw_craft_51 : ∀ c ∈ mj_tw "StreamWatch" 58 67 62 "java/lang/IllegalArgumentException" "n is not 0 .. 8", c ∈ TLx := fun c h => List.mem_append_right _ (List.mem_append_right _ (List.mem_append_left _ h))
theorem tw_Sw_rule_9 : ∀ c ∈ mj_tw "StreamWatch" 58 138 62 "java/lang/IllegalArgumentException" "way is not 0 .. 2", c ∈ TLx := fun c h => List.mem_append_right _ (List.mem_append_right _ (List.mem_append_right _ (List.mem_append_left _ h)))
theorem tw_Sw_rule_29 : ∀ c ∈ mj_tw "StreamWatch" 58 141 62 "java/lang/IllegalArgumentException" "port is not 0 .. 65535", c ∈ TLx := fun c h => List.mem_append_right _ (List.mem_append_right _ (List.mem_append_right _ (List.mem_append_right _ (List.mem_append_left _ h))))
theorem tw_Sw_rule_48 : ∀ c ∈ mj_tw "StreamWatch" 143 145 147 "java/lang/IllegalStateException" "there are 6 rules", c ∈ TLx := fun c h => List.mem_append_right _ (List.mem_append_right _ (List.mem_append_right _ (List.mem_append_right _ (List.mem_append_right _ (List.mem_append_left _ h)))))
theorem tw_Sw_option_11 : ∀ c ∈ mj_tw "StreamWatch" 58 151 62 "java/lang/IllegalArgumentException" "n is not 1 .. 6", c ∈ TLx := fun c h => List.mem_append_right _ (List.mem_append_right _ (List.mem_append_right _ (List.mem_append_right _ (List.mem_append_right _ (List.mem_append_right _ (List.mem_append_left _ h))))))
theorem tw_Sw_option_33 : ∀ c ∈ mj_tw "StreamWatch" 58 153 62 "java/lang/IllegalArgumentException" "marks is not 0 .. 7", c ∈ TLx := fun c h => List.mem_append_right _ (List.mem_append_right _ (List.mem_append_right _ (List.mem_append_right _ (List.mem_append_right _ (List.mem_append_right _ (List.mem_append_right _ (List.mem_append_left _ h)))))))
theorem tw_Sw_option_57 : ∀ c ∈ mj_tw "StreamWatch" 58 155 62 "java/lang/IllegalArgumentException" "least is not -80 .. 80", c ∈ TLx := fun c h => List.mem_append_right _ (List.mem_append_right _ (List.mem_append_right _ (List.mem_append_right _ (List.mem_append_right _ (List.mem_append_right _ (List.mem_append_right _ (List.mem_append_right _ (List.mem_append_left _ h))))))))
theorem tw_Sw_option_79 : ∀ c ∈ mj_tw "StreamWatch" 58 157 62 "java/lang/IllegalArgumentException" "span is not 0 .. 80", c ∈ TLx := fun c h => List.mem_append_right _ (List.mem_append_right _ (List.mem_append_right _ (List.mem_append_right _ (List.mem_append_right _ (List.mem_append_right _ (List.mem_append_right _ (List.mem_append_right _ (List.mem_append_right _ (List.mem_append_left _ h)))))))))
theorem tw_Sw_option_106 : ∀ c ∈ mj_tw "StreamWatch" 143 163 147 "java/lang/IllegalStateException" "there is no rule", c ∈ TLx := fun c h => List.mem_append_right _ (List.mem_append_right _ (List.mem_append_right _ (List.mem_append_right _ (List.mem_append_right _ (List.mem_append_right _ (List.mem_append_right _ (List.mem_append_right _ (List.mem_append_right _ (List.mem_append_right _ (List.mem_append_left _ h))))))))))
theorem tw_Sw_option_125 : ∀ c ∈ mj_tw "StreamWatch" 143 166 147 "java/lang/IllegalStateException" "the rule has 3 options", c ∈ TLx := fun c h => List.mem_append_right _ (List.mem_append_right _ (List.mem_append_right _ (List.mem_append_right _ (List.mem_append_right _ (List.mem_append_right _ (List.mem_append_right _ (List.mem_append_right _ (List.mem_append_right _ (List.mem_append_right _ (List.mem_append_right _ (List.mem_append_left _ h)))))))))))
theorem mj_lt8 {c : Int32} (h : c < 8) : ¬ 7 < c := by
  rw [Int32.lt_iff_toInt_lt] at h ⊢
  have : (8 : Int32).toInt = 8 := by decide
  have : (7 : Int32).toInt = 7 := by decide
  omega
theorem mj_y0 {y : Int32} (h : y = 0 ∨ y = 1) : ¬ y < 0 := by rcases h with h | h <;> (subst h; decide)
theorem mj_y1 {y : Int32} (h : y = 0 ∨ y = 1) : ¬ 1 < y := by rcases h with h | h <;> (subst h; decide)
set_option maxRecDepth 100000 in
set_option maxHeartbeats 8000000 in
theorem evT_Sw_craft (l : Launch) (hfl : l.flags = pinnedFlags ++ [noTraceFlag]) (D : va_G) (cA : Nat → ClassId) (st : Bool) (n0 : Nat) (c y sq fg k : Int32) (v : Int64) (rc : Nat) (hb : ¬ (¬ c < 0 ∧ ¬ 7 < c ∧ ¬ y < 0 ∧ ¬ 1 < y ∧ ¬ k < 0 ∧ k ≤ 8)) : mj_EvT zG l D cA m_Sw_craft 6 100 1 6 [.ref 50, .int c, .int y, .int sq, .int fg, .int k, .long v] [(50, cSw st rc)] TLx n0 "java/lang/IllegalArgumentException" := by
  refine mj_evT (lv := [(0, .ref 50), (1, .int c), (2, .int y), (3, .int sq), (4, .int fg), (5, .int k), (6, .long v)]) (by decide +kernel) (Nat.le_of_ble_eq_true rfl) rfl (fun X h => ?_)
  refine mj_blk h.1 b_Sw_craft_0 rfl trivial ?_
  refine mj_iflt h.1 (tgt := 10) d_Sw_craft_1 (by decide) (fun h1 => ?_) (fun h1 => ?_)
  · exact mj_throw hfl h tw_Sw_craft_10 (by decide +kernel) d_Sw_craft_10 (by decide +kernel) (by decide +kernel) (by decide +kernel) (by decide +kernel) (by decide) (by decide) (by decide) (by decide)
  · refine mj_blk h.1 b_Sw_craft_4 rfl trivial ?_
    refine mj_iclt h.1 (tgt := 20) d_Sw_craft_7 (by decide) (fun h2 => ?_) (fun h2 => ?_)
    · refine mj_blk h.1 b_Sw_craft_20 rfl trivial ?_
      first | refine mj_ifeqB h.1 (tgt := 39) d_Sw_craft_21 (by decide) (fun h3 => ?_) (fun h3 => ?_) | refine mj_ifeq h.1 (tgt := 39) d_Sw_craft_21 (by decide) (fun h3 => ?_) (fun h3 => ?_)
      · refine mj_blk h.1 b_Sw_craft_39 rfl trivial ?_
        refine mj_iflt h.1 (tgt := 51) d_Sw_craft_41 (by decide) (fun h4 => ?_) (fun h4 => ?_)
        · exact mj_throw hfl h tw_Sw_craft_51 (by decide +kernel) d_Sw_craft_51 (by decide +kernel) (by decide +kernel) (by decide +kernel) (by decide +kernel) (by decide) (by decide) (by decide) (by decide)
        · refine mj_blk h.1 b_Sw_craft_44 rfl trivial ?_
          refine mj_icle h.1 (tgt := 61) d_Sw_craft_48 (by decide) (fun h5 => ?_) (fun h5 => ?_)
          · exact absurd ⟨h1, mj_lt8 h2, mj_y0 (Or.inl h3), mj_y1 (Or.inl h3), h4, h5⟩ hb
          · exact mj_throw hfl h tw_Sw_craft_51 (by decide +kernel) d_Sw_craft_51 (by decide +kernel) (by decide +kernel) (by decide +kernel) (by decide +kernel) (by decide) (by decide) (by decide) (by decide)
      · refine mj_blk h.1 b_Sw_craft_24 rfl trivial ?_
        refine mj_iceq h.1 (tgt := 39) d_Sw_craft_26 (by decide) (fun h6 => ?_) (fun h6 => ?_)
        · refine mj_blk h.1 b_Sw_craft_39 rfl trivial ?_
          refine mj_iflt h.1 (tgt := 51) d_Sw_craft_41 (by decide) (fun h7 => ?_) (fun h7 => ?_)
          · exact mj_throw hfl h tw_Sw_craft_51 (by decide +kernel) d_Sw_craft_51 (by decide +kernel) (by decide +kernel) (by decide +kernel) (by decide +kernel) (by decide) (by decide) (by decide) (by decide)
          · refine mj_blk h.1 b_Sw_craft_44 rfl trivial ?_
            refine mj_icle h.1 (tgt := 61) d_Sw_craft_48 (by decide) (fun h8 => ?_) (fun h8 => ?_)
            · exact absurd ⟨h1, mj_lt8 h2, mj_y0 (Or.inr h6), mj_y1 (Or.inr h6), h7, h8⟩ hb
            · exact mj_throw hfl h tw_Sw_craft_51 (by decide +kernel) d_Sw_craft_51 (by decide +kernel) (by decide +kernel) (by decide +kernel) (by decide +kernel) (by decide) (by decide) (by decide) (by decide)
        · exact mj_throw hfl h tw_Sw_craft_29 (by decide +kernel) d_Sw_craft_29 (by decide +kernel) (by decide +kernel) (by decide +kernel) (by decide +kernel) (by decide) (by decide) (by decide) (by decide)
    · exact mj_throw hfl h tw_Sw_craft_10 (by decide +kernel) d_Sw_craft_10 (by decide +kernel) (by decide +kernel) (by decide +kernel) (by decide +kernel) (by decide) (by decide) (by decide) (by decide)
set_option maxRecDepth 100000 in
set_option maxHeartbeats 8000000 in
theorem evT_Sw_rule (l : Launch) (hfl : l.flags = pinnedFlags ++ [noTraceFlag]) (D : va_G) (cA : Nat → ClassId) (st : Bool) (n0 : Nat) (w p : Int32) (rc : Nat) (hb : ¬ (¬ w < 0 ∧ ¬ 2 < w ∧ ¬ p < 0 ∧ p ≤ 65535)) : mj_EvT zG l D cA m_Sw_rule 6 100 1 6 [.ref 50, .int w, .int p] [(50, cSw st rc)] TLx n0 "java/lang/IllegalArgumentException" := by
  refine mj_evT (lv := [(0, .ref 50), (1, .int w), (2, .int p)]) (by decide +kernel) (Nat.le_of_ble_eq_true rfl) rfl (fun X h => ?_)
  refine mj_blk h.1 b_Sw_rule_0 rfl trivial ?_
  refine mj_iflt h.1 (tgt := 9) d_Sw_rule_1 (by decide) (fun h1 => ?_) (fun h1 => ?_)
  · exact mj_throw hfl h tw_Sw_rule_9 (by decide +kernel) d_Sw_rule_9 (by decide +kernel) (by decide +kernel) (by decide +kernel) (by decide +kernel) (by decide) (by decide) (by decide) (by decide)
  · refine mj_blk h.1 b_Sw_rule_4 rfl trivial ?_
    refine mj_icle h.1 (tgt := 19) d_Sw_rule_6 (by decide) (fun h2 => ?_) (fun h2 => ?_)
    · refine mj_blk h.1 b_Sw_rule_19 rfl trivial ?_
      refine mj_iflt h.1 (tgt := 29) d_Sw_rule_20 (by decide) (fun h3 => ?_) (fun h3 => ?_)
      · exact mj_throw hfl h tw_Sw_rule_29 (by decide +kernel) d_Sw_rule_29 (by decide +kernel) (by decide +kernel) (by decide +kernel) (by decide +kernel) (by decide) (by decide) (by decide) (by decide)
      · refine mj_blk h.1 b_Sw_rule_23 rfl trivial ?_
        refine mj_icle h.1 (tgt := 39) d_Sw_rule_26 (by decide) (fun h4 => ?_) (fun h4 => ?_)
        · exact absurd ⟨h1, Int32.not_lt.mpr h2, h3, h4⟩ hb
        · exact mj_throw hfl h tw_Sw_rule_29 (by decide +kernel) d_Sw_rule_29 (by decide +kernel) (by decide +kernel) (by decide +kernel) (by decide +kernel) (by decide) (by decide) (by decide) (by decide)
    · exact mj_throw hfl h tw_Sw_rule_9 (by decide +kernel) d_Sw_rule_9 (by decide +kernel) (by decide +kernel) (by decide +kernel) (by decide +kernel) (by decide) (by decide) (by decide) (by decide)
set_option maxRecDepth 100000 in
set_option maxHeartbeats 8000000 in
theorem evT_Sw_rule6 (l : Launch) (hfl : l.flags = pinnedFlags ++ [noTraceFlag]) (D : va_G) (cA : Nat → ClassId) (st : Bool) (n0 : Nat) (w p : Int32) (hg : ¬ w < 0 ∧ ¬ 2 < w ∧ ¬ p < 0 ∧ p ≤ 65535) : mj_EvT zG l D cA m_Sw_rule 6 100 1 6 [.ref 50, .int w, .int p] [(50, cSw st 6)] TLx n0 "java/lang/IllegalStateException" := by
  refine mj_evT (lv := [(0, .ref 50), (1, .int w), (2, .int p)]) (by decide +kernel) (Nat.le_of_ble_eq_true rfl) rfl (fun X h => ?_)
  refine mj_blk h.1 b_Sw_rule_0 rfl trivial ?_
  refine mj_iflt h.1 (tgt := 9) d_Sw_rule_1 (by decide) (fun h1 => ?_) (fun h1 => ?_)
  · exact absurd h1 hg.1
  · refine mj_blk h.1 b_Sw_rule_4 rfl trivial ?_
    refine mj_icle h.1 (tgt := 19) d_Sw_rule_6 (by decide) (fun h2 => ?_) (fun h2 => ?_)
    · refine mj_blk h.1 b_Sw_rule_19 rfl trivial ?_
      refine mj_iflt h.1 (tgt := 29) d_Sw_rule_20 (by decide) (fun h3 => ?_) (fun h3 => ?_)
      · exact absurd h3 hg.2.2.1
      · refine mj_blk h.1 b_Sw_rule_23 rfl trivial ?_
        refine mj_icle h.1 (tgt := 39) d_Sw_rule_26 (by decide) (fun h4 => ?_) (fun h4 => ?_)
        · refine mj_blk h.1 b_Sw_rule_39 rfl trivial ?_
          refine mj_iclt h.1 (tgt := 58) d_Sw_rule_45 (by decide) (fun h5 => ?_) (fun h5 => ?_)
          · exact absurd h5 (by decide)
          · exact mj_throw hfl h tw_Sw_rule_48 (by decide +kernel) d_Sw_rule_48 (by decide +kernel) (by decide +kernel) (by decide +kernel) (by decide +kernel) (by decide) (by decide) (by decide) (by decide)
        · exact absurd hg.2.2.2 h4
    · exact absurd (Int32.not_lt.mp hg.2.1) h2
set_option maxRecDepth 100000 in
set_option maxHeartbeats 8000000 in
theorem evT_Sw_option (l : Launch) (hfl : l.flags = pinnedFlags ++ [noTraceFlag]) (D : va_G) (cA : Nat → ClassId) (st : Bool) (n0 : Nat) (c : Int32) (v : Int64) (m a b : Int32) (rc : Nat) (hb : ¬ (¬ c < 1 ∧ ¬ 6 < c ∧ ¬ m < 0 ∧ ¬ 7 < m ∧ ¬ a < -80 ∧ ¬ 80 < a ∧ ¬ b < 0 ∧ b ≤ 80)) : mj_EvT zG l D cA m_Sw_option 6 100 1 6 [.ref 50, .int c, .long v, .int m, .int a, .int b] [(50, cSw st rc)] TLx n0 "java/lang/IllegalArgumentException" := by
  refine mj_evT (lv := [(0, .ref 50), (1, .int c), (2, .long v), (4, .int m), (5, .int a), (6, .int b)]) (by decide +kernel) (Nat.le_of_ble_eq_true rfl) rfl (fun X h => ?_)
  refine mj_blk h.1 b_Sw_option_0 rfl trivial ?_
  refine mj_iclt h.1 (tgt := 11) d_Sw_option_2 (by decide) (fun h1 => ?_) (fun h1 => ?_)
  · exact mj_throw hfl h tw_Sw_option_11 (by decide +kernel) d_Sw_option_11 (by decide +kernel) (by decide +kernel) (by decide +kernel) (by decide +kernel) (by decide) (by decide) (by decide) (by decide)
  · refine mj_blk h.1 b_Sw_option_5 rfl trivial ?_
    refine mj_icle h.1 (tgt := 21) d_Sw_option_8 (by decide) (fun h2 => ?_) (fun h2 => ?_)
    · refine mj_blk h.1 b_Sw_option_21 rfl trivial ?_
      refine mj_iflt h.1 (tgt := 33) d_Sw_option_23 (by decide) (fun h3 => ?_) (fun h3 => ?_)
      · exact mj_throw hfl h tw_Sw_option_33 (by decide +kernel) d_Sw_option_33 (by decide +kernel) (by decide +kernel) (by decide +kernel) (by decide +kernel) (by decide) (by decide) (by decide) (by decide)
      · refine mj_blk h.1 b_Sw_option_26 rfl trivial ?_
        refine mj_icle h.1 (tgt := 43) d_Sw_option_30 (by decide) (fun h4 => ?_) (fun h4 => ?_)
        · refine mj_blk h.1 b_Sw_option_43 rfl trivial ?_
          refine mj_iclt h.1 (tgt := 57) d_Sw_option_47 (by decide) (fun h5 => ?_) (fun h5 => ?_)
          · exact mj_throw hfl h tw_Sw_option_57 (by decide +kernel) d_Sw_option_57 (by decide +kernel) (by decide +kernel) (by decide +kernel) (by decide +kernel) (by decide) (by decide) (by decide) (by decide)
          · refine mj_blk h.1 b_Sw_option_50 rfl trivial ?_
            refine mj_icle h.1 (tgt := 67) d_Sw_option_54 (by decide) (fun h6 => ?_) (fun h6 => ?_)
            · refine mj_blk h.1 b_Sw_option_67 rfl trivial ?_
              refine mj_iflt h.1 (tgt := 79) d_Sw_option_69 (by decide) (fun h7 => ?_) (fun h7 => ?_)
              · exact mj_throw hfl h tw_Sw_option_79 (by decide +kernel) d_Sw_option_79 (by decide +kernel) (by decide +kernel) (by decide +kernel) (by decide +kernel) (by decide) (by decide) (by decide) (by decide)
              · refine mj_blk h.1 b_Sw_option_72 rfl trivial ?_
                refine mj_icle h.1 (tgt := 89) d_Sw_option_76 (by decide) (fun h8 => ?_) (fun h8 => ?_)
                · exact absurd ⟨h1, Int32.not_lt.mpr h2, h3, Int32.not_lt.mpr h4, h5, Int32.not_lt.mpr h6, h7, h8⟩ hb
                · exact mj_throw hfl h tw_Sw_option_79 (by decide +kernel) d_Sw_option_79 (by decide +kernel) (by decide +kernel) (by decide +kernel) (by decide +kernel) (by decide) (by decide) (by decide) (by decide)
            · exact mj_throw hfl h tw_Sw_option_57 (by decide +kernel) d_Sw_option_57 (by decide +kernel) (by decide +kernel) (by decide +kernel) (by decide +kernel) (by decide) (by decide) (by decide) (by decide)
        · exact mj_throw hfl h tw_Sw_option_33 (by decide +kernel) d_Sw_option_33 (by decide +kernel) (by decide +kernel) (by decide +kernel) (by decide +kernel) (by decide) (by decide) (by decide) (by decide)
    · exact mj_throw hfl h tw_Sw_option_11 (by decide +kernel) d_Sw_option_11 (by decide +kernel) (by decide +kernel) (by decide +kernel) (by decide +kernel) (by decide) (by decide) (by decide) (by decide)
set_option maxRecDepth 100000 in
set_option maxHeartbeats 8000000 in
theorem evT_Sw_option0 (l : Launch) (hfl : l.flags = pinnedFlags ++ [noTraceFlag]) (D : va_G) (cA : Nat → ClassId) (st : Bool) (n0 : Nat) (c : Int32) (v : Int64) (m a b : Int32) (hg : ¬ c < 1 ∧ ¬ 6 < c ∧ ¬ m < 0 ∧ ¬ 7 < m ∧ ¬ a < -80 ∧ ¬ 80 < a ∧ ¬ b < 0 ∧ b ≤ 80) : mj_EvT zG l D cA m_Sw_option 6 100 1 6 [.ref 50, .int c, .long v, .int m, .int a, .int b] [(50, cSw st 0), (53, cRs [none, none, none, none, none, none])] TLx n0 "java/lang/IllegalStateException" := by
  refine mj_evT (lv := [(0, .ref 50), (1, .int c), (2, .long v), (4, .int m), (5, .int a), (6, .int b)]) (by decide +kernel) (Nat.le_of_ble_eq_true rfl) rfl (fun X h => ?_)
  refine mj_blk h.1 b_Sw_option_0 rfl trivial ?_
  refine mj_iclt h.1 (tgt := 11) d_Sw_option_2 (by decide) (fun h1 => ?_) (fun h1 => ?_)
  · exact absurd h1 hg.1
  · refine mj_blk h.1 b_Sw_option_5 rfl trivial ?_
    refine mj_icle h.1 (tgt := 21) d_Sw_option_8 (by decide) (fun h2 => ?_) (fun h2 => ?_)
    · refine mj_blk h.1 b_Sw_option_21 rfl trivial ?_
      refine mj_iflt h.1 (tgt := 33) d_Sw_option_23 (by decide) (fun h3 => ?_) (fun h3 => ?_)
      · exact absurd h3 hg.2.2.1
      · refine mj_blk h.1 b_Sw_option_26 rfl trivial ?_
        refine mj_icle h.1 (tgt := 43) d_Sw_option_30 (by decide) (fun h4 => ?_) (fun h4 => ?_)
        · refine mj_blk h.1 b_Sw_option_43 rfl trivial ?_
          refine mj_iclt h.1 (tgt := 57) d_Sw_option_47 (by decide) (fun h5 => ?_) (fun h5 => ?_)
          · exact absurd h5 hg.2.2.2.2.1
          · refine mj_blk h.1 b_Sw_option_50 rfl trivial ?_
            refine mj_icle h.1 (tgt := 67) d_Sw_option_54 (by decide) (fun h6 => ?_) (fun h6 => ?_)
            · refine mj_blk h.1 b_Sw_option_67 rfl trivial ?_
              refine mj_iflt h.1 (tgt := 79) d_Sw_option_69 (by decide) (fun h7 => ?_) (fun h7 => ?_)
              · exact absurd h7 hg.2.2.2.2.2.2.1
              · refine mj_blk h.1 b_Sw_option_72 rfl trivial ?_
                refine mj_icle h.1 (tgt := 89) d_Sw_option_76 (by decide) (fun h8 => ?_) (fun h8 => ?_)
                · refine mj_blk h.1 b_Sw_option_89 rfl trivial ?_
                  refine mj_callVq (mj_ET_q h) zGood (ev_Sw_ruleAt_no l D cA st 0 [none, none, none, none, none, none] (nI 0 - 1) (Or.inl (by decide))) v_Sw_ruleAt l_Sw_option_96 d_Sw_option_96 rfl ⟨by decide, by decide⟩ ⟨by decide, by decide⟩ [] rfl rfl rfl rfl rfl rfl (Nat.le_of_ble_eq_true rfl) ?_
                  rintro _ _ ⟨rfl, rfl⟩
                  refine mj_k rfl rfl ?_
                  refine mj_blk h.1 b_Sw_option_99 rfl trivial ?_
                  refine mj_ifnonnull_n h.1 d_Sw_option_103 ?_
                  exact mj_throw hfl h tw_Sw_option_106 (by decide +kernel) d_Sw_option_106 (by decide +kernel) (by decide +kernel) (by decide +kernel) (by decide +kernel) (by decide) (by decide) (by decide) (by decide)
                · exact absurd hg.2.2.2.2.2.2.2 h8
            · exact absurd (Int32.not_lt.mp hg.2.2.2.2.2.1) h6
        · exact absurd (Int32.not_lt.mp hg.2.2.2.1) h4
    · exact absurd (Int32.not_lt.mp hg.2.1) h2
set_option maxRecDepth 100000 in
set_option maxHeartbeats 8000000 in
theorem evT_Sw_option_1 (l : Launch) (hfl : l.flags = pinnedFlags ++ [noTraceFlag]) (D : va_G) (cA : Nat → ClassId) (st : Bool) (n0 : Nat) (c : Int32) (v : Int64) (m a b : Int32) (wy pt : Int32) (hg : ¬ c < 1 ∧ ¬ 6 < c ∧ ¬ m < 0 ∧ ¬ 7 < m ∧ ¬ a < -80 ∧ ¬ 80 < a ∧ ¬ b < 0 ∧ b ≤ 80) : mj_EvT zG l D cA m_Sw_option 6 100 1 6 [.ref 50, .int c, .long v, .int m, .int a, .int b] [(50, cSw st 1), (53, cRs [some 100, none, none, none, none, none]), (100, cRu 101 wy pt 3)] TLx n0 "java/lang/IllegalStateException" := by
  refine mj_evT (lv := [(0, .ref 50), (1, .int c), (2, .long v), (4, .int m), (5, .int a), (6, .int b)]) (by decide +kernel) (Nat.le_of_ble_eq_true rfl) rfl (fun X h => ?_)
  refine mj_blk h.1 b_Sw_option_0 rfl trivial ?_
  refine mj_iclt h.1 (tgt := 11) d_Sw_option_2 (by decide) (fun h1 => ?_) (fun h1 => ?_)
  · exact absurd h1 hg.1
  · refine mj_blk h.1 b_Sw_option_5 rfl trivial ?_
    refine mj_icle h.1 (tgt := 21) d_Sw_option_8 (by decide) (fun h2 => ?_) (fun h2 => ?_)
    · refine mj_blk h.1 b_Sw_option_21 rfl trivial ?_
      refine mj_iflt h.1 (tgt := 33) d_Sw_option_23 (by decide) (fun h3 => ?_) (fun h3 => ?_)
      · exact absurd h3 hg.2.2.1
      · refine mj_blk h.1 b_Sw_option_26 rfl trivial ?_
        refine mj_icle h.1 (tgt := 43) d_Sw_option_30 (by decide) (fun h4 => ?_) (fun h4 => ?_)
        · refine mj_blk h.1 b_Sw_option_43 rfl trivial ?_
          refine mj_iclt h.1 (tgt := 57) d_Sw_option_47 (by decide) (fun h5 => ?_) (fun h5 => ?_)
          · exact absurd h5 hg.2.2.2.2.1
          · refine mj_blk h.1 b_Sw_option_50 rfl trivial ?_
            refine mj_icle h.1 (tgt := 67) d_Sw_option_54 (by decide) (fun h6 => ?_) (fun h6 => ?_)
            · refine mj_blk h.1 b_Sw_option_67 rfl trivial ?_
              refine mj_iflt h.1 (tgt := 79) d_Sw_option_69 (by decide) (fun h7 => ?_) (fun h7 => ?_)
              · exact absurd h7 hg.2.2.2.2.2.2.1
              · refine mj_blk h.1 b_Sw_option_72 rfl trivial ?_
                refine mj_icle h.1 (tgt := 89) d_Sw_option_76 (by decide) (fun h8 => ?_) (fun h8 => ?_)
                · refine mj_blk h.1 b_Sw_option_89 rfl trivial ?_
                  rw [show nI 1 - 1 = nI 0 from rfl]
                  refine mj_callVq (mj_ET_q h) zGood (ev_Sw_ruleAt l D cA st 1 (by decide) [some 100, none, none, none, none, none] 0 100 (by decide) rfl) v_Sw_ruleAt l_Sw_option_96 d_Sw_option_96 rfl ⟨by decide, by decide⟩ ⟨by decide, by decide⟩ [] rfl rfl rfl rfl rfl rfl (Nat.le_of_ble_eq_true rfl) ?_
                  rintro _ _ ⟨rfl, rfl⟩
                  refine mj_k rfl rfl ?_
                  refine mj_blk h.1 b_Sw_option_99 rfl trivial ?_
                  refine mj_ifnonnull_r h.1 d_Sw_option_103 (tgt := 116) (by decide) ?_
                  refine mj_blk h.1 b_Sw_option_116 rfl trivial ?_
                  refine mj_callVq (mj_ET_q h) zGood (ev_Ru_size l D cA wy pt 3) v_Ru_size l_Sw_option_118 d_Sw_option_118 rfl ⟨by decide, by decide⟩ ⟨by decide, by decide⟩ [(0, 100), (1, 101)] rfl rfl rfl rfl rfl rfl (Nat.le_of_ble_eq_true rfl) ?_
                  rintro _ _ ⟨rfl, rfl⟩
                  refine mj_k rfl rfl ?_
                  refine mj_blk h.1 b_Sw_option_121 rfl trivial ?_
                  refine mj_iclt h.1 (tgt := 135) d_Sw_option_122 (by decide) (fun h9 => ?_) (fun h9 => ?_)
                  · exact absurd h9 (by decide)
                  · exact mj_throw hfl h tw_Sw_option_125 (by decide +kernel) d_Sw_option_125 (by decide +kernel) (by decide +kernel) (by decide +kernel) (by decide +kernel) (by decide) (by decide) (by decide) (by decide)
                · exact absurd hg.2.2.2.2.2.2.2 h8
            · exact absurd (Int32.not_lt.mp hg.2.2.2.2.2.1) h6
        · exact absurd (Int32.not_lt.mp hg.2.2.2.1) h4
    · exact absurd (Int32.not_lt.mp hg.2.1) h2
set_option maxRecDepth 100000 in
set_option maxHeartbeats 8000000 in
theorem evT_Sw_option_2 (l : Launch) (hfl : l.flags = pinnedFlags ++ [noTraceFlag]) (D : va_G) (cA : Nat → ClassId) (st : Bool) (n0 : Nat) (c : Int32) (v : Int64) (m a b : Int32) (wy pt : Int32) (hg : ¬ c < 1 ∧ ¬ 6 < c ∧ ¬ m < 0 ∧ ¬ 7 < m ∧ ¬ a < -80 ∧ ¬ 80 < a ∧ ¬ b < 0 ∧ b ≤ 80) : mj_EvT zG l D cA m_Sw_option 6 100 1 6 [.ref 50, .int c, .long v, .int m, .int a, .int b] [(50, cSw st 2), (53, cRs [some 100, some 110, none, none, none, none]), (110, cRu 111 wy pt 3)] TLx n0 "java/lang/IllegalStateException" := by
  refine mj_evT (lv := [(0, .ref 50), (1, .int c), (2, .long v), (4, .int m), (5, .int a), (6, .int b)]) (by decide +kernel) (Nat.le_of_ble_eq_true rfl) rfl (fun X h => ?_)
  refine mj_blk h.1 b_Sw_option_0 rfl trivial ?_
  refine mj_iclt h.1 (tgt := 11) d_Sw_option_2 (by decide) (fun h1 => ?_) (fun h1 => ?_)
  · exact absurd h1 hg.1
  · refine mj_blk h.1 b_Sw_option_5 rfl trivial ?_
    refine mj_icle h.1 (tgt := 21) d_Sw_option_8 (by decide) (fun h2 => ?_) (fun h2 => ?_)
    · refine mj_blk h.1 b_Sw_option_21 rfl trivial ?_
      refine mj_iflt h.1 (tgt := 33) d_Sw_option_23 (by decide) (fun h3 => ?_) (fun h3 => ?_)
      · exact absurd h3 hg.2.2.1
      · refine mj_blk h.1 b_Sw_option_26 rfl trivial ?_
        refine mj_icle h.1 (tgt := 43) d_Sw_option_30 (by decide) (fun h4 => ?_) (fun h4 => ?_)
        · refine mj_blk h.1 b_Sw_option_43 rfl trivial ?_
          refine mj_iclt h.1 (tgt := 57) d_Sw_option_47 (by decide) (fun h5 => ?_) (fun h5 => ?_)
          · exact absurd h5 hg.2.2.2.2.1
          · refine mj_blk h.1 b_Sw_option_50 rfl trivial ?_
            refine mj_icle h.1 (tgt := 67) d_Sw_option_54 (by decide) (fun h6 => ?_) (fun h6 => ?_)
            · refine mj_blk h.1 b_Sw_option_67 rfl trivial ?_
              refine mj_iflt h.1 (tgt := 79) d_Sw_option_69 (by decide) (fun h7 => ?_) (fun h7 => ?_)
              · exact absurd h7 hg.2.2.2.2.2.2.1
              · refine mj_blk h.1 b_Sw_option_72 rfl trivial ?_
                refine mj_icle h.1 (tgt := 89) d_Sw_option_76 (by decide) (fun h8 => ?_) (fun h8 => ?_)
                · refine mj_blk h.1 b_Sw_option_89 rfl trivial ?_
                  rw [show nI 2 - 1 = nI 1 from rfl]
                  refine mj_callVq (mj_ET_q h) zGood (ev_Sw_ruleAt l D cA st 2 (by decide) [some 100, some 110, none, none, none, none] 1 110 (by decide) rfl) v_Sw_ruleAt l_Sw_option_96 d_Sw_option_96 rfl ⟨by decide, by decide⟩ ⟨by decide, by decide⟩ [] rfl rfl rfl rfl rfl rfl (Nat.le_of_ble_eq_true rfl) ?_
                  rintro _ _ ⟨rfl, rfl⟩
                  refine mj_k rfl rfl ?_
                  refine mj_blk h.1 b_Sw_option_99 rfl trivial ?_
                  refine mj_ifnonnull_r h.1 d_Sw_option_103 (tgt := 116) (by decide) ?_
                  refine mj_blk h.1 b_Sw_option_116 rfl trivial ?_
                  refine mj_callVq (mj_ET_q h) zGood (ev_Ru_size l D cA wy pt 3) v_Ru_size l_Sw_option_118 d_Sw_option_118 rfl ⟨by decide, by decide⟩ ⟨by decide, by decide⟩ [(0, 110), (1, 111)] rfl rfl rfl rfl rfl rfl (Nat.le_of_ble_eq_true rfl) ?_
                  rintro _ _ ⟨rfl, rfl⟩
                  refine mj_k rfl rfl ?_
                  refine mj_blk h.1 b_Sw_option_121 rfl trivial ?_
                  refine mj_iclt h.1 (tgt := 135) d_Sw_option_122 (by decide) (fun h9 => ?_) (fun h9 => ?_)
                  · exact absurd h9 (by decide)
                  · exact mj_throw hfl h tw_Sw_option_125 (by decide +kernel) d_Sw_option_125 (by decide +kernel) (by decide +kernel) (by decide +kernel) (by decide +kernel) (by decide) (by decide) (by decide) (by decide)
                · exact absurd hg.2.2.2.2.2.2.2 h8
            · exact absurd (Int32.not_lt.mp hg.2.2.2.2.2.1) h6
        · exact absurd (Int32.not_lt.mp hg.2.2.2.1) h4
    · exact absurd (Int32.not_lt.mp hg.2.1) h2
set_option maxRecDepth 100000 in
set_option maxHeartbeats 8000000 in
theorem evT_Sw_option_3 (l : Launch) (hfl : l.flags = pinnedFlags ++ [noTraceFlag]) (D : va_G) (cA : Nat → ClassId) (st : Bool) (n0 : Nat) (c : Int32) (v : Int64) (m a b : Int32) (wy pt : Int32) (hg : ¬ c < 1 ∧ ¬ 6 < c ∧ ¬ m < 0 ∧ ¬ 7 < m ∧ ¬ a < -80 ∧ ¬ 80 < a ∧ ¬ b < 0 ∧ b ≤ 80) : mj_EvT zG l D cA m_Sw_option 6 100 1 6 [.ref 50, .int c, .long v, .int m, .int a, .int b] [(50, cSw st 3), (53, cRs [some 100, some 110, some 120, none, none, none]), (120, cRu 121 wy pt 3)] TLx n0 "java/lang/IllegalStateException" := by
  refine mj_evT (lv := [(0, .ref 50), (1, .int c), (2, .long v), (4, .int m), (5, .int a), (6, .int b)]) (by decide +kernel) (Nat.le_of_ble_eq_true rfl) rfl (fun X h => ?_)
  refine mj_blk h.1 b_Sw_option_0 rfl trivial ?_
  refine mj_iclt h.1 (tgt := 11) d_Sw_option_2 (by decide) (fun h1 => ?_) (fun h1 => ?_)
  · exact absurd h1 hg.1
  · refine mj_blk h.1 b_Sw_option_5 rfl trivial ?_
    refine mj_icle h.1 (tgt := 21) d_Sw_option_8 (by decide) (fun h2 => ?_) (fun h2 => ?_)
    · refine mj_blk h.1 b_Sw_option_21 rfl trivial ?_
      refine mj_iflt h.1 (tgt := 33) d_Sw_option_23 (by decide) (fun h3 => ?_) (fun h3 => ?_)
      · exact absurd h3 hg.2.2.1
      · refine mj_blk h.1 b_Sw_option_26 rfl trivial ?_
        refine mj_icle h.1 (tgt := 43) d_Sw_option_30 (by decide) (fun h4 => ?_) (fun h4 => ?_)
        · refine mj_blk h.1 b_Sw_option_43 rfl trivial ?_
          refine mj_iclt h.1 (tgt := 57) d_Sw_option_47 (by decide) (fun h5 => ?_) (fun h5 => ?_)
          · exact absurd h5 hg.2.2.2.2.1
          · refine mj_blk h.1 b_Sw_option_50 rfl trivial ?_
            refine mj_icle h.1 (tgt := 67) d_Sw_option_54 (by decide) (fun h6 => ?_) (fun h6 => ?_)
            · refine mj_blk h.1 b_Sw_option_67 rfl trivial ?_
              refine mj_iflt h.1 (tgt := 79) d_Sw_option_69 (by decide) (fun h7 => ?_) (fun h7 => ?_)
              · exact absurd h7 hg.2.2.2.2.2.2.1
              · refine mj_blk h.1 b_Sw_option_72 rfl trivial ?_
                refine mj_icle h.1 (tgt := 89) d_Sw_option_76 (by decide) (fun h8 => ?_) (fun h8 => ?_)
                · refine mj_blk h.1 b_Sw_option_89 rfl trivial ?_
                  rw [show nI 3 - 1 = nI 2 from rfl]
                  refine mj_callVq (mj_ET_q h) zGood (ev_Sw_ruleAt l D cA st 3 (by decide) [some 100, some 110, some 120, none, none, none] 2 120 (by decide) rfl) v_Sw_ruleAt l_Sw_option_96 d_Sw_option_96 rfl ⟨by decide, by decide⟩ ⟨by decide, by decide⟩ [] rfl rfl rfl rfl rfl rfl (Nat.le_of_ble_eq_true rfl) ?_
                  rintro _ _ ⟨rfl, rfl⟩
                  refine mj_k rfl rfl ?_
                  refine mj_blk h.1 b_Sw_option_99 rfl trivial ?_
                  refine mj_ifnonnull_r h.1 d_Sw_option_103 (tgt := 116) (by decide) ?_
                  refine mj_blk h.1 b_Sw_option_116 rfl trivial ?_
                  refine mj_callVq (mj_ET_q h) zGood (ev_Ru_size l D cA wy pt 3) v_Ru_size l_Sw_option_118 d_Sw_option_118 rfl ⟨by decide, by decide⟩ ⟨by decide, by decide⟩ [(0, 120), (1, 121)] rfl rfl rfl rfl rfl rfl (Nat.le_of_ble_eq_true rfl) ?_
                  rintro _ _ ⟨rfl, rfl⟩
                  refine mj_k rfl rfl ?_
                  refine mj_blk h.1 b_Sw_option_121 rfl trivial ?_
                  refine mj_iclt h.1 (tgt := 135) d_Sw_option_122 (by decide) (fun h9 => ?_) (fun h9 => ?_)
                  · exact absurd h9 (by decide)
                  · exact mj_throw hfl h tw_Sw_option_125 (by decide +kernel) d_Sw_option_125 (by decide +kernel) (by decide +kernel) (by decide +kernel) (by decide +kernel) (by decide) (by decide) (by decide) (by decide)
                · exact absurd hg.2.2.2.2.2.2.2 h8
            · exact absurd (Int32.not_lt.mp hg.2.2.2.2.2.1) h6
        · exact absurd (Int32.not_lt.mp hg.2.2.2.1) h4
    · exact absurd (Int32.not_lt.mp hg.2.1) h2
set_option maxRecDepth 100000 in
set_option maxHeartbeats 8000000 in
theorem evT_Sw_option_4 (l : Launch) (hfl : l.flags = pinnedFlags ++ [noTraceFlag]) (D : va_G) (cA : Nat → ClassId) (st : Bool) (n0 : Nat) (c : Int32) (v : Int64) (m a b : Int32) (wy pt : Int32) (hg : ¬ c < 1 ∧ ¬ 6 < c ∧ ¬ m < 0 ∧ ¬ 7 < m ∧ ¬ a < -80 ∧ ¬ 80 < a ∧ ¬ b < 0 ∧ b ≤ 80) : mj_EvT zG l D cA m_Sw_option 6 100 1 6 [.ref 50, .int c, .long v, .int m, .int a, .int b] [(50, cSw st 4), (53, cRs [some 100, some 110, some 120, some 130, none, none]), (130, cRu 131 wy pt 3)] TLx n0 "java/lang/IllegalStateException" := by
  refine mj_evT (lv := [(0, .ref 50), (1, .int c), (2, .long v), (4, .int m), (5, .int a), (6, .int b)]) (by decide +kernel) (Nat.le_of_ble_eq_true rfl) rfl (fun X h => ?_)
  refine mj_blk h.1 b_Sw_option_0 rfl trivial ?_
  refine mj_iclt h.1 (tgt := 11) d_Sw_option_2 (by decide) (fun h1 => ?_) (fun h1 => ?_)
  · exact absurd h1 hg.1
  · refine mj_blk h.1 b_Sw_option_5 rfl trivial ?_
    refine mj_icle h.1 (tgt := 21) d_Sw_option_8 (by decide) (fun h2 => ?_) (fun h2 => ?_)
    · refine mj_blk h.1 b_Sw_option_21 rfl trivial ?_
      refine mj_iflt h.1 (tgt := 33) d_Sw_option_23 (by decide) (fun h3 => ?_) (fun h3 => ?_)
      · exact absurd h3 hg.2.2.1
      · refine mj_blk h.1 b_Sw_option_26 rfl trivial ?_
        refine mj_icle h.1 (tgt := 43) d_Sw_option_30 (by decide) (fun h4 => ?_) (fun h4 => ?_)
        · refine mj_blk h.1 b_Sw_option_43 rfl trivial ?_
          refine mj_iclt h.1 (tgt := 57) d_Sw_option_47 (by decide) (fun h5 => ?_) (fun h5 => ?_)
          · exact absurd h5 hg.2.2.2.2.1
          · refine mj_blk h.1 b_Sw_option_50 rfl trivial ?_
            refine mj_icle h.1 (tgt := 67) d_Sw_option_54 (by decide) (fun h6 => ?_) (fun h6 => ?_)
            · refine mj_blk h.1 b_Sw_option_67 rfl trivial ?_
              refine mj_iflt h.1 (tgt := 79) d_Sw_option_69 (by decide) (fun h7 => ?_) (fun h7 => ?_)
              · exact absurd h7 hg.2.2.2.2.2.2.1
              · refine mj_blk h.1 b_Sw_option_72 rfl trivial ?_
                refine mj_icle h.1 (tgt := 89) d_Sw_option_76 (by decide) (fun h8 => ?_) (fun h8 => ?_)
                · refine mj_blk h.1 b_Sw_option_89 rfl trivial ?_
                  rw [show nI 4 - 1 = nI 3 from rfl]
                  refine mj_callVq (mj_ET_q h) zGood (ev_Sw_ruleAt l D cA st 4 (by decide) [some 100, some 110, some 120, some 130, none, none] 3 130 (by decide) rfl) v_Sw_ruleAt l_Sw_option_96 d_Sw_option_96 rfl ⟨by decide, by decide⟩ ⟨by decide, by decide⟩ [] rfl rfl rfl rfl rfl rfl (Nat.le_of_ble_eq_true rfl) ?_
                  rintro _ _ ⟨rfl, rfl⟩
                  refine mj_k rfl rfl ?_
                  refine mj_blk h.1 b_Sw_option_99 rfl trivial ?_
                  refine mj_ifnonnull_r h.1 d_Sw_option_103 (tgt := 116) (by decide) ?_
                  refine mj_blk h.1 b_Sw_option_116 rfl trivial ?_
                  refine mj_callVq (mj_ET_q h) zGood (ev_Ru_size l D cA wy pt 3) v_Ru_size l_Sw_option_118 d_Sw_option_118 rfl ⟨by decide, by decide⟩ ⟨by decide, by decide⟩ [(0, 130), (1, 131)] rfl rfl rfl rfl rfl rfl (Nat.le_of_ble_eq_true rfl) ?_
                  rintro _ _ ⟨rfl, rfl⟩
                  refine mj_k rfl rfl ?_
                  refine mj_blk h.1 b_Sw_option_121 rfl trivial ?_
                  refine mj_iclt h.1 (tgt := 135) d_Sw_option_122 (by decide) (fun h9 => ?_) (fun h9 => ?_)
                  · exact absurd h9 (by decide)
                  · exact mj_throw hfl h tw_Sw_option_125 (by decide +kernel) d_Sw_option_125 (by decide +kernel) (by decide +kernel) (by decide +kernel) (by decide +kernel) (by decide) (by decide) (by decide) (by decide)
                · exact absurd hg.2.2.2.2.2.2.2 h8
            · exact absurd (Int32.not_lt.mp hg.2.2.2.2.2.1) h6
        · exact absurd (Int32.not_lt.mp hg.2.2.2.1) h4
    · exact absurd (Int32.not_lt.mp hg.2.1) h2
set_option maxRecDepth 100000 in
set_option maxHeartbeats 8000000 in
theorem evT_Sw_option_5 (l : Launch) (hfl : l.flags = pinnedFlags ++ [noTraceFlag]) (D : va_G) (cA : Nat → ClassId) (st : Bool) (n0 : Nat) (c : Int32) (v : Int64) (m a b : Int32) (wy pt : Int32) (hg : ¬ c < 1 ∧ ¬ 6 < c ∧ ¬ m < 0 ∧ ¬ 7 < m ∧ ¬ a < -80 ∧ ¬ 80 < a ∧ ¬ b < 0 ∧ b ≤ 80) : mj_EvT zG l D cA m_Sw_option 6 100 1 6 [.ref 50, .int c, .long v, .int m, .int a, .int b] [(50, cSw st 5), (53, cRs [some 100, some 110, some 120, some 130, some 140, none]), (140, cRu 141 wy pt 3)] TLx n0 "java/lang/IllegalStateException" := by
  refine mj_evT (lv := [(0, .ref 50), (1, .int c), (2, .long v), (4, .int m), (5, .int a), (6, .int b)]) (by decide +kernel) (Nat.le_of_ble_eq_true rfl) rfl (fun X h => ?_)
  refine mj_blk h.1 b_Sw_option_0 rfl trivial ?_
  refine mj_iclt h.1 (tgt := 11) d_Sw_option_2 (by decide) (fun h1 => ?_) (fun h1 => ?_)
  · exact absurd h1 hg.1
  · refine mj_blk h.1 b_Sw_option_5 rfl trivial ?_
    refine mj_icle h.1 (tgt := 21) d_Sw_option_8 (by decide) (fun h2 => ?_) (fun h2 => ?_)
    · refine mj_blk h.1 b_Sw_option_21 rfl trivial ?_
      refine mj_iflt h.1 (tgt := 33) d_Sw_option_23 (by decide) (fun h3 => ?_) (fun h3 => ?_)
      · exact absurd h3 hg.2.2.1
      · refine mj_blk h.1 b_Sw_option_26 rfl trivial ?_
        refine mj_icle h.1 (tgt := 43) d_Sw_option_30 (by decide) (fun h4 => ?_) (fun h4 => ?_)
        · refine mj_blk h.1 b_Sw_option_43 rfl trivial ?_
          refine mj_iclt h.1 (tgt := 57) d_Sw_option_47 (by decide) (fun h5 => ?_) (fun h5 => ?_)
          · exact absurd h5 hg.2.2.2.2.1
          · refine mj_blk h.1 b_Sw_option_50 rfl trivial ?_
            refine mj_icle h.1 (tgt := 67) d_Sw_option_54 (by decide) (fun h6 => ?_) (fun h6 => ?_)
            · refine mj_blk h.1 b_Sw_option_67 rfl trivial ?_
              refine mj_iflt h.1 (tgt := 79) d_Sw_option_69 (by decide) (fun h7 => ?_) (fun h7 => ?_)
              · exact absurd h7 hg.2.2.2.2.2.2.1
              · refine mj_blk h.1 b_Sw_option_72 rfl trivial ?_
                refine mj_icle h.1 (tgt := 89) d_Sw_option_76 (by decide) (fun h8 => ?_) (fun h8 => ?_)
                · refine mj_blk h.1 b_Sw_option_89 rfl trivial ?_
                  rw [show nI 5 - 1 = nI 4 from rfl]
                  refine mj_callVq (mj_ET_q h) zGood (ev_Sw_ruleAt l D cA st 5 (by decide) [some 100, some 110, some 120, some 130, some 140, none] 4 140 (by decide) rfl) v_Sw_ruleAt l_Sw_option_96 d_Sw_option_96 rfl ⟨by decide, by decide⟩ ⟨by decide, by decide⟩ [] rfl rfl rfl rfl rfl rfl (Nat.le_of_ble_eq_true rfl) ?_
                  rintro _ _ ⟨rfl, rfl⟩
                  refine mj_k rfl rfl ?_
                  refine mj_blk h.1 b_Sw_option_99 rfl trivial ?_
                  refine mj_ifnonnull_r h.1 d_Sw_option_103 (tgt := 116) (by decide) ?_
                  refine mj_blk h.1 b_Sw_option_116 rfl trivial ?_
                  refine mj_callVq (mj_ET_q h) zGood (ev_Ru_size l D cA wy pt 3) v_Ru_size l_Sw_option_118 d_Sw_option_118 rfl ⟨by decide, by decide⟩ ⟨by decide, by decide⟩ [(0, 140), (1, 141)] rfl rfl rfl rfl rfl rfl (Nat.le_of_ble_eq_true rfl) ?_
                  rintro _ _ ⟨rfl, rfl⟩
                  refine mj_k rfl rfl ?_
                  refine mj_blk h.1 b_Sw_option_121 rfl trivial ?_
                  refine mj_iclt h.1 (tgt := 135) d_Sw_option_122 (by decide) (fun h9 => ?_) (fun h9 => ?_)
                  · exact absurd h9 (by decide)
                  · exact mj_throw hfl h tw_Sw_option_125 (by decide +kernel) d_Sw_option_125 (by decide +kernel) (by decide +kernel) (by decide +kernel) (by decide +kernel) (by decide) (by decide) (by decide) (by decide)
                · exact absurd hg.2.2.2.2.2.2.2 h8
            · exact absurd (Int32.not_lt.mp hg.2.2.2.2.2.1) h6
        · exact absurd (Int32.not_lt.mp hg.2.2.2.1) h4
    · exact absurd (Int32.not_lt.mp hg.2.1) h2
set_option maxRecDepth 100000 in
set_option maxHeartbeats 8000000 in
theorem evT_Sw_option_6 (l : Launch) (hfl : l.flags = pinnedFlags ++ [noTraceFlag]) (D : va_G) (cA : Nat → ClassId) (st : Bool) (n0 : Nat) (c : Int32) (v : Int64) (m a b : Int32) (wy pt : Int32) (hg : ¬ c < 1 ∧ ¬ 6 < c ∧ ¬ m < 0 ∧ ¬ 7 < m ∧ ¬ a < -80 ∧ ¬ 80 < a ∧ ¬ b < 0 ∧ b ≤ 80) : mj_EvT zG l D cA m_Sw_option 6 100 1 6 [.ref 50, .int c, .long v, .int m, .int a, .int b] [(50, cSw st 6), (53, cRs [some 100, some 110, some 120, some 130, some 140, some 150]), (150, cRu 151 wy pt 3)] TLx n0 "java/lang/IllegalStateException" := by
  refine mj_evT (lv := [(0, .ref 50), (1, .int c), (2, .long v), (4, .int m), (5, .int a), (6, .int b)]) (by decide +kernel) (Nat.le_of_ble_eq_true rfl) rfl (fun X h => ?_)
  refine mj_blk h.1 b_Sw_option_0 rfl trivial ?_
  refine mj_iclt h.1 (tgt := 11) d_Sw_option_2 (by decide) (fun h1 => ?_) (fun h1 => ?_)
  · exact absurd h1 hg.1
  · refine mj_blk h.1 b_Sw_option_5 rfl trivial ?_
    refine mj_icle h.1 (tgt := 21) d_Sw_option_8 (by decide) (fun h2 => ?_) (fun h2 => ?_)
    · refine mj_blk h.1 b_Sw_option_21 rfl trivial ?_
      refine mj_iflt h.1 (tgt := 33) d_Sw_option_23 (by decide) (fun h3 => ?_) (fun h3 => ?_)
      · exact absurd h3 hg.2.2.1
      · refine mj_blk h.1 b_Sw_option_26 rfl trivial ?_
        refine mj_icle h.1 (tgt := 43) d_Sw_option_30 (by decide) (fun h4 => ?_) (fun h4 => ?_)
        · refine mj_blk h.1 b_Sw_option_43 rfl trivial ?_
          refine mj_iclt h.1 (tgt := 57) d_Sw_option_47 (by decide) (fun h5 => ?_) (fun h5 => ?_)
          · exact absurd h5 hg.2.2.2.2.1
          · refine mj_blk h.1 b_Sw_option_50 rfl trivial ?_
            refine mj_icle h.1 (tgt := 67) d_Sw_option_54 (by decide) (fun h6 => ?_) (fun h6 => ?_)
            · refine mj_blk h.1 b_Sw_option_67 rfl trivial ?_
              refine mj_iflt h.1 (tgt := 79) d_Sw_option_69 (by decide) (fun h7 => ?_) (fun h7 => ?_)
              · exact absurd h7 hg.2.2.2.2.2.2.1
              · refine mj_blk h.1 b_Sw_option_72 rfl trivial ?_
                refine mj_icle h.1 (tgt := 89) d_Sw_option_76 (by decide) (fun h8 => ?_) (fun h8 => ?_)
                · refine mj_blk h.1 b_Sw_option_89 rfl trivial ?_
                  rw [show nI 6 - 1 = nI 5 from rfl]
                  refine mj_callVq (mj_ET_q h) zGood (ev_Sw_ruleAt l D cA st 6 (by decide) [some 100, some 110, some 120, some 130, some 140, some 150] 5 150 (by decide) rfl) v_Sw_ruleAt l_Sw_option_96 d_Sw_option_96 rfl ⟨by decide, by decide⟩ ⟨by decide, by decide⟩ [] rfl rfl rfl rfl rfl rfl (Nat.le_of_ble_eq_true rfl) ?_
                  rintro _ _ ⟨rfl, rfl⟩
                  refine mj_k rfl rfl ?_
                  refine mj_blk h.1 b_Sw_option_99 rfl trivial ?_
                  refine mj_ifnonnull_r h.1 d_Sw_option_103 (tgt := 116) (by decide) ?_
                  refine mj_blk h.1 b_Sw_option_116 rfl trivial ?_
                  refine mj_callVq (mj_ET_q h) zGood (ev_Ru_size l D cA wy pt 3) v_Ru_size l_Sw_option_118 d_Sw_option_118 rfl ⟨by decide, by decide⟩ ⟨by decide, by decide⟩ [(0, 150), (1, 151)] rfl rfl rfl rfl rfl rfl (Nat.le_of_ble_eq_true rfl) ?_
                  rintro _ _ ⟨rfl, rfl⟩
                  refine mj_k rfl rfl ?_
                  refine mj_blk h.1 b_Sw_option_121 rfl trivial ?_
                  refine mj_iclt h.1 (tgt := 135) d_Sw_option_122 (by decide) (fun h9 => ?_) (fun h9 => ?_)
                  · exact absurd h9 (by decide)
                  · exact mj_throw hfl h tw_Sw_option_125 (by decide +kernel) d_Sw_option_125 (by decide +kernel) (by decide +kernel) (by decide +kernel) (by decide +kernel) (by decide) (by decide) (by decide) (by decide)
                · exact absurd hg.2.2.2.2.2.2.2 h8
            · exact absurd (Int32.not_lt.mp hg.2.2.2.2.2.1) h6
        · exact absurd (Int32.not_lt.mp hg.2.2.2.1) h4
    · exact absurd (Int32.not_lt.mp hg.2.1) h2
