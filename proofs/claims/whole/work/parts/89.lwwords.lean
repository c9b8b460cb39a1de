/-! the words on throws, from the law's start on -/
def tlA : Cond := .isRef (.static "java/lang/Throwable" "UNASSIGNED_STACK" "[Ljava/lang/StackTraceElement;")
def tlB : Cond := .isRef (.static "java/lang/Throwable" "SUPPRESSED_SENTINEL" "Ljava/util/List;")
def tlC : Cond := .not (.castable "java/lang/IllegalStateException" "java/lang/IllegalArgumentException")
abbrev tlP (c : Cond) : Prop := c ∈ lw_tbl ∨ c = tlA ∨ c = tlB ∨ c = tlC
set_option maxRecDepth 100000 in
theorem tl_ia : ∀ c ∈ Bundle.ownAtoms "StreamWatch" 62 "java/lang/IllegalArgumentException" ["java/lang/RuntimeException", "java/lang/Exception"], tlP c := by decide +kernel
set_option maxRecDepth 100000 in
theorem tl_is : ∀ c ∈ Bundle.ownAtoms "StreamWatch" 147 "java/lang/IllegalStateException" ["java/lang/RuntimeException", "java/lang/Exception"], tlP c := by decide +kernel
set_option maxRecDepth 100000 in
theorem tl_h1 : ∀ c ∈ [Cond.classLink "StreamWatch" 58 "java/lang/IllegalArgumentException", Cond.initialized "java/lang/IllegalArgumentException", Cond.classLink "StreamWatch" 143 "java/lang/IllegalStateException", Cond.initialized "java/lang/IllegalStateException"], tlP c := by decide +kernel
set_option maxRecDepth 100000 in
theorem tl_str : ∀ c ∈ [Cond.stringRef "StreamWatch" 60 "c is not 0 .. 7", Cond.stringRef "StreamWatch" 65 "way is not 0 or 1", Cond.stringRef "StreamWatch" 67 "n is not 0 .. 8", Cond.stringRef "StreamWatch" 138 "way is not 0 .. 2", Cond.stringRef "StreamWatch" 141 "port is not 0 .. 65535", Cond.stringRef "StreamWatch" 145 "there are 6 rules", Cond.stringRef "StreamWatch" 151 "n is not 1 .. 6", Cond.stringRef "StreamWatch" 153 "marks is not 0 .. 7", Cond.stringRef "StreamWatch" 155 "least is not -80 .. 80", Cond.stringRef "StreamWatch" 157 "span is not 0 .. 80", Cond.stringRef "StreamWatch" 163 "there is no rule", Cond.stringRef "StreamWatch" 166 "the rule has 3 options"], tlP c := by decide +kernel
theorem tl_own {ik is ic : Nat} {cls text : String} (h1 : tlP (Cond.classLink "StreamWatch" ik cls)) (h2 : tlP (Cond.initialized cls)) (h3 : tlP (Cond.stringRef "StreamWatch" is text)) (h4 : ∀ c ∈ Bundle.ownAtoms "StreamWatch" ic cls ["java/lang/RuntimeException", "java/lang/Exception"], tlP c) : ∀ c ∈ mj_tw "StreamWatch" ik is ic cls text, tlP c := by
  intro c hc
  rcases List.mem_cons.mp hc with rfl | hc
  · exact h1
  rcases List.mem_cons.mp hc with rfl | hc
  · exact h2
  rcases List.mem_cons.mp hc with rfl | hc
  · exact h3
  exact h4 c hc
theorem tl_i1 : tlP (Cond.classLink "StreamWatch" 58 "java/lang/IllegalArgumentException") := tl_h1 _ (List.mem_of_getElem? (i := 0) rfl)
theorem tl_i2 : tlP (Cond.initialized "java/lang/IllegalArgumentException") := tl_h1 _ (List.mem_of_getElem? (i := 1) rfl)
theorem tl_j1 : tlP (Cond.classLink "StreamWatch" 143 "java/lang/IllegalStateException") := tl_h1 _ (List.mem_of_getElem? (i := 2) rfl)
theorem tl_j2 : tlP (Cond.initialized "java/lang/IllegalStateException") := tl_h1 _ (List.mem_of_getElem? (i := 3) rfl)
theorem tl_all : ∀ c ∈ TLx, tlP c := by
  intro c hc
  unfold TLx at hc
  rcases List.mem_append.mp hc with hc | hc
  · exact tl_own tl_i1 tl_i2 (tl_str _ (List.mem_of_getElem? (i := 0) rfl)) tl_ia c hc
  rcases List.mem_append.mp hc with hc | hc
  · exact tl_own tl_i1 tl_i2 (tl_str _ (List.mem_of_getElem? (i := 1) rfl)) tl_ia c hc
  rcases List.mem_append.mp hc with hc | hc
  · exact tl_own tl_i1 tl_i2 (tl_str _ (List.mem_of_getElem? (i := 2) rfl)) tl_ia c hc
  rcases List.mem_append.mp hc with hc | hc
  · exact tl_own tl_i1 tl_i2 (tl_str _ (List.mem_of_getElem? (i := 3) rfl)) tl_ia c hc
  rcases List.mem_append.mp hc with hc | hc
  · exact tl_own tl_i1 tl_i2 (tl_str _ (List.mem_of_getElem? (i := 4) rfl)) tl_ia c hc
  rcases List.mem_append.mp hc with hc | hc
  · exact tl_own tl_j1 tl_j2 (tl_str _ (List.mem_of_getElem? (i := 5) rfl)) tl_is c hc
  rcases List.mem_append.mp hc with hc | hc
  · exact tl_own tl_i1 tl_i2 (tl_str _ (List.mem_of_getElem? (i := 6) rfl)) tl_ia c hc
  rcases List.mem_append.mp hc with hc | hc
  · exact tl_own tl_i1 tl_i2 (tl_str _ (List.mem_of_getElem? (i := 7) rfl)) tl_ia c hc
  rcases List.mem_append.mp hc with hc | hc
  · exact tl_own tl_i1 tl_i2 (tl_str _ (List.mem_of_getElem? (i := 8) rfl)) tl_ia c hc
  rcases List.mem_append.mp hc with hc | hc
  · exact tl_own tl_i1 tl_i2 (tl_str _ (List.mem_of_getElem? (i := 9) rfl)) tl_ia c hc
  rcases List.mem_append.mp hc with hc | hc
  · exact tl_own tl_j1 tl_j2 (tl_str _ (List.mem_of_getElem? (i := 10) rfl)) tl_is c hc
  rcases List.mem_append.mp hc with hc | hc
  · exact tl_own tl_j1 tl_j2 (tl_str _ (List.mem_of_getElem? (i := 11) rfl)) tl_is c hc
  rcases List.mem_singleton.mp hc with rfl
  exact Or.inr (Or.inr (Or.inr rfl))
def thK : Cond → Bool
  | .stringRef _ _ _ => true
  | .not (.castable _ _) => true
  | .isRef (.static _ _ _) => true
  | .laysStatic C _ _ => decide (C = "java/lang/Throwable")
  | c => goodWord c || (c.onTables && c.keepsFace)
set_option maxRecDepth 100000 in
theorem tl_kind : TLx.all thK = true := by decide +kernel
theorem th_move {c : Cond} {a A : Array Value} {s V : State} (hk : thK c = true) (hb : c.before a s = true) (hW : s.WarmedH V.vm) (hh : ∀ q, q < s.heap.size → V.heap[q]? = s.heap[q]?) : c.before A V = true := by
  by_cases hg : goodWord c = true
  · exact word_at hW (good_of_word hg) hb
  by_cases hf : (c.onTables && c.keepsFace) = true
  · exact RoadKit.mv hW.wide hb hf
  have hkept : ∀ (q : Addr) (cell : Cell), s.heap[q]? = some cell → V.heap[q]? = some cell := fun q cell h => by
    rw [hh q (Array.getElem?_eq_some_iff.mp h).1]
    exact h
  have hno : (goodWord c || (c.onTables && c.keepsFace)) = false := by
    rw [Bool.or_eq_false_iff]
    exact ⟨by simpa using hg, by simpa using hf⟩
  cases c with
  | stringRef cls idx text =>
    have h1 := Cond.stringRef_warmed hW hb
    exact h1
  | not d =>
    cases d with
    | castable x y => exact Cond.notCastable_moved (T := V) hW.alike hb
    | _ => exact absurd (hk.symm.trans hno) (by decide)
  | isRef t =>
    cases t with
    | static C n d =>
      simp only [Cond.before, Cond.holds, Cond.value] at hb ⊢
      cases he : (Term.static C n d).eval a s none [] s with
      | none => rw [he] at hb; cases hb
      | some v =>
        rw [he] at hb
        rw [static_eval_keep hW.alike (StaticsKept.of_kept hkept) he]
        exact hb
    | _ => exact absurd (hk.symm.trans hno) (by decide)
  | laysStatic C F D =>
    have hC : C = "java/lang/Throwable" := of_decide_eq_true hk
    subst hC
    exact RoadKit.ThS.lays (Z := s) (s := V) (fun st k cl cell _ _ _ h _ => hkept st cell h) hW.wide hb
  | _ => exact absurd (hk.symm.trans hno) (by decide)
theorem lw_Th {s : State} {a : Array Value} (hts : ∀ w ∈ lw_tbl, w.before a s = true) (hA : tlA.before a s = true) (hB : tlB.before a s = true) (hC : tlC.before a s = true) : mj_Th TLx s.heap.size s := by
  intro A V hW hh c hc
  have hb : c.before a s = true := by
    rcases tl_all c hc with h | h | h | h
    · exact hts c h
    · rw [h]; exact hA
    · rw [h]; exact hB
    · rw [h]; exact hC
  exact th_move (List.all_eq_true.mp tl_kind c hc) hb hW hh
