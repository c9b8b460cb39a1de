/-! exceptions that the class makes and throws -/
/-- a point of a walk as a start of its own: nothing written since, the room that is left -/
theorem mj_rebase {p : Program} {l : Launch} {e : Env} {R : Room} {s : State} {m : MethodId} {args : Array Value} {below : List Frame} {meth : Method} {c : Code} {T : State} {locs : List Loc} {cells slots k n : Nat} (X : Stand p l e R s m args below meth c T locs cells slots) (hc : cells + k ≤ R.cells) (hs : slots + n ≤ R.slots) :
    Stand p l e { frames := R.frames, cells := k, slots := n, locals := R.locals } { s with heap := T.heap, slotsUsed := T.slotsUsed } m args below meth c T [] 0 0 := by
  have hroom : ({ s with heap := T.heap, slotsUsed := T.slotsUsed } : State).hasRoom e.platform { frames := R.frames, cells := k, slots := n, locals := R.locals } = true := by
    have h0 := X.room
    have h1 := X.cellsAbove hc
    have h2 := X.slotsAbove hs
    have h3 := X.book
    simp only [State.hasRoom, Bool.and_eq_true, decide_eq_true_eq] at h0 ⊢
    exact ⟨⟨⟨h0.1.1.1, h1⟩, h2⟩, h3⟩
  refine ⟨X.admits, X.cas, X.clock, X.frames, hroom, X.hears, X.method, X.code, X.here, X.tail, X.warmed, X.limits, X.bytes, ?_⟩
  have h1 := X.same.1
  refine ⟨?_, Nat.le_refl _, Nat.le_refl _, ?_, ?_, ?_⟩
  · exact h1
  · show T.slotsUsed = T.slotsUsed + ((T.heap.toList.drop T.heap.size).map (·.slots.size)).sum
    rw [List.drop_of_length_le (by rw [Array.length_toList]; exact Nat.le_refl _)]; rfl
  · show ((T.heap.toList.drop T.heap.size).map (·.slots.size)).sum ≤ 0
    rw [List.drop_of_length_le (by rw [Array.length_toList]; exact Nat.le_refl _)]; exact Nat.le_refl _
  · intro a c hc
    exact ⟨c, hc, rfl, rfl, fun i _ => rfl⟩
theorem mj_sameOld {s U : State} {k n : Nat} (h : s.sameButNew U [] k n) : s.heap.size ≤ U.heap.size ∧ ∀ q : Nat, q < s.heap.size → U.heap[q]? = s.heap[q]? := by
  refine ⟨h.2.1, fun q hq => ?_⟩
  obtain ⟨c', h1, h2, h3, h4⟩ := h.2.2.2.2.2 q _ (Array.getElem?_eq_getElem hq)
  rw [h1, Array.getElem?_eq_getElem hq, h2]
  have : c'.slots = s.heap[q].slots := Array.ext_getElem? (fun i => h4 i (fun z => by cases z))
  rw [this]
/-- the words TL hold, whatever comes behind the first n cells -/
def mj_Th (TL : List Cond) (n : Nat) (U : State) : Prop := ∀ (A : Array Value) (V : State), U.WarmedH V.vm → (∀ q, q < n → V.heap[q]? = U.heap[q]?) → ∀ c ∈ TL, c.before A V = true
theorem mj_Th_go {TL : List Cond} {n : Nat} {U V : State} (h : mj_Th TL n U) (hW : U.WarmedH V.vm) (hh : ∀ q, q < n → V.heap[q]? = U.heap[q]?) : mj_Th TL n V :=
  fun A V2 hW2 hh2 c hc => h A V2 (State.WarmedH.trans hW hW2) (fun q hq => by rw [hh2 q hq, hh q hq]) c hc
/-- the words on a throw of cls from own: its class's entry, its text's, its constructor's -/
def mj_tw (own : String) (ik is ic : Nat) (cls text : String) : List Cond := Cond.classLink own ik cls :: Cond.initialized cls :: Cond.stringRef own is text :: Bundle.ownAtoms own ic cls ["java/lang/RuntimeException", "java/lang/Exception"]
/-- the end of a method that threw a new cls -/
def mj_QT (D : va_G) (G : mj_G) (cA : Nat → ClassId) (ad : Nat → Nat) (w : mj_M) (A : Nat → Prop) (cls : String) (mc ms : Nat) : Array Value → State → Outcome → State → Prop := fun _ st o t =>
  ∃ (q : Addr) (ce : Cell), o = .threw q ∧ t.heap[q]? = some ce ∧ ce.vm = .none ∧ t.vm.findClass cls = some ce.cls ∧ st.heap.size ≤ q ∧ va_P D G.1 (mj_w ad cA w) t.heap ∧ va_F A st t ∧ ∃ L, Jvm.Free.FrameEndT st o t L mc ms ∧ ∀ z ∈ L, A z.base
def mj_EvT (G : mj_G) (l : Launch) (D : va_G) (cA : Nat → ClassId) (Y : mj_N) (fr lo mc ms : Nat) (args : List Value) (w : mj_M) (TL : List Cond) (n : Nat) (cls : String) : Prop :=
  ∀ (ad : Nat → Nat) (sz : Nat), MetFree l Y.1 (headSpec (Cond.code Y.1 Y.2.1 Y.2.2.1 Y.2.2.2 :: G.2.1) { frames := fr, cells := mc, slots := ms, locals := lo }) (va_Pc (args.map (mj_v ad)) (fun U => U.heap.size = sz ∧ va_P D G.1 (mj_w ad cA w) U.heap ∧ va_K D G.1 (mj_tys cA G.2.2) U ∧ va_D (fun q => n ≤ q) (mj_w ad cA w) ∧ n ≤ sz ∧ mj_Th TL n U)) (fun _ _ _ _ _ => True) (mj_QT D G cA ad w (va_A (mj_w ad cA w) sz) cls mc ms)
def mj_FT (G : mj_G) (X : mj_X) (l : Launch) (D : va_G) (cA : Nat → ClassId) (fr lo mc ms : Nat) (w : mj_M) (TL : List Cond) (n : Nat) (cls : String) : Prop := match X with
  | (_, l', _, R, s, _, args, below, meth, c, Q, D', cA', A, ad0, kp', _) => l' = l ∧ D' = D ∧ cA' = cA ∧ kp' = (fun _ => True) ∧ R.frames = fr ∧ R.cells = mc ∧ R.slots = ms ∧ R.locals = lo ∧ Q = (fun t => ∃ o, t.status = .running ∧ Ended t below o ∧ mj_QT D G cA ad0 w A cls mc ms args s o t) ∧ meth.locks = false ∧ c.exceptionTable.isEmpty = true ∧ (∀ q, A q → n ≤ q) ∧ mj_Th TL n s
def mj_ET (G : mj_G) (X : mj_X) (l : Launch) (D : va_G) (cA : Nat → ClassId) (Y : mj_N) (fr lo mc ms : Nat) (w : mj_M) (TL : List Cond) (n : Nat) (cls : String) : Prop :=
  mj_B G X (Y.1.cls, Y.1.name, Y.2.1, Y.2.2.1) ∧ mj_FT G X l D cA fr lo mc ms w TL n cls
theorem mj_evT {G : mj_G} {l : Launch} {D : va_G} {cA : Nat → ClassId} {Y : mj_N} {fr lo mc ms : Nat} {args : List Value} {w : mj_M} {TL : List Cond} {n : Nat} {cls : String} {lv : mj_L} (hy : plainName Y.1.cls = true) (hlen : (lg_sl args).length ≤ Y.2.2.1) (hlv : lv_args 0 args = lv)
    (body : ∀ X : mj_X, mj_ET G X l D cA Y fr lo mc ms w TL n cls → mj_W G X 0 0 0 lv [] w) : mj_EvT G l D cA Y fr lo mc ms args w TL n cls := by
  intro ad sz
  refine MetFree.of_bodyS (code := Y.2.1) (maxLocals := Y.2.2.1) (ret := Y.2.2.2) hy ?_ ?_
  · intro args s m h hn
    obtain ⟨meth, c, h1, h2, h3, h4, h5, h6, -, -⟩ := Cond.code_spec hn (atoms_spec (ws := Cond.code Y.1 Y.2.1 Y.2.2.1 Y.2.2.2 :: G.2.1) h _ List.mem_cons_self)
    exact ⟨meth, c, h1, h2, h3, h4, h5, h6⟩
  · intro p e s m args' below meth c s₁ B hml hv _
    obtain ⟨rfl, hsz, hP, hK, hD0, hnz, hTh⟩ := hv
    have hts := atoms_spec (ws := Cond.code Y.1 Y.2.1 Y.2.2.1 Y.2.2.2 :: G.2.1) B.pre
    have hown := findClass_of_methodNamed B.named
    have hin := (name_of_methodNamed B.named B.method).1
    subst hsz
    have hD := hD0.self (sz := s.heap.size)
    have hA : ∀ q, s.heap.size ≤ q → va_A (mj_w ad cA w) s.heap.size q := fun q h => Or.inr h
    have hAn : ∀ q, va_A (mj_w ad cA w) s.heap.size q → n ≤ q := by
      rintro q (⟨k, e1, hk⟩ | hk)
      · exact hD0.2 k _ hk
      · exact Nat.le_trans hnz hk
    have hl := lv_entry (args.map (mj_v ad)) (n := Y.2.2.1) (by rw [mj_sl_len]; exact hlen)
    rw [lg_entry_eq]
    have X₀ := Stand.of_body B
    have hh0 : s₁.heap = s.heap := by rw [B.state]; rfl
    have hb := body (p, l, e, (headSpec (Cond.code Y.1 Y.2.1 Y.2.2.1 Y.2.2.2 :: G.2.1) { frames := fr, cells := mc, slots := ms, locals := lo }).room, s, m, (args.map (mj_v ad)).toArray, below, meth, c, (fun t => ∃ o, t.status = .running ∧ Ended t below o ∧ mj_QT D G cA ad w (va_A (mj_w ad cA w) s.heap.size) cls mc ms (args.map (mj_v ad)).toArray s o t), D, cA, va_A (mj_w ad cA w) s.heap.size, ad, (fun _ => True), Y.2.2.1)
      ⟨⟨B.exec, B.bytes, hml, rfl, hown, fun w h => hts w (List.mem_cons_of_mem _ h), hK, hA, hin⟩, rfl, rfl, rfl, rfl, rfl, rfl, rfl, rfl, rfl, B.notSynchronized, B.noHandlers (hts _ List.mem_cons_self), hAn, hTh⟩
    have K := hb ad s.heap [] _ (fun _ _ => rfl) hP hD va_S.rf (by rw [← hlv, mj_l_args]; exact hl)
    obtain ⟨t, a1, oc, b1, b2, b3⟩ := K s₁ hh0 X₀
    exact ⟨t, oc, a1, b1, b2, b3⟩
/-- throw new cls(text) -/
theorem mj_throw {G : mj_G} {X : mj_X} {l : Launch} {D : va_G} {cA : Nat → ClassId} {Y : mj_N} {fr lo mc ms : Nat} {w : mj_M} {TL : List Cond} {n : Nat} {cls : String} {cells slots pc : Nat} {lv : mj_L} (hfl : l.flags = pinnedFlags ++ [noTraceFlag]) (h : mj_ET G X l D cA Y fr lo mc ms w TL n cls) {ik is ic : Nat} {text : String} (htw : ∀ c ∈ mj_tw Y.1.cls ik is ic cls text, c ∈ TL) (hcls : Bundle.fit cls = true)
    (d0 : decode Y.2.1 pc = .ok (.new ik, 3)) (d3 : decode Y.2.1 (pc + 3) = .ok (.dup, 1)) (d4 : decode Y.2.1 (pc + 4) = .ok (.ldc is, 2)) (d6 : decode Y.2.1 (pc + 6) = .ok (.invokespecial ic, 3)) (d9 : decode Y.2.1 (pc + 9) = .ok (.athrow, 1)) (hc : cells + 1 ≤ mc) (hs : slots + 6 ≤ ms) (hfr : 5 < fr) (hlo : 100 ≤ lo) : mj_W G X cells slots pc lv [] w := by
  obtain ⟨p, l', e, R, s, m, args, below, meth, c, Q, D', cA', A, ad0, kp', nL⟩ := X
  obtain ⟨hB, rfl, rfl, rfl, rfl, hR1, hR2, hR3, hR4, hQ, hlk, hex, hAn, hTh⟩ := h
  intro ad H locs ls h0 hP hD hS hl
  have hade : ad = ad0 := funext fun q => h0 q trivial
  subst hade
  subst hQ
  intro T hT XS
  have X := mj_rebase (k := 1) (n := 6) XS (by rw [hR2]; exact hc) (by rw [hR3]; exact hs)
  generalize hs' : ({ s with heap := T.heap, slotsUsed := T.slotsUsed } : State) = s' at X
  have hvm : s'.vm = s.vm := by rw [← hs']
  have hhp : s'.heap = T.heap := by rw [← hs']
  have hexec := hB.1
  have hcode : c.code = Y.2.1 := hB.2.1
  have hown : s'.vm.findClass Y.1.cls = some m.cls := by rw [hvm]; exact hB.2.2.2.2.1
  have hword : ∀ c ∈ mj_tw Y.1.cls ik is ic cls text, c.before args s' = true := fun c hc9 => hTh args s' (by rw [hvm]; exact State.WarmedH.refl s) (fun q hq => by
    rw [hhp, hT]
    by_cases hq9 : q < s.heap.size
    · exact hS.2.1 q hq9 (fun z => absurd (hAn q z) (Nat.not_le.mpr hq))
    · exact absurd (hAn q (hB.2.2.2.2.2.2.2.1 q (Nat.not_lt.mp hq9))) (Nat.not_le.mpr hq)) c (htw c hc9)
  have hk := hword _ List.mem_cons_self
  have hini := hword _ (List.mem_cons_of_mem _ List.mem_cons_self)
  have hstr := hword _ (List.mem_cons_of_mem _ (List.mem_cons_of_mem _ List.mem_cons_self))
  have hat : ∀ a ∈ Bundle.ownAtoms Y.1.cls ic cls ["java/lang/RuntimeException", "java/lang/Exception"], a.before args s' = true := fun a ha => hword a (List.mem_cons_of_mem _ (List.mem_cons_of_mem _ (List.mem_cons_of_mem _ ha)))
  have hins : (Cond.instantiable cls 6).before args s' = true := hat _ (by simp [Bundle.ownAtoms])
  have htr : e.platform.stackTraces = false := Launch.traces_off hfl XS.admits
  rw [← hcode] at d0 d3 d4 d6 d9
  obtain ⟨vm₁, cX, kX, hfX, hkX, -, -, X₁, st1⟩ := X.newCold hexec (own := Y.1.cls) (C := cls) (index := ik) (n := 6) hown hk hins hini
    (g := F0 m pc ls []) rfl d0 (Nat.le_refl _) (Nat.le_refl _)
  generalize hT1 : (T.setVm vm₁).pushCell { cls := cX, slots := kX.instanceTypes.map defaultValue, vm := .none } = T1 at X₁ st1
  have hcellA : T1.heap[T.heap.size]? = some (freshCell cX kX) := by rw [← hT1]; exact State.heap_pushCell_size _ _
  obtain ⟨-, -, -, sa, -, -, -, -, -, hev⟩ := Cond.stringRef_spec hown hstr
  obtain ⟨U, hsteps, hrun, hend, hW, hsame, ce, hce, hOC⟩ := X₁.ctorThrowS hexec htr (own := Y.1.cls) (cls := cls) (names := ["java/lang/RuntimeException", "java/lang/Exception"]) (ic := ic) hown hcls (by decide +kernel) hat (fun x hx => by cases hx)
    hfX hkX hcellA (by rw [hhp]; exact Nat.le_refl _) (msg := .ref sa) rfl
    (g := F0 m (pc + 6) ls [.ref sa, .ref T.heap.size, .ref T.heap.size]) rfl (hl.1.trans hB.2.2.1.symm) rfl rfl (rest := []) rfl
    d6 d9 (fun x hx => by
      have : c.exceptionTable.toList = [] := by
        have := Array.isEmpty_iff.mp hex
        rw [this]
      rw [this] at hx; cases hx) (by show 2 + 3 < R.frames; rw [hR1]; exact hfr) (by
      show 2 * (F0 m (pc + 6) ls [.ref sa, .ref T.heap.size, .ref T.heap.size]).monitorRoom + _ + (13 * (2 + 1) + 42) ≤ R.locals
      have : 2 * (F0 m (pc + 6) ls [.ref sa, .ref T.heap.size, .ref T.heap.size]).monitorRoom + (([Value.ref T.heap.size].map fun v => v.category).sum) ≤ 8 := lv_room (Nat.le_of_ble_eq_true rfl)
      rw [hR4]
      simp only [List.map_cons, List.map_nil, List.sum_cons, List.sum_nil, Value.category] at this ⊢
      omega) hlk
  obtain ⟨g1, g2⟩ := mj_sameOld hsame
  rw [hhp] at g1 g2
  refine ⟨U, ?_, .threw T.heap.size, hrun, hend, T.heap.size, ce, rfl, hce, hOC.vm, ?_, ?_, ?_, ?_, locs, ?_, hS.2.2⟩
  · refine st1 _ ?_
    show Steps p.tables e below (T1.setTop (F0 m (pc + 3) ls [.ref T.heap.size])) _
    jvm_step X₁.here [X₁.here.top, hexec, d3, Value.category]
    exact X₁.ldcString hexec (own := Y.1.cls) (text := text) (index := is) (a := sa) hown hstr hev (g := F0 m (pc + 4) ls [.ref T.heap.size, .ref T.heap.size]) rfl d4 _ hsteps
  · rw [hW.alike.findClass]; exact hOC.cls
  · rw [hT]; exact hS.1
  · intro k q hq
    have hat9 := hP k q hq
    exact hat9.kept (by rw [show U.heap[q.1]? = T.heap[q.1]? from g2 q.1 (by rw [hT]; exact hat9.lt), hT])
  · exact ⟨Nat.le_trans hS.1 (by rw [← hT]; exact g1), fun q h1 h2 => by rw [show U.heap[q]? = T.heap[q]? from g2 q (by rw [hT]; exact Nat.lt_of_lt_of_le h1 hS.1), hT]; exact hS.2.1 q h1 h2⟩
  · refine ⟨⟨_, rfl⟩, ?_, ?_⟩
    · have hW2 : s'.WarmedH U.vm := hW
      rw [← hs'] at hW2
      exact hW2
    · have h1 : s.sameButNew s' locs cells slots := by
        obtain ⟨a1, a2⟩ := XS.same
        rw [← hs']
        refine ⟨?_, a2⟩
        obtain ⟨t9, ht9, -⟩ := State.frames_cons XS.frames
        show _ = ({ s.setFrames s.frames with heap := T.heap, slotsUsed := T.slotsUsed } : State)
        rw [State.setFrames_self ht9]
      have h3 := h1.trans hsame
      rw [List.append_nil] at h3
      have h4 := h3.mono (c' := mc) (n' := ms) hc hs
      rw [show s'.vm = s.vm from hvm] at h4
      exact h4
