/-! The end: the tables at the law's start, the claim (by program: wip/whole/src_end.py; the frame is the kit's skeleton) -/
theorem lw_K {s : State} {a : Array Value} (hz : ∀ w ∈ zTb, w.before a s = true) (hts : ∀ w ∈ lw_tbl, w.before a s = true) : ∃ (D : va_G) (cA : Nat → ClassId), va_K D zG.1 (mj_tys cA zG.2.2) s := by
  have hc : ∀ c : Nat, ∃ z : ClassId × (Nat → Nat), ∀ q : vw_C, zCl[c]? = some q → u_Kn s q.1 q.2.1 q.2.2 z.1 z.2 := by
    intro c
    match c with
    | 0 =>
      obtain ⟨cC, iS, h⟩ := u_known hz u_Al (hz _ (zin1 (List.mem_of_getElem? (i := 197) rfl) rfl))
      exact ⟨(cC, iS), fun q hq => by cases hq; exact h⟩
    | 1 =>
      obtain ⟨cC, iS, h⟩ := u_known hz u_Fl (hz _ (zin1 (List.mem_of_getElem? (i := 87) rfl) rfl))
      exact ⟨(cC, iS), fun q hq => by cases hq; exact h⟩
    | 2 =>
      obtain ⟨cC, iS, h⟩ := u_known hz u_Ft (hz _ (zin1 (List.mem_of_getElem? (i := 80) rfl) rfl))
      exact ⟨(cC, iS), fun q hq => by cases hq; exact h⟩
    | 3 =>
      obtain ⟨cC, iS, h⟩ := u_known hz u_Mk (hz _ (zin1 (List.mem_of_getElem? (i := 173) rfl) rfl))
      exact ⟨(cC, iS), fun q hq => by cases hq; exact h⟩
    | 4 =>
      obtain ⟨cC, iS, h⟩ := u_known hz u_Op (hz _ (zin3 (List.mem_of_getElem? (i := 17) rfl) rfl))
      exact ⟨(cC, iS), fun q hq => by cases hq; exact h⟩
    | 5 =>
      obtain ⟨cC, iS, h⟩ := u_known hz u_Pk (hz _ (zin1 (List.mem_of_getElem? (i := 42) rfl) rfl))
      exact ⟨(cC, iS), fun q hq => by cases hq; exact h⟩
    | 6 =>
      obtain ⟨cC, iS, h⟩ := u_known hz u_Ru (hz _ (zin3 (List.mem_of_getElem? (i := 229) rfl) rfl))
      exact ⟨(cC, iS), fun q hq => by cases hq; exact h⟩
    | 7 =>
      obtain ⟨cC, iS, h⟩ := u_known hz u_Se (hz _ (zin1 (List.mem_of_getElem? (i := 167) rfl) rfl))
      exact ⟨(cC, iS), fun q hq => by cases hq; exact h⟩
    | 8 =>
      obtain ⟨cC, iS, h⟩ := u_known hz u_Sm (hz _ (zin1 (List.mem_of_getElem? (i := 93) rfl) rfl))
      exact ⟨(cC, iS), fun q hq => by cases hq; exact h⟩
    | 9 =>
      obtain ⟨cC, iS, h⟩ := u_known hz u_Wi (hz _ (zin1 (List.mem_of_getElem? (i := 28) rfl) rfl))
      exact ⟨(cC, iS), fun q hq => by cases hq; exact h⟩
    | 10 =>
      obtain ⟨cC, iS, h⟩ := u_known hz u_Sw (hz _ (zin1 (List.mem_of_getElem? (i := 20) rfl) rfl))
      exact ⟨(cC, iS), fun q hq => by cases hq; exact h⟩
    | 11 =>
      obtain ⟨cC, iS, h⟩ := u_known hz u_Md (hz _ (zin4 (List.mem_of_getElem? (i := 60) rfl) rfl))
      exact ⟨(cC, iS), fun q hq => by cases hq; exact h⟩
    | c + 12 => exact ⟨(0, fun _ => 0), fun q hq => by cases hq⟩
  have hp : ∀ ty : FieldType, (Cond.arrayClass ty).before a s = true → ∃ cB : ClassId, ArrOfT s cB ty ∧ s.vm.findClass ("[" ++ ty.toString) = some cB := by
    intro ty h
    obtain ⟨cB, kB, comp, h1, h2, h3⟩ := Cond.arrayClass_spec h
    exact ⟨cB, fun n z => ⟨fun k h => (by cases h), kB, h2, comp, h3⟩, h1⟩
  have ho : ∀ C : String, (Cond.arrayOver (.object C)).before a s = true → ∃ cB : ClassId, ArrOfT s cB (.object C) ∧ va_RA s cB (.object C) := by
    intro C h
    obtain ⟨comp, cB, kB, h1, h2, h3, h4, h5⟩ := Cond.arrayOver_spec h
    exact ⟨cB, fun n z => ⟨fun k h => (by cases h), kB, h3, comp, h4⟩, kB, comp, h3, h4, h1, h5⟩
  have ht : ∀ t : Nat, ∃ cB : ClassId, ∀ ty : FieldType, zTy[t]? = some ty → ArrOfT s cB ty ∧ va_RA s cB ty := by
    intro t
    match t with
    | 0 =>
      obtain ⟨cB, h1, h2⟩ := hp .int (hz _ (zin1 (List.mem_of_getElem? (i := 40) rfl) rfl))
      exact ⟨cB, fun ty hq => by cases hq; exact ⟨h1, h2⟩⟩
    | 1 =>
      obtain ⟨cB, h1, h2⟩ := hp .boolean (hz _ (zin1 (List.mem_of_getElem? (i := 188) rfl) rfl))
      exact ⟨cB, fun ty hq => by cases hq; exact ⟨h1, h2⟩⟩
    | 2 =>
      obtain ⟨cB, h1, h2⟩ := hp .long (hz _ (zin5 (List.mem_of_getElem? (i := 79) rfl) rfl))
      exact ⟨cB, fun ty hq => by cases hq; exact ⟨h1, h2⟩⟩
    | 3 =>
      obtain ⟨cB, h1, h2⟩ := ho "StreamWatch$Flow" (hts _ (List.mem_append_right _ (List.mem_append_left _ (List.mem_of_getElem? (i := 86) rfl))))
      exact ⟨cB, fun ty hq => by cases hq; exact ⟨h1, h2⟩⟩
    | 4 =>
      obtain ⟨cB, h1, h2⟩ := ho "StreamWatch$Rule" (hts _ (List.mem_append_right _ (List.mem_append_left _ (List.mem_of_getElem? (i := 165) rfl))))
      exact ⟨cB, fun ty hq => by cases hq; exact ⟨h1, h2⟩⟩
    | 5 =>
      obtain ⟨cB, h1, h2⟩ := ho "StreamWatch$Option" (hts _ (List.mem_append_right _ (List.mem_append_right _ (List.mem_append_right _ (List.mem_append_left _ (List.mem_of_getElem? (i := 235) rfl))))))
      exact ⟨cB, fun ty hq => by cases hq; exact ⟨h1, h2⟩⟩
    | t + 6 => exact ⟨0, fun ty hq => by cases hq⟩
  refine ⟨(fun c => (Classical.choose (hc c)).1, fun c => (Classical.choose (hc c)).2), fun t => Classical.choose (ht t), fun c q hq => Classical.choose_spec (hc c) q hq, fun k q hq => ?_⟩
  unfold mj_tys at hq
  rw [List.getElem?_mapIdx] at hq
  cases hy : zTy[k]? with
  | none => rw [show zG.2.2[k]? = none from hy] at hq; cases hq
  | some ty =>
    rw [show zG.2.2[k]? = some ty from hy] at hq
    have e : (Classical.choose (ht k), ty) = q := Option.some.inj hq
    rw [← e]
    exact Classical.choose_spec (ht k) ty hy
theorem lw_Zz {s : State} {a : Array Value} (hts : ∀ w ∈ lw_tbl, w.before a s = true) : mj_Z Z_Lw s := by
  have hn : ∀ (x : String) (k : Nat) (y : MethodName) (h : String), (Cond.methodLinkNest x k y h).before a s = true → va_Nw (.methodLinkNest x k y h) s := fun x k y h e => e
  exact ⟨List.forall_mem_cons.mpr ⟨hn _ _ _ _ (hts _ (List.mem_append_right _ (List.mem_append_left _ (List.mem_of_getElem? (i := 29) rfl)))), List.forall_mem_cons.mpr ⟨hn _ _ _ _ (hts _ (List.mem_append_right _ (List.mem_append_left _ (List.mem_of_getElem? (i := 43) rfl)))), List.forall_mem_cons.mpr ⟨hn _ _ _ _ (hts _ (List.mem_append_right _ (List.mem_append_left _ (List.mem_of_getElem? (i := 168) rfl)))), List.forall_mem_cons.mpr ⟨hn _ _ _ _ (hts _ (List.mem_append_right _ (List.mem_append_left _ (List.mem_of_getElem? (i := 198) rfl)))), List.forall_mem_cons.mpr ⟨hn _ _ _ _ (hts _ (List.mem_append_right _ (List.mem_append_left _ (List.mem_of_getElem? (i := 88) rfl)))), List.forall_mem_cons.mpr ⟨hn _ _ _ _ (hts _ (List.mem_append_right _ (List.mem_append_left _ (List.mem_of_getElem? (i := 174) rfl)))), (fun _ h => nomatch h)⟩⟩⟩⟩⟩⟩, List.forall_mem_cons.mpr ⟨va_AO.of (hts _ (List.mem_append_right _ (List.mem_append_left _ (List.mem_of_getElem? (i := 86) rfl)))), List.forall_mem_cons.mpr ⟨va_AO.of (hts _ (List.mem_append_right _ (List.mem_append_left _ (List.mem_of_getElem? (i := 165) rfl)))), List.forall_mem_cons.mpr ⟨va_AO.of (hts _ (List.mem_append_right _ (List.mem_append_right _ (List.mem_append_right _ (List.mem_append_left _ (List.mem_of_getElem? (i := 235) rfl)))))), (fun _ h => nomatch h)⟩⟩⟩⟩
def R_law : String := "StreamWatchLaw"
def lw_P (b : Addr) (xs : List Int32) (args : Array Value) (s : State) : Prop := args = #[.ref b] ∧ s.IntsAt b xs ∧ xs.length ≤ 4097 ∧ (Jvm.Cond.and given_1 narrow_1).before args s = true
def lw_Q (_ : Array Value) (s : State) (o : Outcome) (t : State) : Prop := o = .returned (some (.int 1)) ∧ Framed s o t [] 601024 7292999
def lw_Z (below : List Frame) (a : Array Value) (s : State) : State → Prop := fun t => ∃ o, t.status = .running ∧ Ended t below o ∧ lw_Q a s o t
/-- what holds at the law's entry: the machine, the code, the tables' words (any of lw_tbl by 'hts w (by decide +kernel)'), the script of L ints xs at the cell b, what the Statement gives of the start (any of its parts by flat_of_before) -/
def lw_At (p : Program) (s : State) (m : MethodId) (meth : Method) (c : Code) (b L : Nat) (xs : Nat → Int32) : Prop :=
  p.tables.exec = Jvm.exec ∧ c.code = code ∧ meth.sig.returnType = ret ∧ c.maxLocals = 7 ∧ s.vm.findClass R_law = some m.cls ∧ (∀ w ∈ lw_tbl, w.before #[Value.ref b] s = true) ∧ va_X b L xs s s.heap ∧ b < s.heap.size ∧ meth.locks = false ∧ (Jvm.Cond.and given_1 narrow_1).before #[Value.ref b] s = true ∧ c.exceptionTable.isEmpty = true ∧ meth.name = "law"
theorem whole_start {p : Program} {e : Env} {s : State} {m : MethodId} {below : List Frame} {meth : Method} {c : Code} (l : Launch) (hfl : l.flags = pinnedFlags ++ [noTraceFlag]) {b L : Nat} {xs : Nat → Int32} (hL : L ≤ 4097) (C0 : lw_At p s m meth c b L xs) : W p l e room_1 s m #[Value.ref b] below meth c s.heap [] 0 0 (lw_Z below #[Value.ref b] s) (entryFrame m ([Value.ref b] : List Value).toArray 7) := by
  obtain ⟨h1, h2, h3, h4, h5, h6, h7, h8, h9, h10, h11, h12⟩ := C0
  have hz : ∀ w ∈ zTb, w.before #[.ref b] s = true := fun w hw => h6 w (List.mem_filter.mp hw).1
  obtain ⟨D, cA, hK⟩ := lw_K hz h6
  have hs := flat_of_before _ h10
  have hTh := lw_Th h6 (hs tlA (by decide +kernel)) (hs tlB (by decide +kernel)) (hs tlC (by decide +kernel))
  have hex : c.exceptionTable.toList.map (fun h => (h.startPc, h.endPc, h.handlerPc, h.catchType)) = [] := by
    rw [Array.isEmpty_iff.mp h11]
    rfl
  have E : lwE (p, l, e, room_1, s, m, #[Value.ref b], below, meth, c, MQ below (mj_Q zG D cA (fun q => s.heap.size ≤ q) (fun _ => b) (fun q => q ∈ [301]) lwP) #[Value.ref b] s 601024 7292999 (fun q => s.heap.size ≤ q), D, cA, (fun q => s.heap.size ≤ q), (fun _ => b), (fun q => q ∈ [301]), 7) l D cA L xs s.heap.size :=
    ⟨⟨⟨h1, h2, h4, rfl, h5, hz, hK, fun q h => h, h12⟩, rfl, rfl, rfl, rfl, rfl, rfl, rfl, rfl, rfl, h3, h9⟩, lw_Zz h6, ⟨hex, hTh, fun q h => h⟩, ⟨h7, h8, fun h => absurd h8 (Nat.not_lt.mpr h), List.mem_singleton.mpr rfl⟩, hL, hfl⟩
  have hl := lv_entry ([Value.ref b]) (n := 7) (Nat.le_of_ble_eq_true rfl)
  rw [lg_entry_eq]
  have K := lw_start E (fun _ => b) s.heap [] _ (fun _ _ => rfl) (fun k q h => (by cases h)) ⟨fun i j p q h => (by cases h), fun k q h => (by cases h)⟩ va_S.rf hl
  intro T hT XS
  obtain ⟨t, a1, o, b1, b2, ⟨⟨r, w', ad', -, b3, b4, -⟩, -⟩, L9, b5, b6⟩ := K T hT XS
  have b3 : r = some (.int 1) := b3
  subst b3
  refine ⟨t, a1, o, b1, b2, b4, ?_⟩
  rw [b4] at b5 ⊢
  exact ⟨b5.1, b5.2.1, State.sameButNew.drop_fresh (L := []) (J := L9) b5.2.2 b6⟩
set_option maxHeartbeats 4000000 in
theorem lw_walk (l : Launch) (hfl : l.flags = pinnedFlags ++ [noTraceFlag]) (b : Addr) (xs : List Int32) : MetFree l x (headSpec (Jvm.Cond.code x code maxLocals ret :: tables_1) room_1) (lw_P b xs) (fun _ _ _ _ _ => True) lw_Q := by
  refine MetFree.of_bodyS (code := code) (maxLocals := maxLocals) (ret := ret) (by decide) ?_ ?_
  · intro args s m h hn
    obtain ⟨meth, c, h1, h2, h3, h4, h5, h6, -, -⟩ := Cond.code_spec hn (atoms_spec (ws := Jvm.Cond.code x code maxLocals ret :: tables_1) h _ List.mem_cons_self)
    exact ⟨meth, c, h1, h2, h3, h4, h5, h6⟩
  · intro p e s m args below meth c s₁ B hml0 hP _
    obtain ⟨rfl, hx, hbd, hgv⟩ := hP
    obtain ⟨scr, harrAt, hlist, hof, hsmall⟩ := hx
    obtain ⟨hcb, hkn, -, -⟩ := State.arrayAt?_spec harrAt
    have hown : s.vm.findClass R_law = some m.cls := findClass_of_methodNamed B.named
    have hts0 : ∀ c ∈ (Jvm.Cond.code x code maxLocals ret :: tables_1), c.before #[Value.ref b] s = true := atoms_spec (ws := Jvm.Cond.code x code maxLocals ret :: tables_1) B.pre
    have hts : ∀ w ∈ lw_tbl, w.before #[Value.ref b] s = true := k2_hts_sels lw_privs (fun w hw => hts0 w (List.mem_cons_of_mem _ hw)) lw_privs_ok
    have hml : c.maxLocals = 7 := B.maxLocals_eq (hts0 _ List.mem_cons_self)
    have X₀ : Stand p l e room_1 s m #[Value.ref b] below meth c s₁ [] 0 0 := Stand.of_body B
    have hh0 : s₁.heap = s.heap := by rw [B.state]; rfl
    have hsz : scr.slots.size = xs.length := by rw [← Array.length_toList, hlist, List.length_map]
    have hval : ∀ j : Nat, j < xs.length → scr.slots[j]? = some (.int (xs.getD j 0)) := fun j hj => by
      rw [← Array.getElem?_toList, hlist]
      simp [hj]
    have hbl : b < s.heap.size := (Array.getElem?_eq_some_iff.mp hcb).1
    have hX : va_X b xs.length (fun j => xs.getD j 0) s s.heap := ⟨scr, hcb, hof, hkn, hsz, hval⟩
    have K : W p l e room_1 s m #[Value.ref b] below meth c s₁.heap [] 0 0 (lw_Z below #[Value.ref b] s) (entryFrame m ([Value.ref b] : List Value).toArray 7) := by
      rw [hh0]
      exact whole_start l hfl hbd ⟨B.exec, B.bytes, B.returns, hml, hown, hts, hX, hbl, B.notSynchronized, hgv, B.noHandlers (hts0 _ List.mem_cons_self), (name_of_methodNamed B.named B.method).1⟩
    obtain ⟨t, a1, o, b1, b2, b3⟩ := K s₁ rfl X₀
    exact ⟨t, o, a1, b1, b2, b3⟩
theorem lw_pre_spec {args : Array Value} {s : State} (h : (Jvm.Cond.and given_1 narrow_1).before args s = true) (hr : rest_1_c.before args s = true) : ∃ (b : Addr) (xs : List Int32), lw_P b xs args s := by
  have hs := flat_of_before _ h
  have hq := flat_of_before _ hr
  have hc : (Cond.count 1).before args s = true := hs _ (by decide +kernel)
  have harr : (Cond.arrayOf (.arg 0) .int).before args s = true := hs _ (by decide +kernel)
  have hle : (Cond.le (.length (.arg 0)) (.int 4097)).before args s = true := hs _ (by decide +kernel)
  have hlen : (Cond.isInt (.length (.arg 0))).before args s = true := hq _ (by decide +kernel)
  have hall : (Cond.all (.arg 0) (.isInt (.elem (.arg 0) (.index 0)))).before args s = true := hq _ (by decide +kernel)
  obtain ⟨b, xs, hb, hx⟩ := State.ints_of_pre rfl harr hlen hall
  have hsm : xs.length < 2 ^ 31 := hx.choose_spec.2.2.2
  have hev : (Term.length (.arg 0)).eval args s none [] s = some (.int xs.length.toInt32) := hx.length_eval hb
  have hv := Cond.le_ints hev (show (Term.int 4097).eval args s none [] s = some (.int 4097) from rfl)
  have hd : xs.length.toInt32 ≤ 4097 := by
    simpa [Cond.before, Cond.holds, hv] using hle
  have hN : xs.length ≤ 4097 := (Int32.ofNat_le_ofNat hsm (by decide)).mp (show Int32.ofNat xs.length ≤ Int32.ofNat 4097 from hd)
  exact ⟨b, xs, Cond.one_arg hc (show args[0]? = some (.ref b) from hb), hx, hN, h⟩
theorem lw_comes (l : Launch) (hfl : l.flags = pinnedFlags ++ [noTraceFlag]) : Comes l x (Jvm.Cond.code x code maxLocals ret :: tables_1) room_1 (fun tb e args s => Calls_1 tb e args s ∧ rest_1 tb e args s ∧ Pre_1 tb e args s)
    (fun _ _ args s o t => lw_Q args s o t) := by
  intro p e ha hc hk s m args below hf hfit hheap happ hpre
  obtain ⟨b, xs, hP⟩ := lw_pre_spec hpre.2.2 hpre.2.1
  obtain ⟨k, o, h1, h2, h3, hQ⟩ := lw_walk l hfl b xs p e ha hc hk s m args below hf ((Spec.applies_iff_loose hf).mp happ).1 hP trivial
  exact ⟨k, o, h1, h2, h3, hQ⟩
theorem lw_frame {s t : State} {o : Outcome} {args : Array Value} (h : Framed s o t [] 601024 7292999) :
    Framed s o t (fieldLocs frame_1_writes args s ++ arrayLocs frame_1_arrays args s ++ staticLocs frame_1_statics s) 601024 7292999 := h
theorem lw_limb (L : Cond) (hL : ∀ (args : Array Value) (s t : State), L.after args s (.returned (some (.int 1))) t = true) :
    ArmFor flags0 classFile x code maxLocals ret World_1 tables_1 room_1 Calls_1 rest_1 Pre_1
      (fun tb e a s o t => postC L tb e a s o t ∧ Framed s o t (fieldLocs frame_1_writes a s ++ arrayLocs frame_1_arrays a s ++ staticLocs frame_1_statics s) 601024 7292999) := by
  intro l hfl _ _ p e ha hc hk s m args below hf hfit hheap happ hpre
  obtain ⟨k, o, h1, h2, h3, rfl, hF⟩ := lw_comes l hfl p e ha hc hk s m args below hf hfit hheap happ hpre
  exact ⟨k, _, h1, h2, h3, hL args s _, lw_frame hF⟩
theorem i_vc : Claimed_1_1 ∧ Claimed_1_2 := ⟨lw_limb limb_1_1 (fun args s t => by simp [limb_1_1, Cond.after, Cond.holds, Cond.value]), lw_limb limb_1_2 (fun args s t => Cond.after_iff.mpr (by
  first | (rw [show limb_1_2 = Cond.eq .result (.int 1) from rfl, Cond.eq_ints (x := 1) (y := 1) rfl rfl]; simp; done) | (simp [limb_1_2, Cond.value, Term.eval]; done)))⟩
