/-! a call that throws, and is caught here -/
def mj_Hd (X : mj_X) (hh : List (Nat × Nat × Nat × Nat)) : Prop := match X with
  | (_, _, _, _, _, _, _, _, _, c, _) => c.exceptionTable.toList.map (fun h => (h.startPc, h.endPc, h.handlerPc, h.catchType)) = hh
/-- what the activation X knows besides of exceptions: its table; the words on throws, whatever comes behind the first n cells; its cells lie behind them -/
def mj_Xc (X : mj_X) (hh : List (Nat × Nat × Nat × Nat)) (TL : List Cond) (n : Nat) : Prop := match X with
  | (_, _, _, _, s, _, _, _, _, c, _, _, _, A, _) => c.exceptionTable.toList.map (fun h => (h.startPc, h.endPc, h.handlerPc, h.catchType)) = hh ∧ mj_Th TL n s ∧ (∀ q, A q → n ≤ q)
theorem mj_preT_blind {G : mj_G} {D : va_G} {cA : Nat → ClassId} {av : List Value} {sz n : Nat} {W0 : va_W} {TL : List Cond} : FrameBlind (va_Pc av (fun U => U.heap.size = sz ∧ va_P D G.1 W0 U.heap ∧ va_K D G.1 (mj_tys cA G.2.2) U ∧ va_D (fun q => n ≤ q) W0 ∧ n ≤ sz ∧ mj_Th TL n U)) := by
  intro a U g mk q
  obtain ⟨q0, q1, qP, qK, qD, qn, qT⟩ := q
  exact ⟨q0, q1, qP, va_K.moved (u := U) (U := U.calling g mk a) (Vm.Alike.refl U.vm) qK, qD, qn, mj_Th_go (V := U.calling g mk a) qT (State.WarmedH.refl U) (fun _ _ => rfl)⟩
theorem mj_callT {G : mj_G} {X : mj_X} {l : Launch} {D : va_G} {cA : Nat → ClassId} {Y : mj_N} {fr lo mc ms : Nat} {kp : Nat → Prop} {post : mj_R} {cells slots pc : Nat} {lv : mj_L} {st : List Value} {w : mj_M} (h : mj_E G X l D cA Y fr lo mc ms kp post) (hg : GoodIn G.2.1 G.2.1) {hh : List (Nat × Nat × Nat × Nat)} {TL : List Cond} {n0 : Nat} (hxc : mj_Xc X hh TL n0)
    {Yc : mj_N} {frc loc mcc msc n index : Nat} {As : List Value} {a0 : Nat} {wc : mj_M} {cls : String} (hev : mj_EvT G l D cA Yc frc loc mcc msc (.ref a0 :: As) wc TL n0 cls) (hvw : mj_VW G Yc n)
    (hlink : Cond.methodLink Y.1.cls index Yc.1 ∈ G.2.1) (hd : decode Y.2.1 pc = .ok (.invokevirtual index, 3)) (hn : As.length = n) (hroom : frc + 1 ≤ fr ∧ 8 + (Yc.2.2.1 + 11) + loc ≤ lo) (hcells : cells + mcc ≤ mc ∧ slots + msc ≤ ms)
    (ρ : List (Nat × Nat)) {rest : List Value} {ci : Nat} {fs : List Value} {T0 : u_T} {N : Nat} (hrec : mj_lk wc a0 some = some (.inr (ci, fs))) (hci : G.1[ci]? = some (Yc.1.cls, T0, N))
    (hin : ∀ q ∈ mj_wr (mj_ff ρ) wc, q ∈ w) (hnd : va_nd ((mj_wr (mj_ff ρ) wc).map Prod.fst) = true) (hst : st = ((Value.ref a0 :: As).map (mj_v (mj_ff ρ))).reverse ++ rest) (hrr : (rest.map fun v => v.category).sum ≤ 8)
    (pre : List ExceptionTableEntry) (x : ExceptionTableEntry) (suf : List ExceptionTableEntry) (hsplit : tableOf hh = pre ++ x :: suf) (hpass : ∀ z ∈ pre, covers z pc = false ∨ (z.catchType ≠ 0 ∧ ∃ nm, Cond.classLink Y.1.cls z.catchType nm ∈ G.2.1 ∧ Cond.not (.castable cls nm) ∈ TL)) (hxc2 : covers x pc = true) (hx0 : x.catchType ≠ 0) {name : String} (hxl : Cond.classLink Y.1.cls x.catchType name ∈ G.2.1) (hxt : Cond.castable cls name ∈ TL)
    (pn : Nat) (hkp : ¬ kp pn) (hf : mj_nw pn w ∧ mj_nl pn lv) (kk : mj_W G X (cells + mcc) (slots + msc) x.handlerPc lv [.ref pn] w) : mj_W G X cells slots pc lv st w := by
  obtain ⟨p, l', e, R, s, m, args, below, meth, c, Q, D', cA', A, ad0, kp', nL⟩ := X
  obtain ⟨hB, rfl, rfl, rfl, rfl, hR1, hR2, hR3, hR4, hQ, hr, hlk⟩ := h
  obtain ⟨hxa, hTh, hAn⟩ := hxc
  have hn0 : n0 ≤ s.heap.size := hAn _ (hB.2.2.2.2.2.2.2.1 _ (Nat.le_refl _))
  intro ad H locs ls h0 hP hD hS hl
  obtain ⟨hv1, hv2, hv3, hv4, hv5, hv6, hv7⟩ := hvw
  have hWc := mj_w_wr ad (mj_ff ρ) cA' wc
  have hPc : va_P D' G.1 (mj_w (fun q => ad (mj_ff ρ q)) cA' wc) H := by
    rw [← hWc]
    exact mj_P_in hP hin
  have hDc : va_D (fun q => n0 ≤ q) (mj_w (fun q => ad (mj_ff ρ q)) cA' wc) := by
    rw [← hWc]
    exact (mj_D_in hD hin hnd).weaken (fun _ _ _ z => hAn _ z)
  obtain ⟨q0, hq0⟩ : ∃ q0 : Nat, wc[q0]? = some (a0, (Sum.inr (ci, fs) : mj_C)) := by
    rcases mj_lk_or (β := mj_C) wc a0 with h1 | ⟨v, q0, h1, h2⟩
    · rw [h1] at hrec; cases hrec
    · rw [h1] at hrec
      exact ⟨q0, by rw [h2, Option.some.inj hrec]⟩
  have hgood : GoodIn G.2.1 (wsV Y.1.cls index Yc.1.cls Yc.1 (Cond.code Yc.1 Yc.2.1 Yc.2.2.1 Yc.2.2.2 :: G.2.1)) := by
    refine mj_gin hg (fun x hx => ?_)
    unfold wsV at hx
    rcases List.mem_append.mp hx with hx | hx
    · simp only [List.mem_cons, List.not_mem_nil, or_false] at hx
      rcases hx with rfl | rfl | rfl | rfl
      · exact hlink
      · exact hv1
      · exact hv2
      · exact hv3
    · rcases List.mem_cons.mp hx with rfl | hx
      · exact hv4
      · exact hx
  have cw := cwV (R := R) (rm := { frames := frc, cells := mcc, slots := msc, locals := loc }) (mc := mcc) (ms := msc) n hB.2.2.2.2.2.1 hgood rfl rfl rfl ⟨rfl, hv5, hv6, hv7⟩ ⟨by rw [hR1]; exact hroom.1, by rw [hR4]; exact hroom.2⟩
  obtain ⟨⟨-, -, hfr, hlo, hws, hcw, hcode, hini, hy, hlen, hlk2⟩, hinm, hsel⟩ := cw
  have hag : ∀ (U : State), U.heap = H → ∀ q, q < n0 → U.heap[q]? = s.heap[q]? := by
    intro U hU q hq
    rw [hU]
    exact hS.2.1 q (Nat.lt_of_lt_of_le hq hn0) (fun z => absurd (hAn q z) (Nat.not_le.mpr hq))
  obtain ⟨cellB, hcB, hoB, hclB⟩ := va_recv hB.2.2.2.2.2.2.1 hPc hci (mj_w_at hq0)
  intro T hT X
  have hK : Jvm.Free.BackT l' R p e below s args Yc.1 3 8 (fun A a => A.cells + mcc ≤ R.cells ∧ A.slots + msc ≤ R.slots ∧ A.U.heap = H ∧ a = ((Value.ref a0 :: As).map (mj_v fun q => ad (mj_ff ρ q))).toArray)
      (fun A a v B => ∃ (st₀ t : State) (L : List Loc), st₀.heap = H ∧ B.U.heap = t.heap ∧ B.U.vm = t.vm ∧ mj_QT D' G cA' (fun q => ad (mj_ff ρ q)) wc (va_A (mj_w (fun q => ad (mj_ff ρ q)) cA' wc) H.size) cls mcc msc a st₀ (.threw v) t ∧ B.locs = A.locs ++ L ∧ (∀ z ∈ L, va_A (mj_w (fun q => ad (mj_ff ρ q)) cA' wc) H.size z.base) ∧ B.cells = A.cells + mcc ∧ B.slots = A.slots + msc) := by
    refine Jvm.Free.BackT.of_free (bytes := Yc.2.1) (maxL := Yc.2.2.1) (ret := Yc.2.2.2) (E := fun _ _ _ _ L k n => k = mcc ∧ n = msc ∧ ∀ z ∈ L, va_A (mj_w (fun q => ad (mj_ff ρ q)) cA' wc) H.size z.base) (hev (fun q => ad (mj_ff ρ q)) H.size) hfr hlo ?_ ?_ (fun _ _ _ _ _ _ _ _ _ => trivial) ?_ ?_
    · intro m9 meth9 c9 A9 a9 X9 hp9
      exact ⟨atoms_intro fun w hw => hws w hw _ _ X9.warmed, hws _ hcw _ _ X9.warmed, word_at X9.warmed (Or.inl (by first | rfl | simp [Cond.onTables, Cond.keeps, Cond.steady])) hini, hp9.1, hp9.2.1⟩
    · intro m9 meth9 c9 A9 a9 g9 mk9 X9 hp9
      obtain ⟨-, -, hU, rfl⟩ := hp9
      exact mj_preT_blind _ _ g9 mk9 ⟨rfl, by rw [hU], by rw [hU]; exact hPc, va_K.moved X9.warmed.alike hB.2.2.2.2.2.2.1, hDc, Nat.le_trans hn0 hS.1, mj_Th_go hTh X9.warmed (hag _ hU)⟩
    · rintro a9 first9 o9 t9 ⟨q9, ce9, rfl, r1, r2, r3, r4, r5, r6, L9, r7, r8⟩
      exact ⟨L9, mcc, msc, r7, rfl, rfl, r8⟩
    · rintro m9 meth9 c9 A9 a9 g9 mk9 v9 t9 L9 k9 n9 X9 hp9 hq9 hF9 ⟨rfl, rfl, hL9⟩
      exact ⟨A9.U.calling g9 mk9 a9, t9, L9, hp9.2.2.1, rfl, rfl, hq9, rfl, hL9, rfl, rfl⟩
  have hstk : (F0 m pc ls (st.map (mj_v ad))).stack = (As.map (mj_v fun q => ad (mj_ff ρ q))).reverse ++ .ref (ad (mj_ff ρ a0)) :: rest.map (mj_v ad) := by
    show st.map (mj_v ad) = _
    have e9 : ((Value.ref a0 :: As).map (mj_v (mj_ff ρ))).map (mj_v ad) = (Value.ref a0 :: As).map (mj_v fun q => ad (mj_ff ρ q)) := by
      rw [List.map_map]
      exact List.map_congr_left (fun v _ => mj_v_v ad (mj_ff ρ) v)
    rw [hst, List.map_append, List.map_reverse, e9, List.map_cons, List.reverse_cons, List.append_assoc]
    rfl
  obtain ⟨mk, methM, hnamed, hmethM, hstM, habM⟩ := Cond.instanceMethod_spec hinm
  obtain ⟨methM', cM, hmethM', -, -, -, -, -, -, hsigM⟩ := Cond.code_spec hnamed hcode
  cases hmethM.symm.trans hmethM'
  obtain ⟨c2, r2, m2, q1, q2, q3, q4, kP, hkP, hkPi⟩ := Cond.selects_spec hsel
  cases hclB.symm.trans q1
  cases (State.methodFound?_of_named hnamed hy).symm.trans q2
  cases hnamed.symm.trans q3
  have hselP : selectMethod e.platform s.vm cellB.cls mk = .method mk := by rw [Launch.admits_selectMethod X.admits]; exact q4
  have hcodeE : c.code = Y.2.1 := hB.2.1
  obtain ⟨vm₁, X₁, hstep₁⟩ := X.invokevirtual hB.1 hB.2.2.2.2.1 hlk2 hnamed hmethM hstM hkP hkPi hy (a := ad (mj_ff ρ a0)) (cell := cellB) (by rw [hT]; exact hcB)
    (fun z h => by rw [h] at hoB; cases hoB) hselP hmethM habM hkP hkPi (g := F0 m pc ls (st.map (mj_v ad))) rfl (argsL := As.map (mj_v fun q => ad (mj_ff ρ q))) (rest := rest.map (mj_v ad)) (by rw [List.length_map, hn]; exact hlen _ hsigM) hstk (by rw [hcodeE]; exact hd)
  obtain ⟨v, B, X', ⟨st₀, t, L, b1, b2, b3, ⟨qx, ce, ho, r1, r2, r3, r4, r5, r6, -⟩, b5, b6, b7, b8⟩, hsteps⟩ := hK m meth c ⟨T.setVm vm₁, locs, cells, slots⟩ { F0 m pc ls (st.map (mj_v ad)) with stack := rest.map (mj_v ad) } (.invokevirtual index) mk _ X₁ rfl (hl.1.trans hB.2.2.1.symm) (by rw [hcodeE]; exact hd) (lv_room (by simpa [Function.comp_def, mj_v_cat] using hrr)) (X₁.named hnamed) ⟨by rw [hR2]; exact hcells.1, by rw [hR3]; exact hcells.2, hT, rfl⟩
  cases ho
  obtain ⟨U, BL, BC, BS⟩ := B
  dsimp only [Pt.U, Pt.locs, Pt.cells, Pt.slots] at X' b2 b3 b5 b7 b8 hsteps
  subst b5 b7 b8
  have hal : s.vm.Alike U.vm := X'.warmed.alike
  have hclE : s.vm.findClass cls = some ce.cls := by rw [← hal.findClass, b3]; exact r3
  have hpl : e.platform.magicAccessors = ({} : Platform).magicAccessors := by rw [X.admits.platform]
  have hself : mj_Th TL n0 s := hTh
  have hw0 : ∀ z ∈ TL, z.before args s = true := fun z hz => hTh args s (State.WarmedH.refl s) (fun _ _ => rfl) z hz
  have htab : c.exceptionTable.toList = pre ++ x :: suf := by
    rw [← hsplit, ← hxa, table_eq]
  obtain ⟨c3, c4, hc3, hc4, hasg⟩ := Cond.castable_spec (hw0 _ hxt)
  cases Option.some.inj (hc3.symm.trans hclE)
  obtain ⟨c5, hc5, hcl5⟩ := Cond.classLink_spec hB.2.2.2.2.1 (hB.2.2.2.2.2.1 _ hxl) e.platform hpl
  cases Option.some.inj (hc4.symm.trans hc5)
  obtain ⟨vm', X'', hgo⟩ := X'.thenCaughtThrough v (g := { F0 m pc ls (st.map (mj_v ad)) with stack := rest.map (mj_v ad) }) rfl ((hstep₁ _ fun acts => by rw [doInvoke_state]; exact Steps.refl _).trans hsteps) (cell := ce) (by rw [b2]; exact r1) (by rw [r2]; rfl) (by obtain ⟨k9, h9, -⟩ := Vm.findClass_spec hclE; exact ⟨k9, h9⟩) pre x suf htab
    (fun z hz => by
      rcases hpass z hz with h | ⟨hz0, nm, hl1, hn1⟩
      · exact Or.inl h
      · exact RowPassed.of_words hpl hB.2.2.2.2.1 hz0 (hB.2.2.2.2.2.1 _ hl1) hclE (hw0 _ hn1)) hxc2 (Or.inr ⟨hx0, _, hcl5, hasg⟩)
  have hz2 : H.size ≤ U.heap.size := by rw [b2]; have := r6.1; rw [b1] at this; exact this
  have hk2 : ∀ q : Nat, q < H.size → ¬ va_A (mj_w (fun q => ad (mj_ff ρ q)) cA' wc) H.size q → U.heap[q]? = H[q]? := fun q h1 h2 => by
    rw [b2]
    have := r6.2 q (by rw [b1]; exact h1) h2
    rw [b1] at this
    exact this
  have hpw := mj_D_pw hD
  have hP2 : va_P D' G.1 (mj_w ad cA' w) U.heap := by
    refine mj_join0 hP hD hin (w1 := mj_wr (mj_ff ρ) wc) rfl (fun q hq => ?_) (by rw [mj_w_wr, b2]; exact r5) (fun q h1 h3 => hk2 q h1 (by rw [← hWc]; exact h3))
    by_cases hm : q ∈ mj_wr (mj_ff ρ) wc
    · exact Or.inl hm
    · refine Or.inr ⟨hq, fun z hz he => hm ?_⟩
      obtain ⟨kz, hkz, hwz⟩ := mj_in_at (ad := ad) (cA := cA') (hin z hz)
      obtain ⟨kq, hkq, hwq⟩ := mj_in_at (ad := ad) (cA := cA') hq
      have := hD.1 kz kq _ _ hkz hkq (by show ad z.1 = ad q.1; rw [he])
      subst this
      rw [← Option.some.inj (hwz.symm.trans hwq)]
      exact hz
  have hAA : ∀ q, va_A (mj_w (fun q => ad (mj_ff ρ q)) cA' wc) H.size q → A q := by
    rintro q (⟨k, e1, hk⟩ | hk)
    · rw [← hWc] at hk
      unfold mj_w at hk
      rw [List.getElem?_map] at hk
      cases hz : (mj_wr (mj_ff ρ) wc)[k]? with
      | none => rw [hz] at hk; cases hk
      | some z =>
        rw [hz] at hk
        have hk : (ad z.1, mj_e ad cA' z.2) = (q, e1) := Option.some.inj hk
        obtain ⟨kz, hkz, -⟩ := mj_in_at (ad := ad) (cA := cA') (hin z (List.mem_of_getElem? hz))
        have := hD.2 kz _ hkz
        rw [← (Prod.mk.inj hk).1]
        exact this
    · exact hB.2.2.2.2.2.2.2.1 q (Nat.le_trans hS.1 hk)
  have hS2 : va_S A s.heap U.heap (locs ++ L) :=
    ⟨Nat.le_trans hS.1 hz2, fun q h1 h3 => by rw [hk2 q (Nat.lt_of_lt_of_le h1 hS.1) (fun z => h3 (hAA q z))]; exact hS.2.1 q h1 h3, fun q hq => by
      rcases List.mem_append.mp hq with h | h
      · exact hS.2.2 q h
      · exact hAA _ (b6 q h)⟩
  have k2 := kk (mj_au ad pn v) U.heap (locs ++ L) ls (fun z hz => by
    show (if z = pn then v else ad z) = ad0 z
    rw [if_neg (show ¬ z = pn from fun h => hkp (h ▸ hz))]
    exact h0 z hz) (by rw [mj_au_w hf.1]; exact hP2) (by rw [mj_au_w hf.1]; exact hD) hS2 (by rw [mj_au_l hf.2]; exact hl)
  have e3 : [Value.ref pn].map (mj_v (mj_au ad pn v)) = [.ref v] := by
    show [Value.ref (if pn = pn then v else ad pn)] = _
    rw [if_pos rfl]
  rw [e3] at k2
  obtain ⟨t2, a1, z1⟩ := k2 (U.setVm vm') rfl X''
  exact ⟨t2, hgo.trans a1, z1⟩
