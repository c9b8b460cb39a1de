/-! a static method with handlers is called -/
def mj_Sw (G : mj_G) (Y : mj_N) (hh : List (Nat × Nat × Nat × Nat)) (n : Nat) : Prop := Cond.static Y.1 ∈ G.2.1 ∧ Cond.initialized Y.1.cls ∈ G.2.1 ∧ Cond.codeWith Y.1 Y.2.1 Y.2.2.1 Y.2.2.2 hh ∈ G.2.1 ∧ Y.1.cls ≠ "java/lang/invoke/MethodHandle" ∧ Y.1.cls ≠ "java/lang/invoke/VarHandle" ∧ (parseMethodDescriptor Y.1.desc).map (fun d => d.parameters.length) = some n
theorem mj_preW_blind {G : mj_G} {D : va_G} {cA : Nat → ClassId} {av : List Value} {sz n : Nat} {W0 : va_W} {Z : mj_Zt} {TL : List Cond} : FrameBlind (va_Pc av (fun U => U.heap.size = sz ∧ va_P D G.1 W0 U.heap ∧ va_K D G.1 (mj_tys cA G.2.2) U ∧ va_D (fun q => n ≤ q) W0 ∧ mj_Z Z U ∧ n ≤ sz ∧ mj_Th TL n U)) := by
  intro a U g mk q
  obtain ⟨q0, q1, qP, qK, qD, qZ, qn, qT⟩ := q
  exact ⟨q0, q1, qP, va_K.moved (u := U) (U := U.calling g mk a) (Vm.Alike.refl U.vm) qK, qD, mj_Z_warm (U := U.calling g mk a) (State.WarmedH.refl U) qZ, qn, mj_Th_go (V := U.calling g mk a) qT (State.WarmedH.refl U) (fun _ _ => rfl)⟩
theorem mj_runSW {p : Program} {l : Launch} {e : Env} {R : Room} {s : State} {m : MethodId} {args : Array Value} {below : List Frame} {meth : Method} {c : Code} {H : Heap} {locs : List Loc} {cells slots mc ms n index nL : Nat} {y : MethodName} {bytes cc : ByteArray} {maxL : Nat} {ret : Option FieldType} {hh : List (Nat × Nat × Nat × Nat)} {Ts ws : List Cond} {rm : Room} {Pc : Array Value → State → Prop} {Qc : Array Value → State → Outcome → State → Prop} {free : Addr → Prop} {own : String} {As rest : List Value} {g : JFrame}
    (S : CallFix p m c cc nL s args Ts own) (hM : Met l y (Cond.codeWith y bytes maxL ret hh :: ws) rm Pc Qc mc ms free) (hgood : GoodIn Ts (Cond.codeWith y bytes maxL ret hh :: ws)) (hrc : rm.cells = mc ∧ rm.slots = ms) (hR : rm.frames + 1 ≤ R.frames ∧ 8 + (maxL + 11) + rm.locals ≤ R.locals)
    (hini : Cond.initialized y.cls ∈ Ts) (hlink : Cond.methodLink own index y ∈ Ts) (hstt : Cond.static y ∈ Ts) (hy : y.cls ≠ "java/lang/invoke/MethodHandle" ∧ y.cls ≠ "java/lang/invoke/VarHandle") (hlen : (parseMethodDescriptor y.desc).map (fun d => d.parameters.length) = some n) (hp : PreS s H Pc As)
    (hg : g.method = m) (hn : As.length = n) (hsize : g.locals.size = nL) (hstack : g.stack = As.reverse ++ rest) (hW : 2 * g.monitorRoom + (rest.map fun v => v.category).sum ≤ 8) (hdg : decode cc g.pc = .ok (.invokestatic index, 3)) (hf : cells + mc ≤ R.cells ∧ slots + ms ≤ R.slots) :
    va_Run p l e R s m args below meth c H locs cells slots mc ms g rest (Qc As.toArray) free := by
  obtain ⟨hx, hb, hml, ho, hts⟩ := S
  have hws : ∀ w ∈ (Cond.codeWith y bytes maxL ret hh :: ws), ∀ (a' : Array Value) (U : State), s.WarmedH U.vm → w.before a' U = true := fun w hw a' U hU => by
    obtain ⟨h1, h2⟩ := hgood w hw
    rcases h2 with h2 | ⟨ty, rfl⟩
    · exact word_at hU (Or.inl h2) (hts w h1)
    · exact word_at hU (Or.inr ⟨ty, rfl⟩) (hts _ h1)
  have hK : Back l R p e below s args y 3 8 (PreOf R mc ms Pc) (PostOf Qc mc ms free) := by
    refine Back.of_freeWith (handlers := hh) (S := headSpec (Cond.codeWith y bytes maxL ret hh :: ws) rm) (P := Pc) (K := fun _ _ _ _ _ => True) (Q := fun a st o t => Qc a st o t ∧ ∃ L, FrameEnd st o t L mc ms ∧ ∀ q ∈ L, free q.base) (bytes := bytes) (maxL := maxL) (ret := ret)
      (E := fun a st o t L k n => k = mc ∧ n = ms ∧ ∀ q ∈ L, free q.base) hM hR.1 hR.2 ?_ ?_ (fun _ _ _ _ _ _ _ _ _ => trivial) ?_ ?_
    · intro m meth c A a X hp
      exact ⟨atoms_intro fun w hw => hws w hw _ _ X.warmed, hws _ List.mem_cons_self _ _ X.warmed, word_at X.warmed (Or.inl (by first | rfl | simp [Cond.onTables, Cond.keeps, Cond.steady])) (hts _ hini), by rw [show (headSpec (Cond.codeWith y bytes maxL ret hh :: ws) rm).room.cells = mc from hrc.1]; exact hp.1, by rw [show (headSpec (Cond.codeWith y bytes maxL ret hh :: ws) rm).room.slots = ms from hrc.2]; exact hp.2.1⟩
    · intro m meth c A a g mk X hq
      exact hp.1 _ _ _ _ hq.2.2
    · intro a st o t ⟨hq, L, hF, hL⟩
      exact ⟨L, mc, ms, hF, rfl, rfl, hL⟩
    · intro m meth c A a g mk v t L k n X hp hq hF ⟨e1, e2, hL⟩
      subst e1; subst e2
      exact ⟨g, mk, t, L, rfl, rfl, hq.1, rfl, hL, rfl, rfl⟩
  intro T hT X
  obtain ⟨mk, methM, cM, hnamed, hmethM, -, -, -, -, -, -, hsigM⟩ := Cond.codeWith_spec (hts _ (hgood _ List.mem_cons_self).1)
  have hstatic : methM.isStatic = true := Cond.static_spec hnamed hmethM (hts _ hstt)
  obtain ⟨kP, hkP, -⟩ := className_of_methodNamed hnamed
  have hinitP : kP.init = .initialized := Cond.initialized_spec (findClass_of_methodNamed hnamed) hkP (hts _ hini)
  have hle : As.length = methM.sig.parameters.length := by
    rw [hsigM] at hlen
    exact hn.trans (Option.some.inj hlen).symm
  obtain ⟨vm₁, X₁, hstep₁⟩ := X.invokestatic hx ho (hts _ hlink) hnamed hmethM hstatic hkP hinitP hy (g := g) hg (argsL := As) (rest := rest) hle hstack (by rw [hb]; exact hdg)
  obtain ⟨v, ⟨U', l2, c2, s2⟩, X', ⟨g', mk', t, L, e1, e2, hq, h1, hL, h2, h3⟩, hsteps⟩ := hK m meth c ⟨T.setVm vm₁, locs, cells, slots⟩ { g with stack := rest } (.invokestatic index) mk As.toArray X₁ hg (hsize.trans hml.symm) (by rw [hb]; exact hdg) hW (X₁.named hnamed) ⟨hf.1, hf.2, hp.2 (T.setVm vm₁) hT X₁.warmed⟩
  dsimp only [Pt.U, Pt.locs, Pt.cells, Pt.slots] at X' e1 e2 h1 h2 h3 hsteps
  subst h1; subst h2; subst h3
  exact ⟨v, (T.setVm vm₁).calling g' mk' As.toArray, t, U', L, hT, X', hL, e1, e2, hq, fun target h => hstep₁ _ fun acts => by rw [doInvoke_state]; exact hsteps.trans h⟩
section MJW
variable {G : mj_G} {X : mj_X} {l : Launch} {D : va_G} {cA : Nat → ClassId} {Y : mj_N} {fr lo mc ms : Nat} {kp : Nat → Prop} {post : mj_R} {cells slots pc : Nat} {lv : mj_L} {st : List Value} {w : mj_M}
theorem mj_callSW0 (h : mj_E G X l D cA Y fr lo mc ms kp post) (hg : GoodIn G.2.1 G.2.1) {hh0 : List (Nat × Nat × Nat × Nat)} {TL : List Cond} {n0 : Nat} (hxc : mj_Xc X hh0 TL n0) {Z : mj_Zt} (hZ : mj_Z Z X.2.2.2.2.1) {Yc : mj_N} {hh : List (Nat × Nat × Nat × Nat)} {frc loc mcc msc n index : Nat} {As : List Value} {wc : mj_M} {Zc : mj_Zt} {K : List Nat} {postc : mj_R} (hev : mj_EvW G l D cA Yc hh frc loc mcc msc As wc K Zc TL n0 postc) (hvw : mj_Sw G Yc hh n)
    (hlink : Cond.methodLink Y.1.cls index Yc.1 ∈ G.2.1) (hZc : (∀ z ∈ Zc.1, z ∈ Z.1) ∧ ∀ C ∈ Zc.2, C ∈ Z.2) (hd : decode Y.2.1 pc = .ok (.invokestatic index, 3)) (hn : As.length = n) (hroom : frc + 1 ≤ fr ∧ 8 + (Yc.2.2.1 + 11) + loc ≤ lo) (hcells : cells + mcc ≤ mc ∧ slots + msc ≤ ms)
    (ρ σ : List (Nat × Nat)) {rest : List Value} (hin : ∀ q ∈ mj_wr (mj_ff ρ) wc, q ∈ w) (hnd : va_nd ((mj_wr (mj_ff ρ) wc).map Prod.fst) = true) (hst : st = (As.map (mj_v (mj_ff ρ))).reverse ++ rest) (hrr : (rest.map fun v => v.category).sum ≤ 8)
    (hK : ∀ q ∈ K, ∀ x ∈ σ, x.2 ≠ mj_ff ρ q) (hσ : ∀ x ∈ σ, mj_ff ρ x.1 = x.2) (hndσ : σ.Pairwise (fun a b => a.2 ≠ b.2)) (hfr : ∀ x ∈ σ, mj_nw x.2 w ∧ mj_nl x.2 lv ∧ mj_ns2 x.2 rest) (hkp : ∀ x ∈ σ, ¬ kp x.2)
    (kk : ∀ (r : Option Value) (w' : mj_M), postc r w' → mj_pw w → ∃ (st2 : List Value) (w2 : mj_M), (st2 = r.toList.map (mj_v (mj_ff ρ)) ++ rest ∧ mj_pw w2 ∧ ∀ q ∈ w2, q ∈ mj_wr (mj_ff ρ) w' ∨ (q ∈ w ∧ ∀ z ∈ mj_wr (mj_ff ρ) w', z.1 ≠ q.1)) ∧ (∀ z ∈ wc, ∃ y ∈ w', y.1 = z.1) ∧ mj_sw9 (K ++ σ.map Prod.fst) w' = true ∧ r.toList.all (mj_sv (K ++ σ.map Prod.fst)) = true ∧ mj_W G X (cells + mcc) (slots + msc) (pc + 3) lv st2 w2) : mj_W G X cells slots pc lv st w := by
  obtain ⟨p, l', e, R, s, m, args, below, meth, c, Q, D', cA', A, ad0, kp', nL⟩ := X
  obtain ⟨hB, rfl, rfl, rfl, rfl, hR1, hR2, hR3, hR4, hQ, hr, hlk⟩ := h
  obtain ⟨hxa, hTh, hAn⟩ := hxc
  have hn0 : n0 ≤ s.heap.size := hAn _ (hB.2.2.2.2.2.2.2.1 _ (Nat.le_refl _))
  have hZ : mj_Z Z s := hZ
  intro ad H locs ls h0 hP hD hS hl
  obtain ⟨hv1, hv3, hv4, hv5, hv6, hv7⟩ := hvw
  have hWc := mj_w_wr ad (mj_ff ρ) cA' wc
  have hPc : va_P D' G.1 (mj_w (fun q => ad (mj_ff ρ q)) cA' wc) H := by
    rw [← hWc]
    exact mj_P_in hP hin
  have hDc : va_D (fun q => n0 ≤ q) (mj_w (fun q => ad (mj_ff ρ q)) cA' wc) := by
    rw [← hWc]
    exact (mj_D_in hD hin hnd).weaken (fun _ _ _ z => hAn _ z)
  have hag : ∀ (U : State), U.heap = H → ∀ q, q < n0 → U.heap[q]? = s.heap[q]? := by
    intro U hU q hq
    rw [hU]
    exact hS.2.1 q (Nat.lt_of_lt_of_le hq hn0) (fun z => absurd (hAn q z) (Nat.not_le.mpr hq))
  have hgood : GoodIn G.2.1 (Cond.codeWith Yc.1 Yc.2.1 Yc.2.2.1 Yc.2.2.2 hh :: G.2.1) := mj_gin hg (fun x hx => by
    rcases List.mem_cons.mp hx with rfl | hx
    · exact hv4
    · exact hx)
  have hstk : (F0 m pc ls (st.map (mj_v ad))).stack = (As.map (mj_v fun q => ad (mj_ff ρ q))).reverse ++ rest.map (mj_v ad) := by
    show st.map (mj_v ad) = _
    have e9 : (As.map (mj_v (mj_ff ρ))).map (mj_v ad) = As.map (mj_v fun q => ad (mj_ff ρ q)) := by
      rw [List.map_map]
      exact List.map_congr_left (fun v _ => mj_v_v ad (mj_ff ρ) v)
    rw [hst, List.map_append, List.map_reverse, e9]
  have hrun := mj_runSW (As := As.map (mj_v fun q => ad (mj_ff ρ q))) (rest := rest.map (mj_v ad)) (g := F0 m pc ls (st.map (mj_v ad))) (cells := cells) (slots := slots) (locs := locs) (below := below) (meth := meth) (e := e) (H := H) (R := R)
    ⟨hB.1, hB.2.1, hB.2.2.1, hB.2.2.2.2.1, hB.2.2.2.2.2.1⟩ (hev (fun q => ad (mj_ff ρ q)) H.size) hgood ⟨rfl, rfl⟩ ⟨by rw [hR1]; exact hroom.1, by rw [hR4]; exact hroom.2⟩ hv3 hlink hv1 ⟨hv5, hv6⟩ hv7
    ⟨mj_preW_blind, fun U hU hW => ⟨rfl, by rw [hU], by rw [hU]; exact hPc, va_K.moved hW.alike hB.2.2.2.2.2.2.1, hDc, mj_Z_warm hW ⟨fun z hz => hZ.1 z (hZc.1 z hz), fun C hC => hZ.2 C (hZc.2 C hC)⟩, Nat.le_trans hn0 hS.1, mj_Th_go hTh hW (hag _ hU)⟩⟩
    rfl (by rw [List.length_map]; exact hn) hl.1 hstk (lv_room (by simpa [Function.comp_def, mj_v_cat] using hrr)) hd ⟨by rw [hR2]; exact hcells.1, by rw [hR3]; exact hcells.2⟩
  refine mj_afterN (ρ := ρ) (σ := σ) (w := w) (wc := wc) (postc := postc) hrun hS hP hD hB.2.2.2.2.2.2.2.1 hin hK hσ hndσ (fun x hx => (hfr x hx).1) (fun x hx => (hfr x hx).2.2) (fun r w' hp hpw => ?_)
  obtain ⟨st2, w2, h1, h2, h3, h4, k⟩ := kk r w' hp hpw
  refine ⟨st2, w2, h1, h2, h3, h4, fun ad' H1 locs1 hP1 hD1 hS1 => k (mj_aus ad ad' σ) H1 locs1 ls (fun z hz => ?_) hP1 hD1 hS1 (by rw [mj_aus_l (fun x hx => (hfr x hx).2.1)]; exact hl)⟩
  rw [mj_aus_n (fun x hx e => hkp x hx (by rw [e]; exact hz))]
  exact h0 z hz
end MJW
