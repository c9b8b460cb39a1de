/-! the law's helper cell: the script's k-th number, or 0 -/
def mj_EvX (G : mj_G) (l : Launch) (D : va_G) (cA : Nat → ClassId) (Y : mj_N) (fr lo : Nat) (args : List Value) (sp L : Nat) (xs : Nat → Int32) (post : mj_R) : Prop :=
  ∀ (ad : Nat → Nat) (sz : Nat), Met l Y.1 (Cond.code Y.1 Y.2.1 Y.2.2.1 Y.2.2.2 :: G.2.1) { frames := fr, cells := 0, slots := 0, locals := lo } (va_Pc (args.map (mj_v ad)) (fun U => U.heap.size = sz ∧ va_P D G.1 (mj_w ad cA []) U.heap ∧ va_K D G.1 (mj_tys cA G.2.2) U ∧ va_D (fun _ => True) (mj_w ad cA []) ∧ va_X (ad sp) L xs U U.heap ∧ ad sp < sz)) (mj_Q G D cA (va_A (mj_w ad cA []) sz) ad (fun _ => True) post) 0 0 (va_A (mj_w ad cA []) sz)
theorem mj_evX {G : mj_G} {l : Launch} {D : va_G} {cA : Nat → ClassId} {Y : mj_N} {fr lo : Nat} {args : List Value} {sp L : Nat} {xs : Nat → Int32} {post : mj_R} {lv : mj_L} (hy : plainName Y.1.cls = true) (hlen : (lg_sl args).length ≤ Y.2.2.1) (hlv : lv_args 0 args = lv)
    (body : ∀ X : mj_X, mj_E G X l D cA Y fr lo 0 0 (fun _ => True) post → mj_Sp X sp L xs → mj_W G X 0 0 0 lv [] []) : mj_EvX G l D cA Y fr lo args sp L xs post := by
  intro ad sz
  refine Met.ofW (cc := Y.2.1) (maxL := Y.2.2.1) (ret := Y.2.2.2) hy rfl ?_
  intro p e s m args' below meth c s₁ B hml hv
  obtain ⟨rfl, hsz, hP, hK, hD0, hX, hb⟩ := hv
  have hts := atoms_spec (ws := Cond.code Y.1 Y.2.1 Y.2.2.1 Y.2.2.2 :: G.2.1) B.pre
  have hown := findClass_of_methodNamed B.named
  have hin := (name_of_methodNamed B.named B.method).1
  subst hsz
  have hD := hD0.self (sz := s.heap.size)
  have hA : ∀ q, s.heap.size ≤ q → va_A (mj_w ad cA []) s.heap.size q := fun q h => Or.inr h
  have hl := lv_entry (args.map (mj_v ad)) (n := Y.2.2.1) (by rw [mj_sl_len]; exact hlen)
  rw [lg_entry_eq]
  have hb := body (p, l, e, (headSpec (Cond.code Y.1 Y.2.1 Y.2.2.1 Y.2.2.2 :: G.2.1) { frames := fr, cells := 0, slots := 0, locals := lo }).room, s, m, (args.map (mj_v ad)).toArray, below, meth, c, MQ below (mj_Q G D cA (va_A (mj_w ad cA []) s.heap.size) ad (fun _ => True) post) (args.map (mj_v ad)).toArray s 0 0 (va_A (mj_w ad cA []) s.heap.size), D, cA, va_A (mj_w ad cA []) s.heap.size, ad, (fun _ => True), Y.2.2.1)
    ⟨⟨B.exec, B.bytes, hml, rfl, hown, fun w h => hts w (List.mem_cons_of_mem _ h), hK, hA, hin⟩, rfl, rfl, rfl, rfl, rfl, rfl, rfl, rfl, rfl, B.returns, B.notSynchronized⟩
    ⟨hX, hb, fun h => by
      rcases h with ⟨k, e1, hk⟩ | hk
      · cases hk
      · exact absurd hb (Nat.not_lt.mpr hk), trivial⟩
  refine hb ad s.heap [] _ (fun _ _ => rfl) hP hD va_S.rf ?_
  rw [← hlv, mj_l_args]
  exact hl
theorem ev_Lw_cell (l : Launch) (D : va_G) (cA : Nat → ClassId) (L : Nat) (hL : L ≤ 4097) (xs : Nat → Int32) : mj_EvX zG l D cA m_Lw_cell 1 40 [.ref 301, .int 0] 301 L xs (fun r w => r = some (.int (if 0 < L then xs 0 else 0)) ∧ w = []) := by
  refine mj_evX (lv := [(0, .ref 301), (1, .int 0)]) (by decide +kernel) (Nat.le_of_ble_eq_true rfl) rfl (fun X h hX => ?_)
  refine mj_blk h.1 b_Lw_cell_0 rfl trivial ?_
  refine mj_slen h.1 hX d_Lw_cell_2 ?_
  refine mj_icge h.1 (tgt := 12) d_Lw_cell_3 (by decide) (fun h1 => ?_) (fun h1 => ?_)
  · have h2 : ¬ 0 < L := by
      rw [show (0 : Int32) = nI 0 from rfl, nI_leI (by omega) (by omega)] at h1
      omega
    refine mj_blk h.1 b_Lw_cell_12 rfl trivial ?_
    exact mj_iret h rfl d_Lw_cell_13 (by decide) (by decide) ⟨by rw [if_neg h2], rfl⟩
  · have h2 : 0 < L := by
      rw [show (0 : Int32) = nI 0 from rfl, nI_leI (by omega) (by omega)] at h1
      omega
    refine mj_blk h.1 b_Lw_cell_6 rfl trivial ?_
    refine mj_sld h.1 hX (i := 0) (vp_in_nI (n := 0) h2 (by omega)) d_Lw_cell_8 ?_
    refine mj_blk h.1 b_Lw_cell_9 rfl trivial ?_
    exact mj_iret h rfl d_Lw_cell_13 (by decide) (by decide) ⟨by rw [if_pos h2]; rfl, rfl⟩
section MJX
variable {G : mj_G} {X : mj_X} {l : Launch} {D : va_G} {cA : Nat → ClassId} {Y : mj_N} {fr lo mc ms : Nat} {kp : Nat → Prop} {post : mj_R} {cells slots pc : Nat} {lv : mj_L} {st : List Value} {w : mj_M}
theorem mj_callX (h : mj_E G X l D cA Y fr lo mc ms kp post) (hg : GoodIn G.2.1 G.2.1) {Yc : mj_N} {frc loc n index sp L : Nat} {xs : Nat → Int32} (hX : mj_Sp X sp L xs) {As : List Value} {v : Int32} (hev : mj_EvX G l D cA Yc frc loc As sp L xs (fun r w => r = some (.int v) ∧ w = [])) (hvw : mj_SW G Yc n) (hcls : Yc.1.cls = Y.1.cls)
    (hlink : Cond.methodLink Y.1.cls index Yc.1 ∈ G.2.1) (hd : decode Y.2.1 pc = .ok (.invokestatic index, 3)) (hn : As.length = n) (hroom : frc + 1 ≤ fr ∧ 8 + (Yc.2.2.1 + 11) + loc ≤ lo) (hcells : cells ≤ mc ∧ slots ≤ ms)
    {rest : List Value} (hst : st = As.reverse ++ rest) (hrr : (rest.map fun v => v.category).sum ≤ 8)
    (kk : mj_W G X cells slots (pc + 3) lv (.int v :: rest) w) : mj_W G X cells slots pc lv st w := by
  obtain ⟨p, l', e, R, s, m, args, below, meth, c, Q, D', cA', A, ad0, kp', nL⟩ := X
  obtain ⟨hB, rfl, rfl, rfl, rfl, hR1, hR2, hR3, hR4, hQ, hr, hlk⟩ := h
  obtain ⟨hX1, hX2, hX3, hX4⟩ := hX
  intro ad H locs ls h0 hP hD hS hl
  obtain ⟨hv1, hv3, hv4, hv5, hv6, hv7⟩ := hvw
  have hgood : GoodIn G.2.1 (wsS Y.1.cls index Yc.1 (Cond.code Yc.1 Yc.2.1 Yc.2.2.1 Yc.2.2.2 :: G.2.1)) := by
    refine mj_gin hg (fun x hx => ?_)
    unfold wsS at hx
    rcases List.mem_append.mp hx with hx | hx
    · simp only [List.mem_cons, List.not_mem_nil, or_false] at hx
      rcases hx with rfl | rfl | rfl
      · exact hlink
      · exact hv1
      · rw [← hcls]
        exact hv3
    · rcases List.mem_cons.mp hx with rfl | hx
      · exact hv4
      · exact hx
  have hXH : va_X (ad sp) L xs s H := by
    rw [h0 sp hX4]
    exact hX1.kept (hS.2.1 _ hX2 hX3)
  have hP0 : va_P D' G.1 (mj_w ad cA' []) H := mj_P_in hP (fun _ h => nomatch h)
  have hD0 : va_D (fun _ => True) (mj_w ad cA' []) := ⟨fun i j p q h => (by cases h), fun k q h => (by cases h)⟩
  have hrun := va_runS (As := As.map (mj_v ad)) (rest := rest.map (mj_v ad)) (g := F0 m pc ls (st.map (mj_v ad))) (cells := cells) (slots := slots) (locs := locs) (below := below) (meth := meth) (e := e) (H := H)
    ⟨hB.1, hB.2.1, hB.2.2.1, hB.2.2.2.2.1, hB.2.2.2.2.2.1⟩ (hev ad H.size)
    (cwS (R := R) n hB.2.2.2.2.2.1 hgood rfl rfl rfl ⟨hcls, hv5, hv6, hv7⟩ ⟨by rw [hR1]; exact hroom.1, by rw [hR4]; exact hroom.2⟩)
    ⟨fun a U g mk q => by
      obtain ⟨q0, q1, qP, qK, qD, qX, qb⟩ := q
      exact ⟨q0, q1, qP, va_K.moved (u := U) (U := U.calling g mk a) (Vm.Alike.refl U.vm) qK, qD, va_X.moved (u := U) (U := U.calling g mk a) (Vm.Alike.refl U.vm) qX, qb⟩, fun U hU hW => ⟨rfl, by rw [hU], by rw [hU]; exact hP0, va_K.moved hW.alike hB.2.2.2.2.2.2.1, hD0, by rw [hU]; exact va_X.moved hW.alike hXH, by rw [h0 sp hX4]; exact Nat.lt_of_lt_of_le hX2 hS.1⟩⟩
    rfl (by rw [List.length_map]; exact hn) hl.1 (by
      show st.map (mj_v ad) = _
      rw [hst, List.map_append, List.map_reverse]) (lv_room (by simpa [Function.comp_def, mj_v_cat] using hrr)) hd ⟨by rw [hR2]; exact hcells.1, by rw [hR3]; exact hcells.2⟩
  refine mj_afterP (ρ := []) (w := w) (wc := []) (postc := fun r w => r = some (.int v) ∧ w = []) hrun hS hP hD hB.2.2.2.2.2.2.2.1 (fun _ h => nomatch h) (fun r w' hp hpw => ?_)
  obtain ⟨rfl, rfl⟩ := hp
  exact ⟨.int v :: rest, w, ⟨rfl, rfl, fun q hq => Or.inr ⟨hq, fun _ h => nomatch h⟩⟩, rfl, fun H1 locs1 hP1 hD1 hS1 => kk ad H1 locs1 ls h0 hP1 hD1 hS1 hl⟩
end MJX
