/-! calls of an activation whose end is told otherwise (by program, out of part 04) -/
def mj_Eq (G : mj_G) (X : mj_X) (l : Launch) (D : va_G) (cA : Nat → ClassId) (Y : mj_N) (fr lo mc ms : Nat) (kp : Nat → Prop) : Prop :=
  mj_B G X (Y.1.cls, Y.1.name, Y.2.1, Y.2.2.1) ∧ match X with
  | (_, l', _, R, _, _, _, _, _, _, _, D', cA', _, _, kp', _) => l' = l ∧ D' = D ∧ cA' = cA ∧ kp' = kp ∧ R.frames = fr ∧ R.cells = mc ∧ R.slots = ms ∧ R.locals = lo
theorem mj_ET_q {G : mj_G} {X : mj_X} {l : Launch} {D : va_G} {cA : Nat → ClassId} {Y : mj_N} {fr lo mc ms : Nat} {w : mj_M} {TL : List Cond} {n : Nat} {cls : String} (h : mj_ET G X l D cA Y fr lo mc ms w TL n cls) : mj_Eq G X l D cA Y fr lo mc ms (fun _ => True) := by
  obtain ⟨p, l', e, R, s, m, args, below, meth, c, Q, D', cA', A, ad0, kp', nL⟩ := X
  obtain ⟨hB, h1, h2, h3, h4, h5, h6, h7, h8, -⟩ := h
  exact ⟨hB, h1, h2, h3, h4, h5, h6, h7, h8⟩
section MJQ
variable {G : mj_G} {X : mj_X} {l : Launch} {D : va_G} {cA : Nat → ClassId} {Y : mj_N} {fr lo mc ms : Nat} {kp : Nat → Prop} {cells slots pc : Nat} {lv : mj_L} {st : List Value} {w : mj_M}
theorem mj_callV0q (h : mj_Eq G X l D cA Y fr lo mc ms kp) (hg : GoodIn G.2.1 G.2.1) {Yc : mj_N} {frc loc mcc msc n index : Nat} {As : List Value} {a0 : Nat} {wc : mj_M} {postc : mj_R} (hev : mj_Ev G l D cA Yc frc loc mcc msc (.ref a0 :: As) wc (fun _ => True) postc) (hvw : mj_VW G Yc n)
    (hlink : Cond.methodLink Y.1.cls index Yc.1 ∈ G.2.1) (hd : decode Y.2.1 pc = .ok (.invokevirtual index, 3)) (hn : As.length = n) (hroom : frc + 1 ≤ fr ∧ 8 + (Yc.2.2.1 + 11) + loc ≤ lo) (hcells : cells + mcc ≤ mc ∧ slots + msc ≤ ms)
    (ρ : List (Nat × Nat)) {rest : List Value} {ci : Nat} {fs : List Value} {T : u_T} {N : Nat} (hrec : mj_lk wc a0 some = some (.inr (ci, fs))) (hci : G.1[ci]? = some (Yc.1.cls, T, N))
    (hin : ∀ q ∈ mj_wr (mj_ff ρ) wc, q ∈ w) (hnd : va_nd ((mj_wr (mj_ff ρ) wc).map Prod.fst) = true) (hst : st = ((Value.ref a0 :: As).map (mj_v (mj_ff ρ))).reverse ++ rest) (hrr : (rest.map fun v => v.category).sum ≤ 8)
    (kk : ∀ (r : Option Value) (w' : mj_M), postc r w' → mj_pw w → ∃ (st2 : List Value) (w2 : mj_M), (st2 = r.toList.map (mj_v (mj_ff ρ)) ++ rest ∧ w2.map Prod.fst = w.map Prod.fst ∧ ∀ q ∈ w2, q ∈ mj_wr (mj_ff ρ) w' ∨ (q ∈ w ∧ ∀ z ∈ mj_wr (mj_ff ρ) w', z.1 ≠ q.1)) ∧ w'.map Prod.fst = wc.map Prod.fst ∧ mj_W G X (cells + mcc) (slots + msc) (pc + 3) lv st2 w2) : mj_W G X cells slots pc lv st w := by
  obtain ⟨p, l', e, R, s, m, args, below, meth, c, Q, D', cA', A, ad0, kp', nL⟩ := X
  obtain ⟨hB, rfl, rfl, rfl, rfl, hR1, hR2, hR3, hR4⟩ := h
  intro ad H locs ls h0 hP hD hS hl
  obtain ⟨hv1, hv2, hv3, hv4, hv5, hv6, hv7⟩ := hvw
  have hWc := mj_w_wr ad (mj_ff ρ) cA' wc
  have hPc : va_P D' G.1 (mj_w (fun q => ad (mj_ff ρ q)) cA' wc) H := by
    rw [← hWc]
    exact mj_P_in hP hin
  have hDc : va_D (fun _ => True) (mj_w (fun q => ad (mj_ff ρ q)) cA' wc) := by
    rw [← hWc]
    exact (mj_D_in hD hin hnd).weaken (fun _ _ _ _ => trivial)
  obtain ⟨q0, hq0⟩ : ∃ q0 : Nat, wc[q0]? = some (a0, (Sum.inr (ci, fs) : mj_C)) := by
    rcases mj_lk_or (β := mj_C) wc a0 with h1 | ⟨v, q0, h1, h2⟩
    · rw [h1] at hrec; cases hrec
    · rw [h1] at hrec
      exact ⟨q0, by rw [h2, Option.some.inj hrec]⟩
  have hgood : GoodIn G.2.1 (wsV Y.1.cls index Yc.1.cls Yc.1 (Cond.code Yc.1 Yc.2.1 Yc.2.2.1 Yc.2.2.2 :: G.2.1)) := by
    refine mj_gin hg (fun x hx => ?_)
    unfold wsV at hx
    rcases List.mem_append.mp hx with hx | hx
    · simp only [List.mem_cons, List.not_mem_nil, or_false] at hx
      rcases hx with rfl | rfl | rfl | rfl
      · exact hlink
      · exact hv1
      · exact hv2
      · exact hv3
    · rcases List.mem_cons.mp hx with rfl | hx
      · exact hv4
      · exact hx
  have hrun := va_runV (C := Yc.1.cls) (b := ad (mj_ff ρ a0)) (As := As.map (mj_v fun q => ad (mj_ff ρ q))) (rest := rest.map (mj_v ad)) (g := F0 m pc ls (st.map (mj_v ad))) (cells := cells) (slots := slots) (locs := locs) (below := below) (meth := meth) (e := e) (H := H)
    ⟨hB.1, hB.2.1, hB.2.2.1, hB.2.2.2.2.1, hB.2.2.2.2.2.1⟩ (hev (fun q => ad (mj_ff ρ q)) H.size)
    (cwV (R := R) n hB.2.2.2.2.2.1 hgood rfl rfl rfl ⟨rfl, hv5, hv6, hv7⟩ ⟨by rw [hR1]; exact hroom.1, by rw [hR4]; exact hroom.2⟩)
    ⟨mj_pre_blind, va_recv hB.2.2.2.2.2.2.1 hPc hci (mj_w_at hq0), fun U hU hW => ⟨rfl, by rw [hU], by rw [hU]; exact hPc, va_K.moved hW.alike hB.2.2.2.2.2.2.1, hDc⟩⟩
    rfl (by rw [List.length_map]; exact hn) hl.1 (by
      show st.map (mj_v ad) = _
      have e9 : ((Value.ref a0 :: As).map (mj_v (mj_ff ρ))).map (mj_v ad) = (Value.ref a0 :: As).map (mj_v fun q => ad (mj_ff ρ q)) := by
        rw [List.map_map]
        exact List.map_congr_left (fun v _ => mj_v_v ad (mj_ff ρ) v)
      rw [hst, List.map_append, List.map_reverse, e9, List.map_cons, List.reverse_cons, List.append_assoc]
      rfl) (lv_room (by simpa [Function.comp_def, mj_v_cat] using hrr)) hd ⟨by rw [hR2]; exact hcells.1, by rw [hR3]; exact hcells.2⟩
  refine mj_afterP (ρ := ρ) (w := w) (wc := wc) (postc := postc) hrun hS hP hD hB.2.2.2.2.2.2.2.1 hin (fun r w' hp hpw => ?_)
  obtain ⟨st2, w2, h1, h2, k⟩ := kk r w' hp hpw
  exact ⟨st2, w2, h1, h2, fun H1 locs1 hP1 hD1 hS1 => k ad H1 locs1 ls h0 hP1 hD1 hS1 hl⟩
theorem mj_callVq (h : mj_Eq G X l D cA Y fr lo mc ms kp) (hg : GoodIn G.2.1 G.2.1) {Yc : mj_N} {frc loc mcc msc n index : Nat} {As : List Value} {a0 : Nat} {wc : mj_M} {postc : mj_R} (hev : mj_Ev G l D cA Yc frc loc mcc msc (.ref a0 :: As) wc (fun _ => True) postc) (hvw : mj_VW G Yc n)
    (hlink : Cond.methodLink Y.1.cls index Yc.1 ∈ G.2.1) (hd : decode Y.2.1 pc = .ok (.invokevirtual index, 3)) (hn : As.length = n) (hroom : frc + 1 ≤ fr ∧ 8 + (Yc.2.2.1 + 11) + loc ≤ lo) (hcells : cells + mcc ≤ mc ∧ slots + msc ≤ ms)
    (ρ : List (Nat × Nat)) {wx : mj_M} {rest as2 : List Value} {ci : Nat} {fs : List Value} {T : u_T} {N : Nat} (hrec : mj_lk wc a0 some = some (.inr (ci, fs))) (hci : G.1[ci]? = some (Yc.1.cls, T, N))
    (hsub : mj_ct ρ wc w = some (wx, wx)) (hnd : va_nd (wx.map Prod.fst) = true) (hargs : mj_rl ρ (.ref a0 :: As) some = some as2) (hst : st = as2.reverse ++ rest) (hrr : (rest.map fun v => v.category).sum ≤ 8)
    (kk : ∀ (r : Option Value) (w' : mj_M), postc r w' → ∃ (st2 : List Value) (w2 : mj_M), mj_fin ρ r w' w rest = some (st2, w2) ∧ w'.map Prod.fst = wc.map Prod.fst ∧ mj_W G X (cells + mcc) (slots + msc) (pc + 3) lv st2 w2) : mj_W G X cells slots pc lv st w := by
  obtain ⟨hwx, hin⟩ := mj_ct_in hsub
  rw [hwx] at hnd
  have hargs2 := mj_rl_eq hargs
  rw [hargs2] at hst
  refine mj_callV0q h hg hev hvw hlink hd hn hroom hcells ρ hrec hci hin hnd hst hrr (fun r w' hp hpw => ?_)
  obtain ⟨st2, w2, h1, h2, h3⟩ := kk r w' hp
  exact ⟨st2, w2, mj_fin_eq h1 hpw, h2, h3⟩
end MJQ
