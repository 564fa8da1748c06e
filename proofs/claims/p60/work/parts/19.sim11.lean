/-! THE SMALL MACHINE AND THE MACHINE: the whole run -/
section SIM
variable {p : Program} {l : Launch} {e : Env} {R : Room} {s : State} {m : MethodId} {args : Array Value} {below : List Frame} {meth : Method} {c : Code} {H : Heap} {locs : List Loc} {cells slots : Nat} {Q : State → Prop}
variable {X : am_X} {mi pc pc' : Nat} {ls ls' st st' : List AV} {g g' : AG} {M M' : AM} {lsM : Array Slot}
set_option maxRecDepth 20000 in
theorem am_lo1 {d q L : Nat} (h : 60 * d + 360 ≤ L) (hq : q ≤ 40) : 8 + (q + 11) + (60 * d + 300) ≤ L := by omega
theorem am_take {na : Nat} {a : Nat} {rest : List AV} (h : st.drop na = .inr (.inl a) :: rest) : st.map (am_V X) = ((st.take na).reverse.map (am_V X)).reverse ++ am_V X (aR a) :: rest.map (am_V X) := by
  rw [← List.map_reverse, List.reverse_reverse, ← List.map_cons, ← h, ← List.map_append, List.take_append_drop]
theorem am_takeS {na : Nat} : st.map (am_V X) = ((st.take na).reverse.map (am_V X)).reverse ++ (st.drop na).map (am_V X) := by
  rw [← List.map_reverse, List.reverse_reverse, ← List.map_append, List.take_append_drop]
/-- a call: the contract of the callee, at the place of the call -/
theorem am_run (hG : am_Gl X) (hF : am_Fx X p l s m args meth c mi) (hR : am_Rel X g M H) (hl : lv_has lsM (am_nL mi) (am_lv X ls)) {f d y : Nat} {i : Instr} {as rest : List AV} {o1 : AO} {g1 : AG} {M1 : AM} (hB : am_Bd X l f)
    (hi : am_ins mi pc = some i) (hc : am_call mi i st g = some (y, as, rest)) (hlen : as.length ≤ am_nL y) (hx : am_exec f d y 0 (am_pad y as) [] g M = some (o1, g1, M1)) (hfr : d + 11 ≤ R.frames) (hlo : 60 * d + 360 ≤ R.locals) (hcl : cells + (gN g1 - gN g) ≤ R.cells) (hsl : slots + (gS g1 - gS g) ≤ R.slots) :
    ∃ a, vx_Run p l e R s m args below meth c H locs cells slots (gN g1 - gN g) (gS g1 - gS g) (F0 m pc lsM (st.map (am_V X))) (rest.map (am_V X)) (am_Qc X o1 g1 M1 a) (am_XC X o1 g1 M1) (xU X) := by
  have hst : l.stackTraces = false := hF.2.2.2.2.2.2.2.2.2.1
  have hW : (xS X).WarmedH s.vm := hF.2.2.2.2.2.2.2.2.2.2.1
  have hw := fun w h => am_wd (w := w) hF h
  have hK := am_Kof hG hF
  obtain ⟨hex, hb, hml, hown, hts, -⟩ := hF
  have S : CallFix p m c (am_code mi) (am_nL mi) s args am_ws (am_own mi) := ⟨hex, hb, hml, hown, hts⟩
  have hroom : (rest.map am_cat).sum ≤ 8 → 2 * (F0 m pc lsM (st.map (am_V X))).monitorRoom + ((rest.map (am_V X)).map fun v => v.category).sum ≤ 8 := fun h => by
    rw [am_sumV hG]
    show 2 * 0 + _ ≤ 8
    omega
  have pay : ∀ y, am_cw y ∈ am_ws → ∀ w ∈ am_cw y :: am_ws, ∀ (a' : Array Value) (U : State), s.WarmedH U.vm → w.before a' U = true := fun y hy w hwm a' U hWU => by
    have hm : w ∈ am_ws := by
      rcases List.mem_cons.mp hwm with rfl | h
      · exact hy
      · exact h
    exact word_at hWU (am_ws_good w hm) (hts w hm)
  have hPre : ∀ (asV : List AV), FrameBlind (fun a U => a = (asV.map (am_V X)).toArray ∧ am_Rel X g M U.heap ∧ (xS X).WarmedH U.vm) ∧ ∀ U : State, U.heap = H → s.WarmedH U.vm → ((asV.map (am_V X)).toArray = (asV.map (am_V X)).toArray ∧ am_Rel X g M U.heap ∧ (xS X).WarmedH U.vm) :=
    fun asV => ⟨fun a U g9 mk h => h, fun U hU hWU => ⟨rfl, by rw [hU]; exact hR, hW.trans hWU⟩⟩
  have hcats : ∀ na, na ≤ st.length → ((st.take na).map am_cat).sum = na → ∀ v ∈ (st.take na).reverse, am_cat v = 1 := fun na h1 h2 v hv => am_cat1 (by rw [h2, List.length_take]; omega) v (List.mem_reverse.mp hv)
  have hfr1 : ∀ a b : Nat, (am_rm d a b).frames + 1 ≤ R.frames := fun a b => by show d + 10 + 1 ≤ R.frames; omega
  have hlo1 : ∀ q a b : Nat, q ≤ 40 → 8 + (q + 11) + (am_rm d a b).locals ≤ R.locals := fun q a b hq => am_lo1 hlo hq
  unfold am_call at hc
  split at hc
  · next idx =>
    split at hc
    · next i0 y2 pz e1 =>
      split at hc
      · next a rest2 e2 =>
        split at hc
        · next h1 =>
          cases hc
          obtain ⟨h1, h2, h3, h4⟩ := h1
          obtain ⟨hi0, hml2⟩ := am_ml_ok e1
          unfold am_mlok at hml2
          obtain ⟨q1, q2, q3, q4⟩ := pz
          dsimp only at hi0
          subst hi0
          simp only [Bool.and_eq_true, decide_eq_true_eq] at hml2
          obtain ⟨⟨⟨⟨m1, m2⟩, m3⟩, m4⟩, m5, m7, m8⟩ := hml2
          obtain ⟨k1, k2, k3, k4, k5, k6⟩ := am_mokf m5
          have hcc : ∀ v ∈ aR a :: (st.take (am_na y)).reverse, am_cat v = 1 := fun v hv => by
            rcases List.mem_cons.mp hv with rfl | hv
            · rfl
            · exact hcats _ h3 h4 v hv
          have hM := am_met hG hst hB m5 hx hlen hcc
          have hcw : am_cw y = Cond.code (am_name y) (am_code y) (am_nL y) (am_rt y) := by unfold am_cw; rw [if_pos m8]
          have hrecv : ∃ (b : Nat) (cellB : Cell), am_V X (aR a) = .ref b ∧ H[b]? = some cellB ∧ cellB.vm.isStatics = false ∧ s.vm.findClass (am_name y).cls = some cellB.cls := by
            rw [← k3]
            have obj : am_ob (gK g a) → am_cn (gK g a) = am_own y → ∃ (b : Nat) (cellB : Cell), am_V X (aR a) = .ref b ∧ H[b]? = some cellB ∧ cellB.vm.isStatics = false ∧ s.vm.findClass (am_own y) = some cellB.cls := by
              intro m7 hcn
              obtain ⟨ha, -, cell, c1, c2, c3, -⟩ := am_R_obj hR (r := a) m7
              obtain ⟨n1, n2⟩ := am_nf_ok _ (show gK g a < 20 by omega)
              have := (hK.1 _ _ n1).2.1
              refine ⟨_, cell, am_ad_new ha, c1, by rw [c3]; rfl, ?_⟩
              rw [c2, ← hcn, ← am_cn_ok _ m7]
              exact this
            rcases h1 with h1 | ⟨h1, h19⟩
            · rcases m7 with m7 | m7
              · exact obj (by rw [h1]; exact m7) (by rw [h1]; rfl)
              · have ha : a < 100 := by
                  rcases Nat.lt_or_ge a 100 with q | q
                  · exact q
                  · rcases Nat.lt_or_ge a (100 + gN g) with q2 | q2
                    · rcases hR.2.2.2.2 a q q2 with h | h | h
                      · have := h.1; omega
                      · omega
                      · omega
                    · have := hR.2.2.2.1 a q2; omega
                obtain ⟨j, hj, rfl⟩ : ∃ j, j < 16 ∧ a = 10 + 2 * j := by
                  have := hR.2.2.1.1 a ha
                  rcases am_k0_cases a with h | h | h | h
                  · omega
                  · exact h.2
                  · omega
                  · omega
                obtain ⟨aa, vv, p1, p2, p3, -⟩ := hG.2.2.2.1 j hj
                obtain ⟨cell, c1, c2, c3, c4⟩ := va_O.moved hW.alike p3
                refine ⟨aa, cell, ?_, by rw [hR.2.1 aa (Nat.not_le.mp c4)]; exact c1, c2, ?_⟩
                · show am_ad X _ = _
                  unfold am_ad
                  rw [if_neg (by omega), if_pos (by omega), p1]
                · unfold am_own
                  rw [m7]
                  exact c3
            · exact obj (by rw [h19]; decide) (by unfold am_own; rw [h19, h1]; decide +kernel)
          obtain ⟨b, cellB, r1, r2, r3, r4⟩ := hrecv
          refine ⟨_, vx_runV (C := (am_name y).cls) (bytes := am_code y) (maxL := am_nL y) (ret := am_rt y) (As := (st.take (am_na y)).reverse.map (am_V X)) (b := b) (rest := rest.map (am_V X)) (n := am_na y) S hM ?_ ?_ rfl (by rw [List.length_map, List.length_reverse, List.length_take]; omega) hl.1 ?_ (hroom h2) (am_dec hi rfl) ⟨hcl, hsl⟩⟩
          · refine ⟨⟨rfl, rfl, hfr1 _ _, hlo1 _ _ _ k4, pay y k1, by rw [← hcw]; exact List.mem_cons_self, by rw [← hcw]; exact hw _ k1, hw _ (am_has_in m3), k5, fun sig hs => ?_, hw _ (am_has_in m1)⟩, hw _ (am_has_in m2), hw _ (am_has_in m4)⟩
            rw [hs] at k6
            exact (Option.some.inj k6).symm
          · obtain ⟨g1, g2⟩ := hPre (aR a :: (st.take (am_na y)).reverse)
            refine ⟨g1, ⟨cellB, r2, r3, r4⟩, fun U hU hWU => ?_⟩
            have := g2 U hU hWU
            rw [← r1]
            exact this
          · rw [← r1]
            exact am_take e2
        · cases hc
      · cases hc
    · next i0 y2 pz e1 =>
      split at hc
      · next a rest2 e2 =>
        split at hc
        · next h1 =>
          cases hc
          obtain ⟨h1, h2, h3, h4⟩ := h1
          obtain ⟨hi0, hml2⟩ := am_ml_ok e1
          unfold am_mlok at hml2
          obtain ⟨q1, q2, x0, q4⟩ := pz
          dsimp only at hi0
          subst hi0
          simp only [Bool.and_eq_true, decide_eq_true_eq] at hml2
          obtain ⟨⟨⟨⟨⟨⟨m1, m2⟩, m3⟩, m4⟩, m4b⟩, m4c⟩, m5, m6, m8, m9, m10⟩ := hml2
          obtain ⟨k1, k2, k3, k4, k5, k6⟩ := am_mokf m5
          obtain ⟨kx1, kx2, kx3, kx4, kx5, kx6⟩ := am_mokf m6
          have hcc : ∀ v ∈ aR a :: (st.take (am_na y)).reverse, am_cat v = 1 := fun v hv => by
            rcases List.mem_cons.mp hv with rfl | hv
            · rfl
            · exact hcats _ h3 h4 v hv
          have hM := am_met hG hst hB m5 hx hlen hcc
          have hcw : am_cw y = Cond.code (am_name y) (am_code y) (am_nL y) (am_rt y) := by unfold am_cw; rw [if_pos m8]
          have hcx : am_cw x0 = Cond.code (am_name x0) (am_code x0) (am_nL x0) (am_rt x0) := by unfold am_cw; rw [if_pos m9]
          obtain ⟨ha, -, cell, c1, c2, c3, -⟩ := am_R_obj hR (r := a) (by rw [h1]; decide)
          have hfc : s.vm.findClass "java/lang/StringBuilder" = some cell.cls := by
            rw [c2, h1]
            exact (hK.1 18 _ rfl).2.1
          have hcx2 := hw _ kx1
          rw [hcx] at hcx2
          refine ⟨_, vx_runU (C := "java/lang/StringBuilder") (owner := (am_name x0).cls) (x := am_name x0) (y := am_name y) (bytes := am_code y) (maxL := am_nL y) (ret := am_rt y) (As := (st.take (am_na y)).reverse.map (am_V X)) (b := xB X + (a - 100)) (rest := rest.map (am_V X)) (n := am_na y) S hM ?_ ?_ rfl (by rw [List.length_map, List.length_reverse, List.length_take]; omega) hl.1 ?_ (hroom h2) (am_dec hi rfl) ⟨hcl, hsl⟩⟩
          · refine ⟨⟨rfl, rfl, hfr1 _ _, hlo1 _ _ _ k4, pay y k1, by rw [← hcw]; exact List.mem_cons_self⟩, by rw [← hcw]; exact hw _ k1, hw _ (am_hasA_in m4c), kx5, fun sig hs => ?_, hw _ (am_has_in m1), hw _ (am_hasA_in m4), va_Decl.of (hw _ (am_hasA_in m4b)) hcx2, hw _ (am_has_in m3), hw _ (am_has_in m2)⟩
            rw [hs] at kx6
            rw [← m10]
            exact (Option.some.inj kx6).symm
          · obtain ⟨g1, g2⟩ := hPre (aR a :: (st.take (am_na y)).reverse)
            refine ⟨g1, ⟨cell, c1, by rw [c3]; rfl, hfc⟩, fun U hU hWU => ?_⟩
            have := g2 U hU hWU
            rw [← am_ad_new (X := X) ha]
            exact this
          · rw [← am_ad_new (X := X) ha]
            exact am_take e2
        · cases hc
      · cases hc
    · cases hc
  · next idx =>
    split at hc
    · next i0 y2 pz e1 =>
      split at hc
      · next h1 =>
        cases hc
        obtain ⟨h2, h3, h4⟩ := h1
        obtain ⟨hi0, hml2⟩ := am_ml_ok e1
        unfold am_mlok at hml2
        obtain ⟨q1, q2, q3, q4⟩ := pz
        dsimp only at hi0
        subst hi0
        simp only [Bool.and_eq_true, decide_eq_true_eq] at hml2
        obtain ⟨⟨⟨m1, m2⟩, m3⟩, m5⟩ := hml2
        obtain ⟨k1, k2, k3, k4, k5, k6⟩ := am_mokf m5
        have hM := am_met hG hst hB m5 hx hlen (hcats _ h3 h4)
        have hsig : ∀ sig, parseMethodDescriptor (am_name y).desc = some sig → am_na y = sig.parameters.length := fun sig hs => by
          rw [hs] at k6
          exact (Option.some.inj k6).symm
        by_cases hh : am_hh y = []
        · have hcw : am_cw y = Cond.code (am_name y) (am_code y) (am_nL y) (am_rt y) := by unfold am_cw; rw [if_pos hh]
          refine ⟨_, vx_runS (bytes := am_code y) (maxL := am_nL y) (ret := am_rt y) (As := (st.take (am_na y)).reverse.map (am_V X)) (rest := (st.drop (am_na y)).map (am_V X)) (n := am_na y) S hM ⟨⟨rfl, rfl, hfr1 _ _, hlo1 _ _ _ k4, pay y k1, by rw [← hcw]; exact List.mem_cons_self, by rw [← hcw]; exact hw _ k1, hw _ (am_has_in m3), k5, hsig, hw _ (am_has_in m1)⟩, hw _ (am_has_in m2)⟩ (hPre (st.take (am_na y)).reverse) rfl (by rw [List.length_map, List.length_reverse, List.length_take]; omega) hl.1 am_takeS (hroom h2) (am_dec hi rfl) ⟨hcl, hsl⟩⟩
        · have hcw : am_cw y = Cond.codeWith (am_name y) (am_code y) (am_nL y) (am_rt y) (am_hh y) := by unfold am_cw; rw [if_neg hh]
          refine ⟨_, vx_runSX (hh := am_hh y) (bytes := am_code y) (maxL := am_nL y) (ret := am_rt y) (As := (st.take (am_na y)).reverse.map (am_V X)) (rest := (st.drop (am_na y)).map (am_V X)) (n := am_na y) S hM ⟨⟨rfl, rfl, hfr1 _ _, hlo1 _ _ _ k4, pay y k1, by rw [← hcw]; exact List.mem_cons_self⟩, by rw [← hcw]; exact hw _ k1, hw _ (am_has_in m3), k5, hsig, hw _ (am_has_in m1), hw _ (am_has_in m2)⟩ (hPre (st.take (am_na y)).reverse) rfl (by rw [List.length_map, List.length_reverse, List.length_take]; omega) hl.1 am_takeS (hroom h2) (am_dec hi rfl) ⟨hcl, hsl⟩⟩
      · cases hc
    · cases hc
  · next idx =>
    split at hc
    · next i0 y2 pz e1 =>
      split at hc
      · next a rest2 e2 =>
        split at hc
        · next h1 =>
          cases hc
          obtain ⟨h1, h2, h3, h4⟩ := h1
          obtain ⟨hi0, hml2⟩ := am_ml_ok e1
          unfold am_mlok at hml2
          obtain ⟨q1, q2, q3, q4⟩ := pz
          dsimp only at hi0
          subst hi0
          simp only [Bool.and_eq_true, decide_eq_true_eq] at hml2
          obtain ⟨⟨⟨m1, m2⟩, m3⟩, m5, m7, m8, m9⟩ := hml2
          obtain ⟨k1, k2, k3, k4, k5, k6⟩ := am_mokf m5
          have hcc : ∀ v ∈ aR a :: (st.take (am_na y)).reverse, am_cat v = 1 := fun v hv => by
            rcases List.mem_cons.mp hv with rfl | hv
            · rfl
            · exact hcats _ h3 h4 v hv
          have hM := am_met hG hst hB m5 hx hlen hcc
          have hcw : am_cw y = Cond.code (am_name y) (am_code y) (am_nL y) none := by unfold am_cw; rw [if_pos m8, m9]
          have r1 : am_V X (aR a) = .ref (xB X + (a - 100)) := am_ad_new (am_R_obj hR h1).1
          refine ⟨_, vx_runI (bytes := am_code y) (maxL := am_nL y) (As := (st.take (am_na y)).reverse.map (am_V X)) (b := xB X + (a - 100)) (rest := rest.map (am_V X)) (n := am_na y) S hM ⟨⟨rfl, rfl, hfr1 _ _, hlo1 _ _ _ k4, pay y k1, by rw [← hcw]; exact List.mem_cons_self, by rw [← hcw]; exact hw _ k1, hw _ (am_has_in m3), k5, fun sig hs => ?_, hw _ (am_has_in m1)⟩, m7, hw _ (am_has_in m2)⟩ ?_ rfl (by rw [List.length_map, List.length_reverse, List.length_take]; omega) hl.1 (by rw [← r1]; exact am_take e2) (hroom h2) (am_dec hi rfl) ⟨hcl, hsl⟩⟩
          · rw [hs] at k6
            exact (Option.some.inj k6).symm
          · obtain ⟨g1, g2⟩ := hPre (aR a :: (st.take (am_na y)).reverse)
            refine ⟨g1, fun U hU hWU => ?_⟩
            have := g2 U hU hWU
            rw [← r1]
            exact this
        · cases hc
      · cases hc
    · next i0 y2 pz e1 =>
      split at hc
      · next a rest2 e2 =>
        split at hc
        · next h1 =>
          cases hc
          obtain ⟨h1, h2, h3, h4⟩ := h1
          obtain ⟨hi0, hml2⟩ := am_ml_ok e1
          unfold am_mlok at hml2
          obtain ⟨q1, q2, q3, q4⟩ := pz
          dsimp only at hi0
          subst hi0
          simp only [Bool.and_eq_true, decide_eq_true_eq] at hml2
          obtain ⟨⟨⟨m1, m2⟩, m3⟩, m5, m7, m8, m9⟩ := hml2
          obtain ⟨k1, k2, k3, k4, k5, k6⟩ := am_mokf m5
          have hcc : ∀ v ∈ aR a :: (st.take (am_na y)).reverse, am_cat v = 1 := fun v hv => by
            rcases List.mem_cons.mp hv with rfl | hv
            · rfl
            · exact hcats _ h3 h4 v hv
          have hM := am_met hG hst hB m5 hx hlen hcc
          have hcw : am_cw y = Cond.code (am_name y) (am_code y) (am_nL y) none := by unfold am_cw; rw [if_pos m8, m9]
          have r1 : am_V X (aR a) = .ref (xB X + (a - 100)) := am_ad_new (am_R_obj hR h1).1
          have hnest : (Cond.methodLinkNest (am_own mi) i0 (am_name y) "RodYard").before args s = true := by
            have h0 := am_hasN_in m1
            exact va_Nw.use rfl (va_Nw.warmM hW (hG.2.2.2.2.2.2.2.2.2.1 _ h0 rfl))
          refine ⟨_, vx_runIN (host := "RodYard") (bytes := am_code y) (maxL := am_nL y) (As := (st.take (am_na y)).reverse.map (am_V X)) (b := xB X + (a - 100)) (rest := rest.map (am_V X)) (n := am_na y) S hM ⟨⟨⟨rfl, rfl, hfr1 _ _, hlo1 _ _ _ k4, pay y k1, by rw [← hcw]; exact List.mem_cons_self⟩, by rw [← hcw]; exact hw _ k1, hw _ (am_has_in m3), k5, fun sig hs => ?_, hnest⟩, m7, hw _ (am_has_in m2)⟩ ?_ rfl (by rw [List.length_map, List.length_reverse, List.length_take]; omega) hl.1 (by rw [← r1]; exact am_take e2) (hroom h2) (am_dec hi rfl) ⟨hcl, hsl⟩⟩
          · rw [hs] at k6
            exact (Option.some.inj k6).symm
          · obtain ⟨g1, g2⟩ := hPre (aR a :: (st.take (am_na y)).reverse)
            refine ⟨g1, fun U hU hWU => ?_⟩
            have := g2 U hU hWU
            rw [← r1]
            exact this
        · cases hc
      · cases hc
    · next i0 y2 pz e1 =>
      split at hc
      · next a rest2 e2 =>
        split at hc
        · next h1 =>
          cases hc
          obtain ⟨h1, h2, h3, h4⟩ := h1
          obtain ⟨hi0, hml2⟩ := am_ml_ok e1
          unfold am_mlok at hml2
          obtain ⟨q1, q2, q3, q4⟩ := pz
          dsimp only at hi0
          subst hi0
          simp only [Bool.and_eq_true, decide_eq_true_eq] at hml2
          obtain ⟨⟨⟨⟨⟨m1, m2⟩, m3⟩, m4⟩, m4b⟩, m5, m8, m9, m10⟩ := hml2
          obtain ⟨k1, k2, k3, k4, k5, k6⟩ := am_mokf m5
          have hcc : ∀ v ∈ aR a :: (st.take (am_na y)).reverse, am_cat v = 1 := fun v hv => by
            rcases List.mem_cons.mp hv with rfl | hv
            · rfl
            · exact hcats _ h3 h4 v hv
          have hM := am_met hG hst hB m5 hx hlen hcc
          have hcw : am_cw y = Cond.code (am_name y) (am_code y) (am_nL y) (am_rt y) := by unfold am_cw; rw [if_pos m8]
          obtain ⟨ha, -, cell, c1, c2, c3, -⟩ := am_R_obj hR (r := a) (by rw [h1]; decide)
          have hat : ClassAt s "java/lang/StringBuilder" ((xD X).1 18) := (hK.1 18 _ rfl).2
          have hfc : s.vm.findClass "java/lang/StringBuilder" = some cell.cls := by
            rw [c2, h1]
            exact hat.1
          refine ⟨_, vx_runSU (C := "java/lang/StringBuilder") (y := am_name y) (bytes := am_code y) (maxL := am_nL y) (ret := am_rt y) (As := (st.take (am_na y)).reverse.map (am_V X)) (b := xB X + (a - 100)) (rest := rest.map (am_V X)) (n := am_na y) hat S hM ⟨⟨rfl, rfl, hfr1 _ _, hlo1 _ _ _ k4, pay y k1, by rw [← hcw]; exact List.mem_cons_self⟩, hw _ (am_has_in m1), hw _ (am_has_in m4), hw _ (am_hasA_in m4b), hw _ (am_has_in m2), hw _ (am_has_in m3), by rw [← hcw]; exact hw _ k1, m9, fun sig hs => ?_⟩ ?_ rfl (by rw [List.length_map, List.length_reverse, List.length_take]; omega) hl.1 ?_ (hroom h2) (am_dec hi rfl) ⟨hcl, hsl⟩⟩
          · rw [hs] at k6
            exact (Option.some.inj k6).symm
          · obtain ⟨g1, g2⟩ := hPre (aR a :: (st.take (am_na y)).reverse)
            refine ⟨g1, ⟨cell, c1, by rw [c3]; rfl, hfc⟩, fun U hU hWU => ?_⟩
            have := g2 U hU hWU
            rw [← am_ad_new (X := X) ha]
            exact this
          · rw [← am_ad_new (X := X) ha]
            exact am_take e2
        · cases hc
      · cases hc
    · cases hc
  · cases hc
set_option maxHeartbeats 4000000 in
theorem am_main (hG : am_Gl X) (hst : l.stackTraces = false) : ∀ f, am_Bd X l f := by
  intro f
  induction f with
  | zero =>
    intro d mi pc ls st g M out g' M' h
    cases h
  | succ f ih =>
    intro d mi pc ls st g M out g' M' h p e R s m args below meth c H locs cells slots mc ms lsM hF hR hl hn hq hfr hlo hcl hsl hmc hms
    rw [am_exec] at h
    split at h
    · cases h
    · next i hi =>
      split at h
      · next o1 g1 e1 =>
        cases h
        have : g' = g := by
          unfold am_ret at e1
          repeat' (first | (cases e1; done) | (cases e1; rfl) | split at e1)
        subst this
        exact am_end hG hF hR hq (by omega) (by omega) hi e1
      · split at h
        · next y as rest e1 =>
          split at h
          · cases h
          · next d' =>
            split at h
            · next hlen =>
              have hmn : ∀ o1 g1 M1, am_exec f d' y 0 (am_pad y as) [] g M = some (o1, g1, M1) → gN g ≤ gN g1 ∧ gS g ≤ gS g1 := fun o1 g1 M1 h => am_exec_mono _ _ _ _ _ _ _ _ _ _ _ h
              split at h
              · cases h
              · next v g1 M1 e2 =>
                have a1 := hmn _ _ _ e2
                have a2 := am_exec_mono _ _ _ _ _ _ _ _ _ _ _ h
                obtain ⟨a, hr⟩ := am_run (e := e) (below := below) (locs := locs) (cells := cells) (slots := slots) (R := R) hG hF hR hl ih hi e1 hlen e2 (by omega) (by omega) (by omega) (by omega)
                refine am_after hq hr (fun v2 H' locs' hv hR' hq' => ?_) (fun E H' locs' q ce hv => by cases hv)
                cases hv
                exact ih (d' + 1) mi (pc + 3) ls (am_push v rest) g1 M1 out g' M' h p e R s m args below meth c H' locs' (cells + (gN g1 - gN g)) (slots + (gS g1 - gS g)) mc ms lsM hF hR' hl hn hq' hfr hlo (by omega) (by omega) hmc hms
              · next E g1 M1 e2 =>
                have a1 := hmn _ _ _ e2
                have hgg : gN g' = gN g1 ∧ gS g' = gS g1 := by
                  split at h
                  · cases h; exact ⟨rfl, rfl⟩
                  · split at h
                    · next hh hx e3 =>
                      cases hr : am_hret mi hh with
                      | none => rw [hr] at h; cases h
                      | some n => rw [hr] at h; cases h; exact ⟨rfl, rfl⟩
                    · cases h
                obtain ⟨a, hr⟩ := am_run (e := e) (below := below) (locs := locs) (cells := cells) (slots := slots) (R := R) hG hF hR hl ih hi e1 hlen e2 (by omega) (by omega) (by omega) (by omega)
                refine am_after hq hr (fun v2 H' locs' hv => by cases hv) (fun E2 H' locs' q ce hv hE1 hE2 hR' hq' hce hcv hcl2 => ?_)
                cases hv
                split at h
                · next hnil =>
                  cases h
                  obtain ⟨-, -, -, -, -, -, hlk, htab, -⟩ := hF
                  refine vx_out (fun x hx => ?_) hlk hce hcv hcl2 (fun t ht _ => ⟨E, rfl, rfl, hE1, hE2, by rw [ht]; exact hR'⟩) hq' (by omega) (by omega)
                  rw [htab, hnil] at hx
                  cases hx
                · split at h
                  · next hh hx e3 =>
                    cases hr2 : am_hret mi hh with
                    | none => rw [hr2] at h; cases h
                    | some n =>
                      rw [hr2] at h
                      cases h
                      exact am_caught hG hF hR' hl hq' (by omega) (by omega) e3 hr2 hE1 hE2 hce hcv hcl2
                  · cases h
            · cases h
        · split at h
          · next pc1 ls1 st1 g1 M1 e2 =>
            have a2 := am_exec_mono _ _ _ _ _ _ _ _ _ _ _ h
            refine am_sim hG hF hR hl hn hq (by omega) (by omega) (by omega) (by omega) hi e2 ?_
            intro H' lsM' locs' cells' slots' c1 c2 hR' hl' hn' hq'
            exact ih d mi pc1 ls1 st1 g1 M1 out g' M' h p e R s m args below meth c H' locs' cells' slots' mc ms lsM' hF hR' hl' hn' hq' hfr hlo (by omega) (by omega) hmc hms
          · split at h
            · next ik is ic k e3 =>
              split at h
              · next E e4 =>
                split at h
                · next h5 =>
                  cases h
                  obtain ⟨h5, h6, h7⟩ := h5
                  have g2 : gN (am_alloc g 30 0 6) = gN g + 1 := rfl
                  have g3 : gS (am_alloc g 30 0 6) = gS g + 6 := rfl
                  rw [g2] at hcl
                  rw [g3] at hsl
                  exact am_throw hG hF hR hl hq (by omega) (by omega) (by omega) (by omega) hmc hms h5 h6 h7 e3 e4
                · cases h
              · cases h
            · cases h
end SIM
