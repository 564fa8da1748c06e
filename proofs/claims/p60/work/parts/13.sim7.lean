/-! THE SMALL MACHINE AND THE MACHINE: what is made; copies -/
section SIM
variable {p : Program} {l : Launch} {e : Env} {R : Room} {s : State} {m : MethodId} {args : Array Value} {below : List Frame} {meth : Method} {c : Code} {H : Heap} {locs : List Loc} {cells slots : Nat} {Q : State → Prop}
variable {X : am_X} {mi pc pc' : Nat} {ls ls' st st' : List AV} {g g' : AG} {M M' : AM} {lsM : Array Slot}
theorem am_al1 {kind len sl : Nat} : gN (am_alloc g kind len sl) = gN g + 1 ∧ gS (am_alloc g kind len sl) = gS g + sl ∧ gK (am_alloc g kind len sl) (100 + gN g) = kind ∧ gL (am_alloc g kind len sl) (100 + gN g) = len ∧ gR (am_alloc g kind len sl) (100 + gN g) = fun _ => 0 := by
  refine ⟨rfl, rfl, ?_, ?_, ?_⟩
  · show upN _ _ _ _ = _; unfold upN; rw [if_pos rfl]
  · show upN _ _ _ _ = _; unfold upN; rw [if_pos rfl]
  · show upR _ _ _ _ = _; unfold upR; rw [if_pos rfl]
theorem am_zero_same : am_zero g M (100 + gN g) = fun _ => 0 := by unfold am_zero upM; rw [if_pos rfl]
theorem am_zero_ne {r : Nat} (h : r ≠ 100 + gN g) : am_zero g M r = M r := by unfold am_zero upM; rw [if_neg h]
theorem am_ad_here : am_V X (aR (100 + gN g)) = .ref (xB X + gN g) := by
  show am_ad X _ = _
  rw [am_ad_new (by omega), show xB X + (100 + gN g - 100) = xB X + gN g by omega]
theorem am_s_new (hG : am_Gl X) (hF : am_Fx X p l s m args meth c mi) (hR : am_Rel X g M H) (hl : lv_has lsM (am_nL mi) (am_lv X ls)) (hn : ls.length = am_nL mi) (hq : ∀ q ∈ locs, xB X ≤ q.base) {idx : Nat} (hcl : cells + gN g' ≤ R.cells + gN g) (hsl : slots + gS g' ≤ R.slots + gS g)
    (hi : am_ins mi pc = some (.new idx)) (h : am_step mi pc (.new idx) ls st g M = some (pc', ls', st', g', M')) (kk : am_KK X p l e R s m args below meth c cells slots Q mi g pc' ls' st' g' M') :
    W p l e R s m args below meth c H locs cells slots Q (F0 m pc lsM (st.map (am_V X))) := by
  have hK := am_Kof hG hF
  have hw := fun w h => am_wd (w := w) hF h
  obtain ⟨hx, hb, hml, hown, hts, -⟩ := hF
  dsimp only [am_step] at h
  split at h
  · next i0 ci pz e1 =>
    split at h
    · next h1 =>
      simp only [Option.some.injEq, Prod.mk.injEq] at h
      obtain ⟨rfl, rfl, rfl, rfl, rfl⟩ := h
      obtain ⟨-, w1, -⟩ := am_cl_ok e1
      dsimp only at w1
      have h1' : ci < 20 := by omega
      rw [show am_cname ci = am_cn ci by unfold am_cname; rw [if_neg (by omega), if_neg (by omega), if_neg (by omega)]] at w1
      obtain ⟨w2, w3, w4⟩ := am_in_ok h1
      obtain ⟨c1, c2⟩ := am_nf_ok ci h1'
      have c3 := am_cn_ok ci h1
      have hKn := hK.1 ci _ c1
      have hfc := hKn.2.1
      rw [c3] at hfc
      obtain ⟨a1, a2, a3, a4, a5⟩ := am_al1 (g := g) (kind := ci) (len := 0) (sl := am_inst.getD ci 0)
      rw [a1] at hcl
      rw [a2, w4] at hsl
      refine W.newcK hx hb hown (hw _ w1) (hw _ w2) (hw _ w3) rfl (am_dec hi rfl) (by omega) (by omega) hfc hR.1 (fun H' kC hkC z1 z2 z3 => ?_)
      have k9 := kk H' lsM locs (cells + 1) (slots + am_nf ci) (by rw [a1]; omega) (by rw [a2, w4]; omega) (am_Rel_push hR (fun r hr => am_zero_ne hr) (by rw [z2, hR.1]) (fun q hq => z3 q (by rw [← hR.1]; exact hq)) (Or.inl ?_)) hl hn hq
      · rw [List.map_cons, am_ad_here] at k9
        exact k9
      · rw [a3]
        refine ⟨h1, ?_⟩
        have hbn := u_born (am_fty ci) hts (am_uok h1') hKn hkC z1 (fun k hk => (am_ftf h1' (by rw [c2] at hk; exact hk)).1)
        rw [c2] at hbn
        rw [show xB X + (100 + gN g - 100) = xB X + gN g by omega]
        refine hbn.to (fun k hk => ?_)
        obtain ⟨t1, t2, t3, t4, -, -, t7⟩ := am_ftf h1' hk
        unfold am_fv
        rw [a3, a5, am_zero_same]
        dsimp only
        by_cases hr : am_fkd ci k % 4 = 1
        · rw [if_pos hr]
          have := t2.mp hr
          show defaultValue (am_fty ci k) = am_ad X 0
          cases hty : am_fty ci k <;> rw [hty] at this <;> first | rfl | cases this
        · rw [if_neg hr]
          rcases (show am_fkd ci k % 4 = 0 ∨ am_fkd ci k % 4 = 1 ∨ am_fkd ci k % 4 = 2 ∨ am_fkd ci k % 4 = 3 by omega) with h5 | h5 | h5 | h5
          · rw [t3.mp h5]; rfl
          · exact absurd h5 hr
          · rw [t4.mp h5]; rfl
          · rw [t7.mp h5]; rfl
    · cases h
  · cases h
theorem am_s_newarray (hG : am_Gl X) (hF : am_Fx X p l s m args meth c mi) (hR : am_Rel X g M H) (hl : lv_has lsM (am_nL mi) (am_lv X ls)) (hn : ls.length = am_nL mi) (hq : ∀ q ∈ locs, xB X ≤ q.base) {t : ArrayType} (hcl : cells + gN g' ≤ R.cells + gN g) (hsl : slots + gS g' ≤ R.slots + gS g)
    (hi : am_ins mi pc = some (.newarray t)) (h : am_step mi pc (.newarray t) ls st g M = some (pc', ls', st', g', M')) (kk : am_KK X p l e R s m args below meth c cells slots Q mi g pc' ls' st' g' M') :
    W p l e R s m args below meth c H locs cells slots Q (F0 m pc lsM (st.map (am_V X))) := by
  have hw := fun w h => am_wd (w := w) hF h
  have hF0 := hF
  obtain ⟨hx, hb, hml, hown, hts, -⟩ := hF
  dsimp only [am_step] at h
  split at h
  · next n st2 =>
    split at h
    · next h1 =>
      obtain ⟨h1, h2, h3⟩ := h1
      simp only [Option.some.injEq, Prod.mk.injEq] at h
      obtain ⟨rfl, rfl, rfl, rfl, rfl⟩ := h
      have hk : 20 ≤ am_aat t ∧ am_aat t < 23 ∧ newarray.typeOf t = am_aty (am_aat t) ∧ (Cond.arrayClass (newarray.typeOf t)).before args s = true ∧ componentBytes (newarray.typeOf t) ≤ 8 := by
        cases t
        case int => exact ⟨by decide, by decide, rfl, hw _ am_w_aint, by decide⟩
        case byte => exact ⟨by decide, by decide, rfl, hw _ am_w_abyte, by decide⟩
        case boolean => exact ⟨by decide, by decide, rfl, hw _ am_w_aboolean, by decide⟩
        all_goals exact absurd rfl h1
      obtain ⟨k1, k2, k3, k4, k5⟩ := hk
      obtain ⟨a1, a2, a3, a4, a5⟩ := am_al1 (g := g) (kind := am_aat t) (len := n.toNat) (sl := n.toNat)
      rw [a1] at hcl
      rw [a2] at hsl
      obtain ⟨e1, e2⟩ := am_idx (i := n) (n := n.toNat + 1) h2 (by omega) (by omega)
      have hbytes : (Int32.ofInt n).toNatClampNeg * componentBytes (newarray.typeOf t) ≤ 536870912 := by
        rw [e2]
        have : n.toNat * componentBytes (newarray.typeOf t) ≤ 100000 * 8 := Nat.mul_le_mul (by omega) k5
        omega
      refine W.newa hx hb k4 rfl (am_dec hi rfl) rfl (fun q => e1 (Or.inl q)) hbytes (by omega) (by rw [e2]; omega) (fun cA kA comp f1 f2 f3 => ?_)
      have hA : cA = xA X (am_aat t) := by
        have hr := (am_arr hG hF0 k1 (by omega)).2
        have : s.vm.findClass ("[" ++ (am_aty (am_aat t)).toString) = some (xA X (am_aat t)) := by
          rcases (show am_aat t = 20 ∨ am_aat t = 21 ∨ am_aat t = 22 by omega) with h | h | h <;> rw [h] at hr ⊢ <;> exact hr
        rw [k3] at f1
        exact Option.some.inj (f1.symm.trans this)
      subst hA
      rw [e2]
      have k9 := kk (H.push { cls := xA X (am_aat t), slots := Array.replicate n.toNat (defaultValue (newarray.typeOf t)), vm := .none }) lsM locs (cells + 1) (slots + n.toNat) (by rw [a1]; omega) (by rw [a2]; omega) (am_Rel_push hR (fun r hr => am_zero_ne hr) (by rw [Array.size_push]) (fun q hq => by rw [Array.getElem?_push, if_neg (by omega)]) (Or.inr (Or.inl ?_))) hl hn hq
      · rw [List.map_cons, am_ad_here] at k9
        rw [hR.1]
        exact k9
      · rw [a3, a4]
        refine ⟨k1, by omega, by omega, ?_, fun _ j _ => by rw [am_zero_same]; exact ⟨(by decide : (-128 : Int) ≤ 0), (by decide : (0 : Int) < 128)⟩⟩
        rw [show xB X + (100 + gN g - 100) = H.size by rw [hR.1]; omega, Array.getElem?_push_size, arrV_new]
        refine congrArg (fun f => some (arrV _ _ f)) (funext fun j => ?_)
        unfold am_av
        rw [a3, am_zero_same, k3]
        rcases (show am_aat t = 20 ∨ am_aat t = 21 ∨ am_aat t = 22 by omega) with h | h | h <;> rw [h] <;> rfl
    · cases h
  · cases h
theorem am_s_anewarray (hG : am_Gl X) (hF : am_Fx X p l s m args meth c mi) (hR : am_Rel X g M H) (hl : lv_has lsM (am_nL mi) (am_lv X ls)) (hn : ls.length = am_nL mi) (hq : ∀ q ∈ locs, xB X ≤ q.base) {idx : Nat} (hcl : cells + gN g' ≤ R.cells + gN g) (hsl : slots + gS g' ≤ R.slots + gS g)
    (hi : am_ins mi pc = some (.anewarray idx)) (h : am_step mi pc (.anewarray idx) ls st g M = some (pc', ls', st', g', M')) (kk : am_KK X p l e R s m args below meth c cells slots Q mi g pc' ls' st' g' M') :
    W p l e R s m args below meth c H locs cells slots Q (F0 m pc lsM (st.map (am_V X))) := by
  have hw := fun w h => am_wd (w := w) hF h
  have hF0 := hF
  have hal : (xS X).vm.Alike s.vm := hF.2.2.2.2.2.2.2.2.2.2.1.alike
  obtain ⟨hx, hb, hml, hown, hts, -⟩ := hF
  dsimp only [am_step] at h
  split at h
  · next n st2 =>
    split at h
    · next i0 ci pz e0 =>
      split at h
      · next h1 =>
        obtain ⟨h1, h2, h3⟩ := h1
        simp only [Option.some.injEq, Prod.mk.injEq] at h
        obtain ⟨rfl, rfl, rfl, rfl, rfl⟩ := h
        obtain ⟨-, w1, -⟩ := am_cl_ok e0
        dsimp only at w1
        obtain ⟨a1, a2, a3, a4, a5⟩ := am_al1 (g := g) (kind := am_aar ci) (len := n.toNat) (sl := n.toNat)
        rw [a1] at hcl
        rw [a2] at hsl
        obtain ⟨e1, e2⟩ := am_idx (i := n) (n := n.toNat + 1) h2 (by omega) (by omega)
        have hk : 23 ≤ am_aar ci ∧ am_aar ci < 27 := by
          unfold am_aar at h1 ⊢
          repeat' split
          all_goals first | omega | (exfalso; simp_all)
        have fin : W p l e R s m args below meth c (H.push { cls := xA X (am_aar ci), slots := Array.replicate n.toNat .null, vm := .none }) locs (cells + 1) (slots + n.toNat) Q (F0 m (pc + 3) lsM (.ref H.size :: st2.map (am_V X))) := by
          have k9 := kk (H.push { cls := xA X (am_aar ci), slots := Array.replicate n.toNat .null, vm := .none }) lsM locs (cells + 1) (slots + n.toNat) (by rw [a1]; omega) (by rw [a2]; omega) (am_Rel_push hR (fun r hr => am_zero_ne hr) (by rw [Array.size_push]) (fun q hq => by rw [Array.getElem?_push, if_neg (by omega)]) (Or.inr (Or.inl ?_))) hl hn hq
          · rw [List.map_cons, am_ad_here] at k9
            rw [hR.1]
            exact k9
          · rw [a3, a4]
            refine ⟨by omega, by omega, by omega, ?_, fun h9 => by omega⟩
            rw [show xB X + (100 + gN g - 100) = H.size by rw [hR.1]; omega, Array.getElem?_push_size, arrV_new]
            refine congrArg (fun f => some (arrV _ _ f)) (funext fun j => ?_)
            unfold am_av
            rw [a3, a5, if_neg (by omega)]
            rfl
        have obj : ∀ (k : Nat) (C : String), am_aar ci = k → am_cname ci = C → va_RA s (xA X k) (.object C) → va_AO C s → W p l e R s m args below meth c H locs cells slots Q (F0 m pc lsM (.int (Int32.ofInt n) :: st2.map (am_V X))) := by
          intro k C hk1 hC hRA hAO
          rw [hC] at w1
          refine W.anew hx hb hown (hw _ w1) (va_AO.use hAO) rfl (am_dec hi rfl) rfl (fun q => e1 (Or.inl q)) (by rw [e2]; omega) (by omega) (by rw [e2]; omega) (fun cA kA comp f1 f2 f3 f4 => ?_)
          obtain ⟨kB, compB, r1, r2, r3, r4⟩ := hRA
          have hA : cA = xA X k := Option.some.inj (f1.symm.trans r4)
          subst hA
          rw [e2, ← hk1]
          exact fin
        rw [List.map_cons]
        have hcase : (ci = 5 ∧ am_aar ci = 26) ∨ (ci = 20 ∧ am_aar ci = 25) ∨ (ci = 16 ∧ am_aar ci = 23) ∨ (ci = 15 ∧ am_aar ci = 24) := by
          unfold am_aar at h1 ⊢
          repeat' split
          all_goals first | (simp_all; done) | omega
        have hAO := hG.2.2.2.2.2.2.2.2.2.2.1
        rcases hcase with ⟨h4, h5⟩ | ⟨h4, h5⟩ | ⟨h4, h5⟩ | ⟨h4, h5⟩
        · exact obj 26 "RodYard$State" h5 (by rw [h4]; decide +kernel) (am_arr hG hF0 (k := 26) (by omega) (by omega)).2 (va_AO.moved hal hAO.1)
        · rw [show am_cname ci = (FieldType.array .int).toString by rw [h4]; decide +kernel] at w1
          refine W.anewA (t := .int) hx hb hown (hw _ w1) (va_AOA.moved (t := .int) hal hG.2.2.2.2.2.2.2.2.2.2.2.1) rfl (am_dec hi rfl) rfl (fun q => e1 (Or.inl q)) (by rw [e2]; omega) (by omega) (by rw [e2]; omega) (fun cA kA comp f1 f2 f3 f4 => ?_)
          have r4 : s.vm.findClass "[[I" = some (xA X 25) := (am_arr hG hF0 (k := 25) (by omega) (by omega)).2
          have hA : cA = xA X 25 := Option.some.inj (f1.symm.trans r4)
          subst hA
          rw [e2, ← h5]
          exact fin
        · exact obj 23 "RodYardLaw$Rod" h5 (by rw [h4]; decide +kernel) (am_arr hG hF0 (k := 23) (by omega) (by omega)).2 (va_AO.moved hal hAO.2.1)
        · exact obj 24 "RodYardLaw$Order" h5 (by rw [h4]; decide +kernel) (am_arr hG hF0 (k := 24) (by omega) (by omega)).2 (va_AO.moved hal hAO.2.2)
      · cases h
    · cases h
  · cases h
theorem am_s_multi (hG : am_Gl X) (hF : am_Fx X p l s m args meth c mi) (hR : am_Rel X g M H) (hl : lv_has lsM (am_nL mi) (am_lv X ls)) (hn : ls.length = am_nL mi) (hq : ∀ q ∈ locs, xB X ≤ q.base) {idx dm : Nat} (hcl : cells + gN g' ≤ R.cells + gN g) (hsl : slots + gS g' ≤ R.slots + gS g)
    (hi : am_ins mi pc = some (.multianewarray idx dm)) (h : am_step mi pc (.multianewarray idx dm) ls st g M = some (pc', ls', st', g', M')) (kk : am_KK X p l e R s m args below meth c cells slots Q mi g pc' ls' st' g' M') :
    W p l e R s m args below meth c H locs cells slots Q (F0 m pc lsM (st.map (am_V X))) := by
  have hw := fun w h => am_wd (w := w) hF h
  have hF0 := hF
  have hal : (xS X).vm.Alike s.vm := hF.2.2.2.2.2.2.2.2.2.2.1.alike
  obtain ⟨hx, hb, hml, hown, hts, -⟩ := hF
  dsimp only [am_step] at h
  split at h
  · next k n st2 =>
    split at h
    · next i0 ci pz e0 =>
      split at h
      · next h1 =>
        obtain ⟨rfl, rfl, h2, h3, h4, h5⟩ := h1
        simp only [Option.some.injEq, Prod.mk.injEq] at h
        obtain ⟨rfl, rfl, rfl, rfl, rfl⟩ := h
        obtain ⟨-, w1, -⟩ := am_cl_ok e0
        dsimp only at w1
        rw [show am_cname 25 = "[[I" by decide +kernel] at w1
        have g1 : gN (am_multi g n.toNat k.toNat) = gN g + (1 + n.toNat) := rfl
        have g2 : gS (am_multi g n.toNat k.toNat) = gS g + (n.toNat + n.toNat * k.toNat) := rfl
        rw [g1] at hcl
        rw [g2] at hsl
        obtain ⟨e1, e2⟩ := am_idx (i := n) (n := n.toNat + 1) h2 (by omega) (by omega)
        obtain ⟨e3, e4⟩ := am_idx (i := k) (n := k.toNat + 1) h4 (by omega) (by omega)
        have ho : va_AOA .int s := va_AOA.moved hal hG.2.2.2.2.2.2.2.2.2.2.2.1
        have r1 : s.vm.findClass "[I" = some (xA X 20) := (am_arr hG hF0 (k := 20) (by omega) (by omega)).2
        have r2 : s.vm.findClass "[[I" = some (xA X 25) := (am_arr hG hF0 (k := 25) (by omega) (by omega)).2
        refine am_multiA hx hb hown (hw _ w1) ho (hw _ am_w_aint) r1 r2 (fun q => e1 (Or.inl q)) (fun q => e3 (Or.inl q)) e2 e4 (by omega) (by omega) (by omega) (by omega) (am_dec hi rfl) (fun H1 z1 z2 z3 z4 => ?_)
        have k9 := kk H1 lsM locs (cells + 1 + n.toNat) (slots + n.toNat + n.toNat * k.toNat) (by rw [g1]; omega) (by rw [g2]; omega) ?_ hl hn hq
        · rw [List.map_cons, am_ad_here] at k9
          rw [hR.1]
          exact k9
        · have K1 : ∀ r, (r < 100 + gN g ∨ 100 + gN g + n.toNat < r) → gK (am_multi g n.toNat k.toNat) r = gK g r ∧ gL (am_multi g n.toNat k.toNat) r = gL g r ∧ gR (am_multi g n.toNat k.toNat) r = gR g r ∧ am_zeros g M n.toNat r = M r := by
            intro r hr
            refine ⟨?_, ?_, ?_, ?_⟩
            · show (if r = 100 + gN g then 25 else if 100 + gN g < r ∧ r ≤ 100 + gN g + n.toNat then 20 else gK g r) = _
              rw [if_neg (by omega), if_neg (by omega)]
            · show (if r = 100 + gN g then n.toNat else if 100 + gN g < r ∧ r ≤ 100 + gN g + n.toNat then k.toNat else gL g r) = _
              rw [if_neg (by omega), if_neg (by omega)]
            · show (if r = 100 + gN g then _ else if 100 + gN g < r ∧ r ≤ 100 + gN g + n.toNat then _ else gR g r) = _
              rw [if_neg (by omega), if_neg (by omega)]
            · unfold am_zeros
              rw [if_neg (by omega)]
          obtain ⟨s1, s2, ⟨o1, o2, o3, o4, o5, o6⟩, s4, s5⟩ := hR
          refine ⟨by rw [z1, s1, g1]; omega, fun q hq => by rw [z2 q (by omega)]; exact s2 q hq, ⟨fun r hr => by rw [(K1 r (by omega)).1]; exact o1 r hr, by rw [(K1 1 (by omega)).2.1]; exact o2, fun j hj => by rw [(K1 1 (by omega)).2.2.2]; exact o3 j hj, fun j hj => ?_, ⟨by rw [(K1 50 (by omega)).2.1]; exact o5.1, fun i hi => by rw [(K1 50 (by omega)).2.2.2]; exact o5.2 i hi⟩, ⟨by rw [(K1 51 (by omega)).2.1]; exact o6.1, fun i hi => by rw [(K1 51 (by omega)).2.2.2]; exact o6.2 i hi⟩⟩, fun r hr => by rw [g1] at hr; rw [(K1 r (by omega)).1]; exact s4 r (by omega), fun r hr1 hr2 => ?_⟩
          · obtain ⟨p1, p2, p3⟩ := o4 j hj
            exact ⟨by rw [(K1 _ (by omega)).2.2.1]; exact p1, by rw [(K1 _ (by omega)).2.1]; exact p2, fun i hi => by rw [(K1 _ (by omega)).2.2.2]; exact p3 i hi⟩
          · rw [g1] at hr2
            rcases (show r < 100 + gN g ∨ r = 100 + gN g ∨ (100 + gN g < r ∧ r ≤ 100 + gN g + n.toNat) by omega) with hr | hr | hr
            · obtain ⟨q1, q2, q3, q4⟩ := K1 r (Or.inl hr)
              have hq := z2 (xB X + (r - 100)) (by omega)
              have e3 : am_fv X (am_multi g n.toNat k.toNat) (am_zeros g M n.toNat) r = am_fv X g M r := by unfold am_fv; rw [q1, q3, q4]
              have e4 : am_av X (am_multi g n.toNat k.toNat) (am_zeros g M n.toNat) r = am_av X g M r := by unfold am_av; rw [q1, q3, q4]
              rcases s5 r hr1 hr with h | h | h
              · exact Or.inl ⟨by rw [q1]; exact h.1, by rw [q1, e3]; exact h.2.kept hq⟩
              · exact Or.inr (Or.inl ⟨by rw [q1]; exact h.1, by rw [q1]; exact h.2.1, by rw [q2]; exact h.2.2.1, by rw [q1, q2, e4, hq]; exact h.2.2.2.1, by rw [q1, q2, q4]; exact h.2.2.2.2⟩)
              · exact Or.inr (Or.inr (by rw [q1]; exact h))
            · have q1 : gK (am_multi g n.toNat k.toNat) r = 25 := by
                show (if r = 100 + gN g then 25 else _) = _
                rw [if_pos hr]
              have q2 : gL (am_multi g n.toNat k.toNat) r = n.toNat := by
                show (if r = 100 + gN g then n.toNat else _) = _
                rw [if_pos hr]
              have q3 : gR (am_multi g n.toNat k.toNat) r = fun (j : Int) => if 0 ≤ j ∧ j < (n.toNat : Int) then 100 + gN g + 1 + j.toNat else 0 := by
                show (if r = 100 + gN g then _ else _) = _
                rw [if_pos hr]
              refine Or.inr (Or.inl ⟨by rw [q1]; omega, by rw [q1]; omega, by rw [q2]; omega, ?_, fun h9 => by rw [q1] at h9; omega⟩)
              rw [q1, q2, show xB X + (r - 100) = Array.size H by omega, z3]
              refine congrArg (fun f => some (arrV _ _ f)) (funext fun j => ?_)
              unfold am_av
              rw [q1, q3]
              show _ = am_ad X (if 0 ≤ (j : Int) ∧ (j : Int) < (n.toNat : Int) then 100 + gN g + 1 + ((j : Int)).toNat else 0)
              by_cases hj : j < n.toNat
              · rw [if_pos hj, if_pos ⟨by omega, by omega⟩, am_ad_new (by omega)]
                have ej : ((j : Int)).toNat = j := Int.toNat_natCast j
                rw [ej, s1]
                exact congrArg Value.ref (show (xB X + gN g + 1 + j : Nat) = xB X + (100 + gN g + 1 + j - 100) by omega)
              · rw [if_neg hj, if_neg (by omega)]
                rfl
            · have q1 : gK (am_multi g n.toNat k.toNat) r = 20 := by
                show (if r = 100 + gN g then 25 else if 100 + gN g < r ∧ r ≤ 100 + gN g + n.toNat then 20 else gK g r) = _
                rw [if_neg (by omega), if_pos hr]
              have q2 : gL (am_multi g n.toNat k.toNat) r = k.toNat := by
                show (if r = 100 + gN g then n.toNat else if 100 + gN g < r ∧ r ≤ 100 + gN g + n.toNat then k.toNat else gL g r) = _
                rw [if_neg (by omega), if_pos hr]
              have q4 : am_zeros g M n.toNat r = fun _ => 0 := by
                unfold am_zeros
                rw [if_pos (by omega)]
              refine Or.inr (Or.inl ⟨by rw [q1]; omega, by rw [q1]; omega, by rw [q2]; omega, ?_, fun h9 => by rw [q1] at h9; omega⟩)
              have hz := z4 (r - 100 - gN g - 1) (by omega)
              rw [show Array.size H + 1 + (r - 100 - gN g - 1) = xB X + (r - 100) by omega] at hz
              rw [q1, q2, hz]
              refine congrArg (fun f => some (arrV _ _ f)) (funext fun j => ?_)
              unfold am_av
              rw [q1, q4]
              rfl
      · cases h
    · cases h
  · cases h
theorem am_szge {cell : Cell} {n : Nat} {f : Nat → Value} (h : ∀ i : Nat, i < n → cell.slots[i]? = some (f i)) : n ≤ cell.slots.size := by
  rcases Nat.eq_zero_or_pos n with h0 | h0
  · omega
  · have := (Array.getElem?_eq_some_iff.mp (h (n - 1) (by omega))).1
    omega
theorem am_R27r (hG : am_Gl X) (hR : am_Rel X g M H) {a : Nat} (h : gK g a = 27) : ∀ j : Nat, j < gL g a → -128 ≤ M a j ∧ M a j < 128 := by
  have ha : a < 100 := by
    rcases Nat.lt_or_ge a 100 with q | q
    · exact q
    · rcases Nat.lt_or_ge a (100 + gN g) with q2 | q2
      · rcases hR.2.2.2.2 a q q2 with h9 | h9 | h9
        · have := h9.1; omega
        · omega
        · omega
      · have := hR.2.2.2.1 a q2; omega
  have hk := hR.2.2.1.1 a ha
  have hlt : ∀ j, j < 16 → ∀ i, i < (am_txt.getD j []).length → -128 ≤ (am_txt.getD j []).getD i 0 ∧ (am_txt.getD j []).getD i 0 < 128 := by decide +kernel
  intro i hi
  rcases am_k0_cases a with h9 | h9 | ⟨h9, ⟨j, hj, rfl⟩ | rfl | rfl⟩ | h9
  · omega
  · omega
  · obtain ⟨m1, m2, m3⟩ := hR.2.2.1.2.2.2.1 j hj
    rw [m3 i (by omega)]
    exact hlt j hj i (by omega)
  · obtain ⟨m1, m2⟩ := hR.2.2.1.2.2.2.2.1
    rw [m2 i (by omega)]
    omega
  · obtain ⟨m1, m2⟩ := hR.2.2.1.2.2.2.2.2
    rw [m2 i (by omega)]
    omega
  · omega
theorem am_s_copy (hG : am_Gl X) (hF : am_Fx X p l s m args meth c mi) (hR : am_Rel X g M H) (hl : lv_has lsM (am_nL mi) (am_lv X ls)) (hn : ls.length = am_nL mi) (hq : ∀ q ∈ locs, xB X ≤ q.base) {idx : Nat} (hfr : 1 ≤ R.frames) (hlo : 40 ≤ R.locals)
    (hi : am_ins mi pc = some (.invokestatic idx)) (hlk : Cond.methodLink (am_own mi) idx arraycopyName ∈ am_ws) (h : am_cp pc ls st g M = some (pc', ls', st', g', M')) (kk : am_KK X p l e R s m args below meth c cells slots Q mi g pc' ls' st' g' M') :
    W p l e R s m args below meth c H locs cells slots Q (F0 m pc lsM (st.map (am_V X))) := by
  have hw := fun w h => am_wd (w := w) hF h
  have hF0 := hF
  obtain ⟨hx, hb, hml, hown, hts, -⟩ := hF
  unfold am_cp at h
  split at h
  · next n dp a sp a0 st2 =>
    split at h
    · next h1 =>
      obtain ⟨k1, b1, b2, b3, b4, b5, b6⟩ := h1
      simp only [Option.some.injEq, Prod.mk.injEq] at h
      obtain ⟨rfl, rfl, rfl, rfl, rfl⟩ := h
      obtain ⟨p1, p2, p3, p4⟩ := am_R_arr hR (r := a) (by omega) (by omega)
      have hv : ∀ r, gK g r < 23 → am_av X g M r = fun j => .int (Int32.ofInt (M r j)) := fun r hr => by
        funext j
        unfold am_av
        rw [if_pos (by omega)]
      rw [hv a (by omega)] at p4
      have hl0 : gL g a0 < 1000000 := by
        rcases k1 with ⟨k1, k2⟩ | ⟨k1, k2 | k2⟩
        · exact (am_R_arr hR (r := a0) (by omega) (by omega)).2.2.1
        · exact (am_R_arr hR (r := a0) (by omega) (by omega)).2.2.1
        · obtain ⟨-, -, -, -, h9, -⟩ := am_R27 hG hR k2
          omega
      obtain ⟨x1, x2⟩ := am_idx (i := sp) (n := 2000001) b1 (by omega) (by omega)
      obtain ⟨y1, y2⟩ := am_idx (i := dp) (n := 2000001) b2 (by omega) (by omega)
      obtain ⟨w1, w2⟩ := am_idx (i := n) (n := 2000001) b3 (by omega) (by omega)
      have hsum : ((st2.map (am_V X)).map fun v => v.category).sum = (st2.map am_cat).sum := by
        rw [List.map_map]
        congr 1
        exact List.map_congr_left fun v _ => am_catV X hG v
      have hwords : nativeFrameWords "java/lang/System" "arraycopy" 5 = 7 := by decide
      have fin : ∀ (fs : Nat → Int32), (∀ j : Nat, j < gL g a0 → fs j = Int32.ofInt (M a0 j)) → (gK g a = 21 → ∀ j : Nat, j < gL g a0 → -128 ≤ M a0 j ∧ M a0 j < 128) → ∀ (H1 : Heap) (L1 : List Loc), H1[xB X + (a - 100)]? = some (arrV (xA X (gK g a)) (gL g a) (fun j => .int (va_cpy fs (fun j => Int32.ofInt (M a j)) (Int32.ofInt sp).toNatClampNeg (Int32.ofInt dp).toNatClampNeg (Int32.ofInt n).toNatClampNeg j))) → H1.size = H.size → (∀ q : Nat, q ≠ xB X + (a - 100) → H1[q]? = H[q]?) → (∀ z ∈ L1, z.base = xB X + (a - 100)) →
          W p l e R s m args below meth c H1 (locs ++ L1) cells slots Q (F0 m (pc + 3) lsM (st2.map (am_V X))) := by
        intro fs hfs hby H1 L1 z1 z2 z3 z4
        refine kk H1 lsM _ cells slots rfl rfl (am_Rel_set hR p1 p2 rfl rfl rfl (fun r hr => ⟨rfl, by unfold upM; rw [if_neg hr]⟩) z2 z3 (Or.inr (Or.inl ⟨by omega, by omega, p3, ?_, fun h21 j hj => ?_⟩))) hl hn (fun q hq2 => ?_)
        · rw [z1]
          refine congrArg (fun f => some (arrV _ _ f)) (funext fun j => ?_)
          unfold am_av upM am_cpy va_cpy
          rw [if_pos (show gK g a < 23 by omega), if_pos rfl, x2, y2, w2]
          by_cases hj : dp.toNat ≤ j ∧ j < dp.toNat + n.toNat
          · rw [if_pos hj, if_pos (by omega), hfs _ (by omega)]
            rw [show sp + ((j : Int) - dp) = ((sp.toNat + (j - dp.toNat) : Nat) : Int) by omega]
          · rw [if_neg hj, if_neg (by omega)]
        · unfold upM am_cpy
          rw [if_pos rfl]
          split
          · next h9 =>
            have := hby h21 (sp.toNat + (j - dp.toNat)) (by omega)
            rw [show sp + ((j : Int) - dp) = ((sp.toNat + (j - dp.toNat) : Nat) : Int) by omega]
            exact this
          · exact am_R_byt hR h21 j hj
        · rcases List.mem_append.mp hq2 with h | h
          · exact hq q h
          · rw [z4 q h]; exact Nat.le_add_right _ _
      have hbyte : ∀ x : Int, -128 ≤ x ∧ x < 128 → fits .byte (.int (Int32.ofInt x)) = true := by
        intro x hx
        show ((-128 : Int32) ≤ Int32.ofInt x && Int32.ofInt x ≤ (127 : Int32)) = true
        rw [show (-128 : Int32) = Int32.ofInt (-128) by decide, show (127 : Int32) = Int32.ofInt 127 by decide]
        have e1 : wr x = x := wr_id (by omega) (by omega)
        have e2 : wr (-128) = -128 := by decide
        have e3 : wr 127 = 127 := by decide
        rw [Bool.and_eq_true, decide_eq_true_eq, decide_eq_true_eq, am_leI, am_leI, e1, e2, e3]
        omega
      rw [List.map_cons, List.map_cons, List.map_cons, List.map_cons, List.map_cons, show am_V X (aR a) = .ref (xB X + (a - 100)) from am_ad_new p1]
      rcases k1 with ⟨k1, k2⟩ | ⟨k1, k2 | k2⟩
      · obtain ⟨q1, q2, q3, q4⟩ := am_R_arr hR (r := a0) (by omega) (by omega)
        rw [hv a0 (by omega)] at q4
        have hA := (am_arr hG hF0 (k := 20) (by omega) (by omega)).1
        rw [show am_V X (aR a0) = .ref (xB X + (a0 - 100)) from am_ad_new q1]
        exact am_copyA hx hb (by rw [hml]; exact hl.1.symm) hown (hw _ hlk) (hw _ am_w_cn) (hw _ am_w_cs) (hw _ am_w_ci) (by rw [k2]; exact hA) (by rw [k1]; exact hA) q4 p4 (fun q => x1 (Or.inl q)) (fun q => y1 (Or.inl q)) (fun q => w1 (Or.inl q)) (by rw [x2, w2]; omega) (by rw [y2, w2]; omega) hfr (by rw [hsum]; omega) (am_dec hi rfl) (fin _ (fun _ _ => rfl) (fun h9 => by omega))
      · obtain ⟨q1, q2, q3, q4⟩ := am_R_arr hR (r := a0) (by omega) (by omega)
        rw [hv a0 (by omega)] at q4
        have hA := (am_arr hG hF0 (k := 21) (by omega) (by omega)).1
        rw [show am_V X (aR a0) = .ref (xB X + (a0 - 100)) from am_ad_new q1]
        exact am_copyB hx hb (by rw [hml]; exact hl.1.symm) hown (hw _ hlk) (hw _ am_w_cn) (hw _ am_w_cs) (hw _ am_w_ci) (n0 := gL g a0) (f := fun j => Int32.ofInt (M a0 j)) (by rw [k2]; exact hA _ _) (fun h9 => by cases h9) (Nat.le_of_eq (arrV_size _ _ _).symm) (fun i hi => arrV_read _ _ hi) (fun i hi => hbyte _ (am_R_byt hR k2 i hi)) (by rw [k1]; exact hA) q4 p4 (fun q => x1 (Or.inl q)) (fun q => y1 (Or.inl q)) (fun q => w1 (Or.inl q)) (by rw [x2, w2]; omega) (by rw [y2, w2]; omega) hfr (by rw [hsum]; omega) (am_dec hi rfl) (fin _ (fun _ _ => rfl) (fun _ => am_R_byt hR k2))
      · obtain ⟨vv, f, f1, f2, f3, f4⟩ := am_R27 hG hR k2
        obtain ⟨cell, c1, c2, c3, c4, c5, c6, c7⟩ := va_T.moved hF0.2.2.2.2.2.2.2.2.2.2.1.alike f2
        have hA := (am_arr hG hF0 (k := 21) (by omega) (by omega)).1
        rw [f1]
        have hrg : ∀ j : Nat, j < gL g a0 → -128 ≤ M a0 j ∧ M a0 j < 128 := am_R27r hG hR k2
        exact am_copyB hx hb (by rw [hml]; exact hl.1.symm) hown (hw _ hlk) (hw _ am_w_cn) (hw _ am_w_cs) (hw _ am_w_ci) (n0 := gL g a0) (f := fun j => Int32.ofInt (M a0 j)) c2 c3 (am_szge (fun i hi => c6 i hi)) (fun i hi => by rw [c6 i hi, f4 i hi]) (fun i hi => hbyte _ (hrg i hi)) (by rw [k1]; exact hA) (by rw [hR.2.1 vv (Nat.not_le.mp c7)]; exact c1) p4 (fun q => x1 (Or.inl q)) (fun q => y1 (Or.inl q)) (fun q => w1 (Or.inl q)) (by rw [x2, w2]; omega) (by rw [y2, w2]; omega) hfr (by rw [hsum]; omega) (am_dec hi rfl) (fin _ (fun _ _ => rfl) (fun _ => hrg))
    · cases h
  · cases h
theorem am_s_mx (hG : am_Gl X) (hF : am_Fx X p l s m args meth c mi) (hR : am_Rel X g M H) (hl : lv_has lsM (am_nL mi) (am_lv X ls)) (hn : ls.length = am_nL mi) (hq : ∀ q ∈ locs, xB X ≤ q.base) {idx : Nat} (hfr : 1 ≤ R.frames) (hlo : 40 ≤ R.locals) (hcl : cells ≤ R.cells) (hsl : slots ≤ R.slots)
    (hst : Cond.static Lib.Math.max.name ∈ am_ws) (hco : Cond.code Lib.Math.max.name Lib.Math.max.code 2 (some .int) ∈ am_ws) (hin : Cond.initialized "java/lang/Math" ∈ am_ws) (hi : am_ins mi pc = some (.invokestatic idx)) (hlk : Cond.methodLink (am_own mi) idx Lib.Math.max.name ∈ am_ws) (h : am_mx pc ls st g M = some (pc', ls', st', g', M')) (kk : am_KK X p l e R s m args below meth c cells slots Q mi g pc' ls' st' g' M') :
    W p l e R s m args below meth c H locs cells slots Q (F0 m pc lsM (st.map (am_V X))) := by
  have hw := fun w h => am_wd (w := w) hF h
  obtain ⟨hx, hb, hml, hown, hts, -⟩ := hF
  unfold am_mx at h
  split at h
  · next y x st2 =>
    split at h
    · next h1 =>
      simp only [Option.some.injEq, Prod.mk.injEq] at h
      obtain ⟨rfl, rfl, rfl, rfl, rfl⟩ := h
      have hsum : ((st2.map (am_V X)).map fun v => v.category).sum = (st2.map am_cat).sum := by
        rw [List.map_map]
        congr 1
        exact List.map_congr_left fun v _ => am_catV X hG v
      refine va_mmax hx hb (by rw [hml]; exact hl.1.symm) hown (hw _ hlk) (hw _ hst) (hw _ hin) (hw _ hco) hfr (by rw [hsum]; omega) hcl hsl (am_dec hi rfl) ?_
      have k9 := kk H lsM locs cells slots rfl rfl hR hl hn hq
      rw [List.map_cons, show am_V X (aI (if wr x < wr y then y else x)) = .int (if Int32.ofInt x < Int32.ofInt y then Int32.ofInt y else Int32.ofInt x) by
        show Value.int (Int32.ofInt _) = _
        by_cases hc : wr x < wr y
        · rw [if_pos hc, if_pos ((am_ltI x y).mpr hc)]
        · rw [if_neg hc, if_neg (fun q => hc ((am_ltI x y).mp q))]] at k9
      exact k9
    · cases h
  · cases h
theorem am_s_mn (hG : am_Gl X) (hF : am_Fx X p l s m args meth c mi) (hR : am_Rel X g M H) (hl : lv_has lsM (am_nL mi) (am_lv X ls)) (hn : ls.length = am_nL mi) (hq : ∀ q ∈ locs, xB X ≤ q.base) {idx : Nat} (hfr : 1 ≤ R.frames) (hlo : 40 ≤ R.locals) (hcl : cells ≤ R.cells) (hsl : slots ≤ R.slots)
    (hst : Cond.static Lib.Math.min.name ∈ am_ws) (hco : Cond.code Lib.Math.min.name Lib.Math.min.code 2 (some .int) ∈ am_ws) (hin : Cond.initialized "java/lang/Math" ∈ am_ws) (hi : am_ins mi pc = some (.invokestatic idx)) (hlk : Cond.methodLink (am_own mi) idx Lib.Math.min.name ∈ am_ws) (h : am_mn pc ls st g M = some (pc', ls', st', g', M')) (kk : am_KK X p l e R s m args below meth c cells slots Q mi g pc' ls' st' g' M') :
    W p l e R s m args below meth c H locs cells slots Q (F0 m pc lsM (st.map (am_V X))) := by
  have hw := fun w h => am_wd (w := w) hF h
  obtain ⟨hx, hb, hml, hown, hts, -⟩ := hF
  unfold am_mn at h
  split at h
  · next y x st2 =>
    split at h
    · next h1 =>
      simp only [Option.some.injEq, Prod.mk.injEq] at h
      obtain ⟨rfl, rfl, rfl, rfl, rfl⟩ := h
      have hsum : ((st2.map (am_V X)).map fun v => v.category).sum = (st2.map am_cat).sum := by
        rw [List.map_map]
        congr 1
        exact List.map_congr_left fun v _ => am_catV X hG v
      refine va_mmin hx hb (by rw [hml]; exact hl.1.symm) hown (hw _ hlk) (hw _ hst) (hw _ hin) (hw _ hco) hfr (by rw [hsum]; omega) hcl hsl (am_dec hi rfl) ?_
      have k9 := kk H lsM locs cells slots rfl rfl hR hl hn hq
      rw [List.map_cons, show am_V X (aI (if wr y < wr x then y else x)) = .int (if Int32.ofInt y < Int32.ofInt x then Int32.ofInt y else Int32.ofInt x) by
        show Value.int (Int32.ofInt _) = _
        by_cases hc : wr y < wr x
        · rw [if_pos hc, if_pos ((am_ltI y x).mpr hc)]
        · rw [if_neg hc, if_neg (fun q => hc ((am_ltI y x).mp q))]] at k9
      exact k9
    · cases h
  · cases h
theorem am_s_objinit (hG : am_Gl X) (hF : am_Fx X p l s m args meth c mi) (hR : am_Rel X g M H) (hl : lv_has lsM (am_nL mi) (am_lv X ls)) (hn : ls.length = am_nL mi) (hq : ∀ q ∈ locs, xB X ≤ q.base) {idx : Nat} (hfr : 1 ≤ R.frames) (hlo : 40 ≤ R.locals)
    (hin : Cond.instanceMethod Lib.objectInit ∈ am_ws) (hco : Cond.code Lib.objectInit ⟨#[0xb1]⟩ 1 none ∈ am_ws) (hlk : ∀ q, am_ml (am_oc mi) idx = some q → q.2.1 = 5 → Cond.methodLink (am_own mi) idx Lib.objectInit ∈ am_ws)
    (hi : am_ins mi pc = some (.invokespecial idx)) (h : am_step mi pc (.invokespecial idx) ls st g M = some (pc', ls', st', g', M')) (kk : am_KK X p l e R s m args below meth c cells slots Q mi g pc' ls' st' g' M') :
    W p l e R s m args below meth c H locs cells slots Q (F0 m pc lsM (st.map (am_V X))) := by
  have hw := fun w h => am_wd (w := w) hF h
  obtain ⟨hx, hb, hml, hown, hts, -⟩ := hF
  dsimp only [am_step] at h
  split at h
  · next e0 =>
    split at h
    · next a st2 =>
      split at h
      · next h1 =>
        simp only [Option.some.injEq, Prod.mk.injEq] at h
        obtain ⟨rfl, rfl, rfl, rfl, rfl⟩ := h
        obtain ⟨ha, -⟩ := am_R_obj hR h1.1
        have hsum : ((st2.map (am_V X)).map fun v => v.category).sum = (st2.map am_cat).sum := by
          rw [List.map_map]
          congr 1
          exact List.map_congr_left fun v _ => am_catV X hG v
        rw [List.map_cons, show am_V X (aR a) = .ref (xB X + (a - 100)) from am_ad_new ha]
        exact W.objInit hx hb hown (hw _ (hlk _ e0 rfl)) (hw _ hin) (hw _ hco) rfl (by rw [hml]; exact hl.1) rfl (am_dec hi rfl) hfr (by show 2 * 0 + _ + 12 ≤ _; rw [hsum]; omega) (kk H lsM locs cells slots rfl rfl hR hl hn hq)
      · cases h
    · cases h
  · cases h
theorem am_s_clone (hG : am_Gl X) (hF : am_Fx X p l s m args meth c mi) (hR : am_Rel X g M H) (hl : lv_has lsM (am_nL mi) (am_lv X ls)) (hn : ls.length = am_nL mi) (hq : ∀ q ∈ locs, xB X ≤ q.base) {idx : Nat} (hfr : 1 ≤ R.frames) (hlo : 40 ≤ R.locals) (hcl : cells + gN g' ≤ R.cells + gN g) (hsl : slots + gS g' ≤ R.slots + gS g) (hlk : ∀ q, am_ml (am_oc mi) idx = some q → q.2.1 = 11 → Cond.methodLink (am_own mi) idx ⟨"[B", "clone", "()Ljava/lang/Object;"⟩ ∈ am_ws ∧ Cond.selects "[B" ⟨"[B", "clone", "()Ljava/lang/Object;"⟩ ⟨"java/lang/Object", "clone", "()Ljava/lang/Object;"⟩ ∈ am_ws ∧ Cond.castable "[B" "java/lang/Cloneable" ∈ lw_tbl)
    (hi : am_ins mi pc = some (.invokevirtual idx)) (h : am_step mi pc (.invokevirtual idx) ls st g M = some (pc', ls', st', g', M')) (kk : am_KK X p l e R s m args below meth c cells slots Q mi g pc' ls' st' g' M') :
    W p l e R s m args below meth c H locs cells slots Q (F0 m pc lsM (st.map (am_V X))) := by
  have hw := fun w h => am_wd (w := w) hF h
  have hF0 := hF
  have hW : (xS X).WarmedH s.vm := hF.2.2.2.2.2.2.2.2.2.2.1
  obtain ⟨hx, hb, hml, hown, hts, -⟩ := hF
  dsimp only [am_step] at h
  split at h
  · next e0 =>
    obtain ⟨l1, l2, l3⟩ := hlk _ e0 rfl
    unfold am_clone at h
    split at h
    · next a st2 =>
      split at h
      · next h1 =>
        obtain ⟨h1, h2⟩ := h1
        simp only [Option.some.injEq, Prod.mk.injEq] at h
        obtain ⟨rfl, rfl, rfl, rfl, rfl⟩ := h
        obtain ⟨a1, a2, a3, a4, a5⟩ := am_al1 (g := g) (kind := 21) (len := gL g a) (sl := gL g a)
        rw [a1] at hcl
        rw [a2] at hsl
        obtain ⟨p1, p2, p3, p4⟩ := am_R_arr hR (r := a) (by omega) (by omega)
        have hby := am_R_byt hR h1
        have hsum : ((st2.map (am_V X)).map fun v => v.category).sum = (st2.map am_cat).sum := by
          rw [List.map_map]
          congr 1
          exact List.map_congr_left fun v _ => am_catV X hG v
        rw [List.map_cons, show am_V X (aR a) = .ref (xB X + (a - 100)) from am_ad_new p1]
        have hA := (am_arr hG hF0 (k := 21) (by omega) (by omega))
        rw [h1] at p4
        have hnm : s.vm.findClass "[B" = some (xA X 21) := hA.2
        have hAO : ArrOfT s (xA X 21) .byte := hA.1
        obtain ⟨-, kS, hkS, compS, hkindS⟩ := hAO 0 (fun _ => .null)
        have hcl9 : va_Nw (.castable "[B" "java/lang/Cloneable") s := va_Nw.warmC hW (hG.2.2.2.2.2.2.2.2.2.1 _ l3 rfl)
        obtain ⟨c0, t0', f1, f2, f3⟩ := Cond.castable_spec (va_Nw.use (A := args) rfl hcl9)
        cases hnm.symm.trans f1
        intro T hT Xs
        obtain ⟨-, kA, hkA, comp, hkind⟩ := State.isArrayOf_alike Xs.warmed.alike (hAO 0 (fun _ => .null))
        obtain ⟨vm', X', st⟩ := Xs.cloneArray hx hown (hw _ l1) (hw _ am_w_ols) (hw _ am_w_oln) (hw _ am_w_oli) (hw _ l2) (a := xB X + (a - 100)) (cell := arrV (xA X 21) (gL g a) (am_av X g M a)) (by rw [hT]; exact p4) (fun k h => by cases h) (fun h => by cases h) hnm f2 f3
          (fun i v hv => by
            have hk' : T.vm.classes[xA X 21]? = some kA := hkA
            have hi9 : i < gL g a := by
              have := (Array.getElem?_eq_some_iff.mp hv).1
              rw [arrV_size] at this
              exact this
            rw [arrV_read _ _ hi9] at hv
            cases hv
            unfold am_av
            rw [if_pos (by omega)]
            have hf9 : fits .byte (.int (Int32.ofInt (M a i))) = true := by
              have hx9 := hby i hi9
              show ((-128 : Int32) ≤ Int32.ofInt (M a i) && Int32.ofInt (M a i) ≤ (127 : Int32)) = true
              rw [show (-128 : Int32) = Int32.ofInt (-128) by decide, show (127 : Int32) = Int32.ofInt 127 by decide]
              have e1 : wr (M a i) = M a i := wr_id (by omega) (by omega)
              have e2 : wr (-128) = -128 := by decide
              have e3 : wr 127 = 127 := by decide
              rw [Bool.and_eq_true, decide_eq_true_eq, decide_eq_true_eq, am_leI, am_leI, e1, e2, e3]
              omega
            show T.fitsSlot (xA X 21) .none i _ = true
            simpa [State.fitsSlot, State.slotType?, hk', hkind] using hf9)
          (g := F0 m pc lsM (.ref (xB X + (a - 100)) :: st2.map (am_V X))) rfl (by rw [hml]; exact hl.1) rfl (by rw [hb]; exact am_dec hi rfl) hfr (by show 2 * 0 + _ + 14 ≤ _; rw [hsum]; omega) (by omega) (by rw [arrV_size]; omega) (hloader := Vm.clonesLoader_of_array hkS hkindS)
        rw [arrV_size] at X'
        have k9 := kk (H.push (arrV (xA X 21) (gL g a) (am_av X g M a))) lsM locs (cells + 1) (slots + gL g a) (by rw [a1]; omega) (by rw [a2]; omega) (am_Rel_push (M' := upM M (100 + gN g) (M a)) hR (fun r hr => by unfold upM; rw [if_neg hr]) (by rw [Array.size_push]) (fun q hq => by rw [Array.getElem?_push, if_neg (by omega)]) (Or.inr (Or.inl ?_))) hl hn hq
        · rw [List.map_cons, am_ad_here] at k9
          obtain ⟨t, b1, b2⟩ := k9 ((T.setVm vm').pushCell (arrV (xA X 21) (gL g a) (am_av X g M a))) (by rw [← hT]; rfl) X'
          refine ⟨t, st t ?_, b2⟩
          rw [hT, hR.1]
          exact b1
        · rw [a3, a4]
          refine ⟨by omega, by omega, p3, ?_, fun _ j hj => by unfold upM; rw [if_pos rfl]; exact hby j hj⟩
          rw [show xB X + (100 + gN g - 100) = H.size by rw [hR.1]; omega, Array.getElem?_push_size]
          refine congrArg (fun f => some (arrV _ _ f)) (funext fun j => ?_)
          unfold am_av upM
          rw [a3, if_pos (by omega), if_pos (by omega), if_pos rfl]
      · cases h
    · cases h
  · cases h
theorem am_s_checkcast (hG : am_Gl X) (hF : am_Fx X p l s m args meth c mi) (hR : am_Rel X g M H) (hl : lv_has lsM (am_nL mi) (am_lv X ls)) (hn : ls.length = am_nL mi) (hq : ∀ q ∈ locs, xB X ≤ q.base) {idx : Nat}
    (hi : am_ins mi pc = some (.checkcast idx)) (h : am_step mi pc (.checkcast idx) ls st g M = some (pc', ls', st', g', M')) (kk : am_KK X p l e R s m args below meth c cells slots Q mi g pc' ls' st' g' M') :
    W p l e R s m args below meth c H locs cells slots Q (F0 m pc lsM (st.map (am_V X))) := by
  have hw := fun w h => am_wd (w := w) hF h
  have hF0 := hF
  obtain ⟨hx, hb, hml, hown, hts, -⟩ := hF
  dsimp only [am_step] at h
  split at h
  · next a st2 =>
    split at h
    · next i0 ci pz e0 =>
      split at h
      · next h1 =>
        obtain ⟨rfl, h1⟩ := h1
        simp only [Option.some.injEq, Prod.mk.injEq] at h
        obtain ⟨rfl, rfl, rfl, rfl, rfl⟩ := h
        obtain ⟨-, w1, -⟩ := am_cl_ok e0
        dsimp only at w1
        rw [show am_cname 21 = "[B" by decide +kernel] at w1
        obtain ⟨p1, p2, p3, p4⟩ := am_R_arr hR (r := a) (by omega) (by omega)
        rw [h1] at p4
        have hnm : s.vm.findClass "[B" = some (xA X 21) := (am_arr hG hF0 (k := 21) (by omega) (by omega)).2
        have k9 := kk H lsM locs cells slots rfl rfl hR hl hn hq
        rw [List.map_cons, show am_V X (aR a) = .ref (xB X + (a - 100)) from am_ad_new p1] at k9 ⊢
        intro T hT Xs
        obtain ⟨vm', X', st⟩ := Xs.checkcastYes hx hown (hw _ w1) (by rw [hT]; exact p4) rfl hnm (va_asg _ _) (g := F0 m pc lsM (.ref (xB X + (a - 100)) :: st2.map (am_V X))) rfl rfl (by rw [hb]; exact am_dec hi rfl)
        obtain ⟨t, a1, b1⟩ := k9 (T.setVm vm') hT X'
        exact ⟨t, st t a1, b1⟩
      · cases h
    · cases h
  · cases h
end SIM
