/-! THE SMALL MACHINE AND THE MACHINE: fields written, statics, constants -/
theorem am_fitR {ty : FieldType} (h : ty.isReference = true) {v : Value} (hv : v = .null ∨ ∃ a, v = .ref a) : narrow ty v = v ∧ fits ty v = true := by
  rcases hv with rfl | ⟨a, rfl⟩ <;> cases ty <;> first | exact ⟨rfl, rfl⟩ | cases h
section SIM
variable {p : Program} {l : Launch} {e : Env} {R : Room} {s : State} {m : MethodId} {args : Array Value} {below : List Frame} {meth : Method} {c : Code} {H : Heap} {locs : List Loc} {cells slots : Nat} {Q : State → Prop}
variable {X : am_X} {mi pc pc' : Nat} {ls ls' st st' : List AV} {g g' : AG} {M M' : AM} {lsM : Array Slot}
theorem am_ftf {ci k : Nat} (h : ci < 20) (hk : k < am_nf ci) : parseFieldDescriptor ((am_cr ci).2.1 k).2.2.1 = some (am_fty ci k) ∧ (am_fkd ci k % 4 = 1 ↔ (am_fty ci k).isReference = true) ∧ (am_fkd ci k % 4 = 0 ↔ am_fty ci k = .int) ∧ (am_fkd ci k % 4 = 2 ↔ am_fty ci k = .boolean) ∧ (4 ≤ am_fkd ci k ↔ ((am_cr ci).2.1 k).2.2.2 = true) ∧ (am_fkd ci k < 4 ∨ ((am_cr ci).2.1 k).1 = (am_cr ci).1) ∧ (am_fkd ci k % 4 = 3 ↔ am_fty ci k = .byte) := by
  have h1 := am_all (am_all am_ft_chk h) hk
  unfold am_ftok at h1
  simp only [Bool.and_eq_true, Bool.or_eq_true, decide_eq_true_eq] at h1
  obtain ⟨⟨⟨⟨⟨⟨a, b⟩, c1⟩, d⟩, d3⟩, e1⟩, f⟩ := h1
  have t : ∀ x y : Bool, (x == y) = true → (x = true ↔ y = true) := by decide
  refine ⟨a, ?_, ?_, ?_, ?_, f, ?_⟩
  · have := t _ _ b; simpa using this
  · have := t _ _ c1; simpa using this
  · have := t _ _ d; simpa using this
  · have := t _ _ e1; simpa using this
  · have := t _ _ d3; simpa using this
theorem am_putany (hG : am_Gl X) (hF : am_Fx X p l s m args meth c mi) (hR : am_Rel X g M H) (hq : ∀ q ∈ locs, xB X ≤ q.base) {idx a ci k : Nat} {v : Value} {rest : List Value} (h1 : gK g a = ci) (f1 : am_ob ci) (h2 : k < am_nf ci) (hfin : am_finok mi ci k = true)
    (hlink : Cond.fieldLink (am_own mi) idx ((am_cr ci).2.1 k).1 ((am_cr ci).2.1 k).2.1 ((am_cr ci).2.1 k).2.2.1 ∈ am_ws ∨ (Cond.fieldLinkNest (am_own mi) idx ((am_cr ci).2.1 k).1 ((am_cr ci).2.1 k).2.1 ((am_cr ci).2.1 k).2.2.1 "RodYardLaw" ∈ lw_tbl ∧ am_own mi ≠ am_cn ci)) (hnr : narrow (am_fty ci k) v = v) (hft : fits (am_fty ci k) v = true) (hi : am_ins mi pc = some (.putfield idx))
    (e1 : gN g' = gN g) (e2 : gK g' = gK g) (e3 : gL g' = gL g) (e4 : ∀ r, r ≠ a → gR g' r = gR g r ∧ M' r = M r) (hv : ∀ j, j < am_nf ci → am_fv X g' M' a j = if j = k then v else am_fv X g M a j)
    (kk : ∀ (H' : Heap) (locs' : List Loc), am_Rel X g' M' H' → (∀ q ∈ locs', xB X ≤ q.base) → W p l e R s m args below meth c H' locs' cells slots Q (F0 m (pc + 3) lsM rest)) :
    W p l e R s m args below meth c H locs cells slots Q (F0 m pc lsM (v :: .ref (xB X + (a - 100)) :: rest)) := by
  have hK := am_Kof hG hF
  have hw := fun w h => am_wd (w := w) hF h
  have hW : (xS X).WarmedH s.vm := hF.2.2.2.2.2.2.2.2.2.2.1
  obtain ⟨hx, hb, hml, hown, hts, -, -, -, hnam, -⟩ := hF
  obtain ⟨ha, hb2, cell, q1, q2, q3, q4⟩ := am_R_obj hR (r := a) (by rw [h1]; exact f1)
  rw [h1] at q2 q4
  have f1' : ci < 20 := by omega
  obtain ⟨c1, c2⟩ := am_nf_ok ci f1'
  obtain ⟨t1, t2, t3, t4, t5, t6, t7⟩ := am_ftf f1' h2
  have hk2 : k < (am_cr ci).2.2 := by rw [c2]; exact h2
  have hap := va_apart (own := am_own mi) hts (am_uok f1') (am_fty ci) (fun j hj => (am_ftf f1' (by rw [c2] at hj; exact hj)).1) (fun x hx y hy hne => by
    have h3 := am_all (am_all (am_all am_nm_chk f1') (i := x) (by rw [c2] at hx; exact hx)) (i := y) (by rw [c2] at hy; exact hy)
    simp only [Bool.or_eq_true, decide_eq_true_eq, Bool.not_eq_true', decide_eq_false_iff_not] at h3
    rcases h3 with h3 | h3
    · exact absurd h3 hne
    · exact h3) hK c1
  obtain ⟨hS, hfc, kC, hkC, hkind⟩ := hK.1 ci _ c1
  obtain ⟨cf, kf, fi, f, hi2, hsl⟩ := hS k hk2
  have hst := (u_facts hfc hkC (u_lays hts (am_uok f1') (k := k) hk2) hi2).1
  have hlay := hts _ (am_uok f1' _ (u_in_lay hk2))
  unfold u_lay at hlay
  have hlt : f.slot < cell.slots.size := by rw [hsl]; exact k2_hasslot (q4 k h2)
  have fin : ∀ H' : Heap, H'[xB X + (a - 100)]? = some (cell.setSlot f.slot v) → H'.size = H.size → (∀ q, q ≠ xB X + (a - 100) → H'[q]? = H[q]?) → W p l e R s m args below meth c H' (locs ++ [⟨xB X + (a - 100), f.slot⟩]) cells slots Q (F0 m (pc + 3) lsM rest) := by
    intro H' z1 z2 z3
    refine kk H' _ (am_Rel_set hR ha hb2 e1 e2 e3 e4 z2 z3 (Or.inl ?_)) (fun q hq2 => ?_)
    · rw [e2, h1]
      refine ⟨f1, cell.setSlot f.slot v, z1, q2, q3, fun j hj => ?_⟩
      rw [hsl, t_set q4 (fun x y hx hy => hap x y (by rw [c2]; exact hx) (by rw [c2]; exact hy)) h2 v j hj, hv j hj]
      rfl
    · rcases List.mem_append.mp hq2 with h | h
      · exact hq q h
      · rw [List.mem_singleton.mp h]; exact Nat.le_add_right _ _
  by_cases h4 : am_fkd ci k < 4
  · have h5 : ((am_cr ci).2.1 k).2.2.2 = false := by
      cases h6 : ((am_cr ci).2.1 k).2.2.2
      · rfl
      · have := t5.mpr h6; omega
    rw [if_neg (by rw [h5]; decide)] at hlay
    have h6 := u_store hfc hkC hkind hlay hi2 t1 hnr hft
    rcases hlink with hlink | ⟨hlink, -⟩
    · exact W.putK hx hb (f := f) ⟨hown, hw _ hlink, ⟨_, _, _, hi2⟩, hst⟩ (by rw [q2]; exact h6) q1 q3 hlt rfl rfl (am_dec hi rfl) fin
    · exact va_WputK hx hb (f := f) hown (va_Nw.use rfl (va_Nw.warmF hW (hG.2.2.2.2.2.2.2.2.2.1 _ hlink rfl))) hi2 hst (by rw [q2]; exact h6) q1 q3 hlt rfl rfl (am_dec hi rfl) fin
  · have h5 : ((am_cr ci).2.1 k).2.2.2 = true := t5.mp (by omega)
    rw [if_pos h5] at hlay
    unfold am_finok at hfin
    simp only [Bool.or_eq_true, Bool.and_eq_true, decide_eq_true_eq] at hfin
    rcases hfin with h7 | ⟨h7, h8⟩
    · exact absurd h7 h4
    have hcf : m.cls = cf := by
      obtain ⟨_, _, c', _, _, _, -, -, hf', -, -, -, hown2, -⟩ := Cond.laysFinal_spec hlay
      have e1 : c' = cf := by have := hi2.symm.trans hf'; simp at this; exact this.1.symm
      rw [t6.resolve_left h4, am_cn_ok ci f1, ← h8] at hown2
      rw [← e1]; exact Option.some.inj (hown.symm.trans hown2)
    have h6 := u_fits hfc hkC hkind (Or.inr hlay) hi2 t1 hnr hft
    exact W.putFinK hx hb hown (hw _ (hlink.resolve_right (fun h9 => h9.2 h8))) hi2 hst hcf (hnam.trans h7) (by rw [q2]; exact h6) q1 q3 hlt rfl rfl (am_dec hi rfl) fin
theorem am_s_putfield (hG : am_Gl X) (hF : am_Fx X p l s m args meth c mi) (hR : am_Rel X g M H) (hl : lv_has lsM (am_nL mi) (am_lv X ls)) (hn : ls.length = am_nL mi) (hq : ∀ q ∈ locs, xB X ≤ q.base) {idx : Nat}
    (hi : am_ins mi pc = some (.putfield idx)) (h : am_step mi pc (.putfield idx) ls st g M = some (pc', ls', st', g', M')) (kk : am_KK X p l e R s m args below meth c cells slots Q mi g pc' ls' st' g' M') :
    W p l e R s m args below meth c H locs cells slots Q (F0 m pc lsM (st.map (am_V X))) := by
  dsimp only [am_step, am_putf] at h
  split at h
  · next x a st2 =>
    split at h
    · next i0 ci k pz e1 =>
      split at h
      · next h1 =>
        obtain ⟨h1, h2, h3, h4⟩ := h1
        obtain ⟨-, f1, f2, f3⟩ := am_fl_ok e1
        dsimp only at f1 f2 f3
        simp only [Option.some.injEq, Prod.mk.injEq] at h
        obtain ⟨rfl, rfl, rfl, rfl, rfl⟩ := h
        obtain ⟨ha, -⟩ := am_R_obj hR (r := a) (by rw [h1]; exact f1)
        obtain ⟨t1, t2, t3, t4, -, -, t7⟩ := am_ftf (by omega) f2
        rw [List.map_cons, List.map_cons, show am_V X (aR a) = .ref (xB X + (a - 100)) from am_ad_new ha]
        have hnf : narrow (am_fty ci k) (.int (Int32.ofInt x)) = .int (Int32.ofInt x) ∧ fits (am_fty ci k) (.int (Int32.ofInt x)) = true := by
          rcases h4 with h4 | ⟨h4, h5 | h5⟩ | ⟨h4, h5⟩
          · rw [t3.mp h4]; exact ⟨rfl, rfl⟩
          · rw [t4.mp h4, h5]; exact ⟨by decide, by decide⟩
          · rw [t4.mp h4, h5]; exact ⟨by decide, by decide⟩
          · rw [t7.mp h4]
            refine ⟨?_, ?_⟩
            · rw [show narrow .byte (.int (Int32.ofInt x)) = .int (Int32.ofInt (x.bmod 256)) from congrArg Value.int (am_i2b x), Int.bmod_eq_of_le (by omega) (by omega)]
            · show ((-128 : Int32) ≤ Int32.ofInt x && Int32.ofInt x ≤ (127 : Int32)) = true
              rw [show (-128 : Int32) = Int32.ofInt (-128) by decide, show (127 : Int32) = Int32.ofInt 127 by decide]
              have e1 : wr x = x := wr_id (by omega) (by omega)
              have e2 : wr (-128) = -128 := by decide
              have e3 : wr 127 = 127 := by decide
              rw [Bool.and_eq_true, decide_eq_true_eq, decide_eq_true_eq, am_leI, am_leI, e1, e2, e3]
              omega
        refine am_putany (g' := g) (M' := up2 M a k x) hG hF hR hq h1 f1 f2 h3 (am_fl_nst e1 f3) hnf.1 hnf.2 hi rfl rfl rfl (fun r hr => ⟨rfl, by unfold up2 upM; rw [if_neg hr]⟩) (fun j hj => ?_) (fun H' locs' hR' hq' => kk H' lsM locs' cells slots rfl rfl hR' hl hn hq')
        unfold am_fv up2 upM upI
        rw [h1, if_pos rfl]
        by_cases hjk : j = k
        · subst hjk
          rw [if_pos rfl, if_neg (by omega), if_pos rfl]
          rfl
        · rw [if_neg hjk, if_neg (show ¬ ((j : Int) = (k : Int)) by omega)]
      · cases h
    · cases h
  · next x a st2 =>
    split at h
    · next i0 ci k pz e1 =>
      split at h
      · next h1 =>
        obtain ⟨h1, h2, h3, h4⟩ := h1
        obtain ⟨-, f1, f2, f3⟩ := am_fl_ok e1
        dsimp only at f1 f2 f3
        simp only [Option.some.injEq, Prod.mk.injEq] at h
        obtain ⟨rfl, rfl, rfl, rfl, rfl⟩ := h
        obtain ⟨ha, -⟩ := am_R_obj hR (r := a) (by rw [h1]; exact f1)
        obtain ⟨t1, t2, t3, t4, -, -, t7⟩ := am_ftf (by omega) f2
        rw [List.map_cons, List.map_cons, show am_V X (aR a) = .ref (xB X + (a - 100)) from am_ad_new ha]
        have hnf := am_fitR (t2.mp h4) (am_adcase X hG x)
        refine am_putany (g' := (gN g, gS g, gK g, gL g, up2R (gR g) a k x)) (M' := M) hG hF hR hq h1 f1 f2 h3 (am_fl_nst e1 f3) hnf.1 hnf.2 hi rfl rfl rfl (fun r hr => ⟨by show up2R _ _ _ _ r = _; unfold up2R upR; rw [if_neg hr], rfl⟩) (fun j hj => ?_) (fun H' locs' hR' hq' => kk H' lsM locs' cells slots rfl rfl hR' hl hn hq')
        unfold am_fv
        show (if am_fkd (gK g a) j % 4 = 1 then am_ad X (up2R (gR g) a k x a j) else _) = _
        unfold up2R upR
        rw [h1, if_pos rfl]
        by_cases hjk : j = k
        · subst hjk
          rw [if_pos rfl, if_pos h4, if_pos rfl]
          rfl
        · rw [if_neg hjk, if_neg (show ¬ ((j : Int) = (k : Int)) by omega)]
      · cases h
    · cases h
  · cases h
theorem am_s_getstatic (hG : am_Gl X) (hF : am_Fx X p l s m args meth c mi) (hR : am_Rel X g M H) (hl : lv_has lsM (am_nL mi) (am_lv X ls)) (hn : ls.length = am_nL mi) (hq : ∀ q ∈ locs, xB X ≤ q.base) {idx : Nat}
    (hi : am_ins mi pc = some (.getstatic idx)) (h : am_step mi pc (.getstatic idx) ls st g M = some (pc', ls', st', g', M')) (kk : am_KK X p l e R s m args below meth c cells slots Q mi g pc' ls' st' g' M') :
    W p l e R s m args below meth c H locs cells slots Q (F0 m pc lsM (st.map (am_V X))) := by
  have hw := fun w h => am_wd (w := w) hF h
  have hal : (xS X).vm.Alike s.vm := hF.2.2.2.2.2.2.2.2.2.2.1.alike
  obtain ⟨hx, hb, hml, hown, hts, -⟩ := hF
  have row : ∀ {C n d : String} {v : Value} {idx : Nat}, va_Z C n d v (xU X) (xS X) (xS X).heap → (Cond.fieldLink (am_own mi) idx C n d).before args s = true → am_ins mi pc = some (.getstatic idx) → W p l e R s m args below meth c H locs cells slots Q (F0 m (pc + 3) lsM (v :: st.map (am_V X))) → W p l e R s m args below meth c H locs cells slots Q (F0 m pc lsM (st.map (am_V X))) := by
    intro C n d v idx hZ hlk hi k9
    obtain ⟨cf, kf, fi, f, a, cell, z1, z2, z3, z4, z5, z6, z7, z8⟩ := va_Z.moved hal hZ
    exact W.gets hx hb hown hlk z1 z2 z3 z4 (by rw [hR.2.1 a (Nat.not_le.mp z8)]; exact z5) (fun e => by rw [e] at z6; cases z6) z7 rfl (am_dec hi rfl) k9
  dsimp only [am_step] at h
  split at h
  · next h1 =>
    simp only [Option.some.injEq, Prod.mk.injEq] at h
    obtain ⟨rfl, rfl, rfl, rfl, rfl⟩ := h
    rcases h1 with ⟨oc, rfl⟩ | ⟨oc, rfl⟩
    · have ho : am_own mi = "java/lang/String" := by unfold am_own; rw [oc]; decide +kernel
      exact row hG.2.2.1.1 (by rw [ho]; exact hw _ am_w_gs1) hi (kk H lsM locs cells slots rfl rfl hR hl hn hq)
    · have ho : am_own mi = "java/lang/AbstractStringBuilder" := by unfold am_own; rw [oc]; decide +kernel
      exact row hG.2.2.1.1 (by rw [ho]; exact hw _ am_w_gs3) hi (kk H lsM locs cells slots rfl rfl hR hl hn hq)
  · split at h
    · next h0 h1 =>
      obtain ⟨oc, rfl⟩ := h1
      simp only [Option.some.injEq, Prod.mk.injEq] at h
      obtain ⟨rfl, rfl, rfl, rfl, rfl⟩ := h
      have ho : am_own mi = "java/lang/String" := by unfold am_own; rw [oc]; decide +kernel
      exact row hG.2.2.1.2 (by rw [ho]; exact hw _ am_w_gs2) hi (kk H lsM locs cells slots rfl rfl hR hl hn hq)
    · split at h
      · next h1 =>
        obtain ⟨oc, rfl⟩ := h1
        simp only [Option.some.injEq, Prod.mk.injEq] at h
        obtain ⟨rfl, rfl, rfl, rfl, rfl⟩ := h
        have ho : am_own mi = "java/lang/Integer" := by unfold am_own; rw [oc]; decide +kernel
        obtain ⟨v, v1, v2, v3⟩ := hG.2.2.2.2.2.2.2.2.2.2.2.2.1
        have k9 := kk H lsM locs cells slots rfl rfl hR hl hn hq
        rw [List.map_cons, show am_V X (aR 50) = .ref v from v1] at k9
        exact row v2 (by rw [ho]; exact hw _ am_w_gs4) hi k9
      · split at h
        · next h1 =>
          obtain ⟨oc, rfl⟩ := h1
          simp only [Option.some.injEq, Prod.mk.injEq] at h
          obtain ⟨rfl, rfl, rfl, rfl, rfl⟩ := h
          have ho : am_own mi = "java/lang/Integer" := by unfold am_own; rw [oc]; decide +kernel
          obtain ⟨v, v1, v2, v3⟩ := hG.2.2.2.2.2.2.2.2.2.2.2.2.2
          have k9 := kk H lsM locs cells slots rfl rfl hR hl hn hq
          rw [List.map_cons, show am_V X (aR 51) = .ref v from v1] at k9
          exact row v2 (by rw [ho]; exact hw _ am_w_gs5) hi k9
        · cases h
theorem am_s_ldc (hG : am_Gl X) (hF : am_Fx X p l s m args meth c mi) (hR : am_Rel X g M H) (hl : lv_has lsM (am_nL mi) (am_lv X ls)) (hn : ls.length = am_nL mi) (hq : ∀ q ∈ locs, xB X ≤ q.base) {idx : Nat}
    (hi : am_ins mi pc = some (.ldc idx)) (h : am_step mi pc (.ldc idx) ls st g M = some (pc', ls', st', g', M')) (kk : am_KK X p l e R s m args below meth c cells slots Q mi g pc' ls' st' g' M') :
    W p l e R s m args below meth c H locs cells slots Q (F0 m pc lsM (st.map (am_V X))) := by
  have hw := fun w h => am_wd (w := w) hF h
  have hW : (xS X).WarmedH s.vm := hF.2.2.2.2.2.2.2.2.2.2.1
  obtain ⟨hx, hb, hml, hown, hts, -⟩ := hF
  dsimp only [am_step] at h
  split at h
  · next i1 x pz e0 =>
    obtain ⟨-, h1⟩ := am_ct_ok e0
    simp only [Option.some.injEq, Prod.mk.injEq] at h
    obtain ⟨rfl, rfl, rfl, rfl, rfl⟩ := h
    exact lv_ldc hx hb hown (hw _ h1) (am_dec hi rfl) (kk H lsM locs cells slots rfl rfl hR hl hn hq)
  · split at h
    · next i0 cd pz e1 =>
      simp only [Option.some.injEq, Prod.mk.injEq] at h
      obtain ⟨rfl, rfl, rfl, rfl, rfl⟩ := h
      obtain ⟨j, hj, rfl', s1, s2⟩ := am_sr_ok e1
      dsimp only at rfl'
      subst rfl'
      have hz := hG.2.2.2.2.2.2.1 j hj
      obtain ⟨aa, vv, p1, -⟩ := hG.2.2.2.1 j hj
      rw [p1, s1, s2] at hz
      have k9 := kk H lsM locs cells slots rfl rfl hR hl hn hq
      rw [List.map_cons, show am_V X (aR (10 + 2 * j)) = .ref aa by
        show am_ad X _ = _
        unfold am_ad
        rw [if_neg (by omega), if_pos (by omega), p1]] at k9
      exact va_ldcS hx hb hown (vk_R.warm hW hz) (am_dec hi rfl) k9
    · cases h
theorem am_s_ldc_w (hG : am_Gl X) (hF : am_Fx X p l s m args meth c mi) (hR : am_Rel X g M H) (hl : lv_has lsM (am_nL mi) (am_lv X ls)) (hn : ls.length = am_nL mi) (hq : ∀ q ∈ locs, xB X ≤ q.base) {idx : Nat}
    (hi : am_ins mi pc = some (.ldc_w idx)) (h : am_step mi pc (.ldc_w idx) ls st g M = some (pc', ls', st', g', M')) (kk : am_KK X p l e R s m args below meth c cells slots Q mi g pc' ls' st' g' M') :
    W p l e R s m args below meth c H locs cells slots Q (F0 m pc lsM (st.map (am_V X))) := by
  have hW : (xS X).WarmedH s.vm := hF.2.2.2.2.2.2.2.2.2.2.1
  obtain ⟨hx, hb, hml, hown, hts, -⟩ := hF
  dsimp only [am_step] at h
  split at h
  · next i0 cd pz e1 =>
    simp only [Option.some.injEq, Prod.mk.injEq] at h
    obtain ⟨rfl, rfl, rfl, rfl, rfl⟩ := h
    obtain ⟨j, hj, rfl', s1, s2⟩ := am_sr_ok e1
    dsimp only at rfl'
    subst rfl'
    have hz := hG.2.2.2.2.2.2.1 j hj
    obtain ⟨aa, vv, p1, -⟩ := hG.2.2.2.1 j hj
    rw [p1, s1, s2] at hz
    have hz := vk_R.warm hW hz
    have k9 := kk H lsM locs cells slots rfl rfl hR hl hn hq
    rw [List.map_cons, show am_V X (aR (10 + 2 * j)) = .ref aa by
      show am_ad X _ = _
      unfold am_ad
      rw [if_neg (by omega), if_pos (by omega), p1]] at k9
    intro T hT X2
    obtain ⟨t, a1, b1⟩ := k9 T hT X2
    exact ⟨t, X2.ldcStringW hx hown hz.1 hz.2 (g := F0 m pc lsM (st.map (am_V X))) rfl (by rw [hb]; exact am_dec hi rfl) t a1, b1⟩
  · cases h
end SIM
