/-! THE SMALL MACHINE AND THE MACHINE: the heap -/
def va_AOA (t : FieldType) (U : State) : Prop := (Cond.arrayOver (.array t)).before #[] U = true
theorem va_AOA.moved {t : FieldType} {u U : State} (hvm : u.vm.Alike U.vm) (h : va_AOA t u) : va_AOA t U := by
  obtain ⟨comp, c, k, h1, h2, h3, h4, h5⟩ := arrayOverA_spec h
  obtain ⟨k', hk', he⟩ := hvm.2.2 _ _ h3
  have hi : (U.vm.classes.findIdx? fun (x : Class) => match x.kind with | .array component _ => component == comp | _ => false) = some c := by
    rw [hvm.findIdx?_eq _ (fun _ => rfl)]
    exact h2
  have hkind : k'.kind = .array comp (.array t) := by rw [he]; exact h4
  have f1 : U.vm.findClass (FieldType.array t).toString = some comp := by rw [hvm.findClass]; exact h1
  have f2 : U.vm.findClass ("[" ++ (FieldType.array t).toString) = some c := by rw [hvm.findClass]; exact h5
  unfold va_AOA Cond.before Cond.holds
  simp only [Cond.value]
  rw [f1, Option.bind_some]
  refine (congrArg (fun o : Option Nat => (o.bind (fun c => (U.vm.classes[c]?).map fun (k : Class) => match k.kind with | .array _ ty => decide (ty = FieldType.array t) && decide (U.vm.findClass ("[" ++ (FieldType.array t).toString) = some c) | _ => false) == some true)) hi).trans ?_
  simp [hk', hkind, f2]
theorem am_ad_new {X : am_X} {r : Nat} (h : 100 ≤ r) : am_ad X r = .ref (xB X + (r - 100)) := by
  unfold am_ad
  rw [if_neg (by omega), if_neg (by omega)]
theorem am_k0_cases (r : Nat) : am_k0 r = 28 ∧ r = 1 ∨ am_k0 r = 14 ∧ (∃ j, j < 16 ∧ r = 10 + 2 * j) ∨ am_k0 r = 27 ∧ ((∃ j, j < 16 ∧ r = 11 + 2 * j) ∨ r = 50 ∨ r = 51) ∨ am_k0 r = 99 := by
  unfold am_k0
  split
  · exact Or.inl ⟨rfl, by assumption⟩
  · split
    · split
      · exact Or.inr (Or.inl ⟨rfl, (r - 10) / 2, by omega, by omega⟩)
      · exact Or.inr (Or.inr (Or.inl ⟨rfl, Or.inl ⟨(r - 11) / 2, by omega, by omega⟩⟩))
    · split
      · exact Or.inr (Or.inr (Or.inl ⟨rfl, Or.inr (by assumption)⟩))
      · exact Or.inr (Or.inr (Or.inr rfl))
theorem am_R_new {X : am_X} {g : AG} {M : AM} {H : Heap} (hR : am_Rel X g M H) {r : Nat} (h1 : gK g r < 27) (h2 : gK g r ≠ 14) : 100 ≤ r ∧ r < 100 + gN g ∧ am_OK X g M H r := by
  obtain ⟨-, -, hO, h99, hok⟩ := hR
  have ha : 100 ≤ r := by
    rcases Nat.lt_or_ge r 100 with q | q
    · have := hO.1 r q
      rcases am_k0_cases r with h | h | h | h <;> omega
    · exact q
  have hb : r < 100 + gN g := by
    rcases Nat.lt_or_ge r (100 + gN g) with q | q
    · exact q
    · have := h99 r q; omega
  exact ⟨ha, hb, hok r ha hb⟩
theorem am_R_obj {X : am_X} {g : AG} {M : AM} {H : Heap} (hR : am_Rel X g M H) {r : Nat} (h1 : am_ob (gK g r)) : 100 ≤ r ∧ r < 100 + gN g ∧ t_OB (xB X + (r - 100)) ((xD X).1 (gK g r)) (am_nf (gK g r)) ((xD X).2 (gK g r)) H (am_fv X g M r) := by
  obtain ⟨ha, hb, h⟩ := am_R_new hR (r := r) (by omega) (by omega)
  refine ⟨ha, hb, ?_⟩
  rcases h with h | h | h
  · exact h.2
  · omega
  · omega
theorem am_R_arr {X : am_X} {g : AG} {M : AM} {H : Heap} (hR : am_Rel X g M H) {r : Nat} (h0 : 20 ≤ gK g r) (h1 : gK g r < 27) : 100 ≤ r ∧ r < 100 + gN g ∧ gL g r < 1000000 ∧ H[xB X + (r - 100)]? = some (arrV (xA X (gK g r)) (gL g r) (am_av X g M r)) := by
  obtain ⟨ha, hb, h⟩ := am_R_new hR (r := r) (by omega) (by omega)
  refine ⟨ha, hb, ?_⟩
  rcases h with h | h | h
  · omega
  · exact ⟨h.2.2.1, h.2.2.2.1⟩
  · omega
theorem am_R_byt {X : am_X} {g : AG} {M : AM} {H : Heap} (hR : am_Rel X g M H) {r : Nat} (h0 : gK g r = 21) : ∀ j : Nat, j < gL g r → -128 ≤ M r j ∧ M r j < 128 := by
  obtain ⟨ha, hb, h⟩ := am_R_new hR (r := r) (by omega) (by omega)
  rcases h with h | h | h
  · have := h.1; omega
  · exact h.2.2.2.2 h0
  · omega
theorem am_idx {i : Int} {n : Nat} (h0 : 0 ≤ i) (h1 : i < n) (hn : n < 2147483648) : ¬ (Int32.ofInt i < 0 ∨ n ≤ (Int32.ofInt i).toNatClampNeg) ∧ (Int32.ofInt i).toNatClampNeg = i.toNat := by
  have e : (Int32.ofInt i).toInt = i := by rw [am_toI, wr_id (by omega) (by omega)]
  have e2 : (Int32.ofInt i).toNatClampNeg = i.toNat := by show (Int32.ofInt i).toInt.toNat = _; rw [e]
  refine ⟨?_, e2⟩
  rw [e2]
  intro q
  rcases q with q | q
  · rw [am_0I, am_ltI, wr_id (x := i) (by omega) (by omega), wr_0] at q; omega
  · omega
theorem am_Rel_set {X : am_X} {g g' : AG} {M M' : AM} {H H' : Heap} (hR : am_Rel X g M H) {a : Nat} (ha : 100 ≤ a) (ha2 : a < 100 + gN g) (hn : gN g' = gN g) (hk : gK g' = gK g) (hL : gL g' = gL g) (hr : ∀ r, r ≠ a → gR g' r = gR g r ∧ M' r = M r)
    (hz : H'.size = H.size) (ho : ∀ q, q ≠ xB X + (a - 100) → H'[q]? = H[q]?) (hOK : am_OK X g' M' H' a) : am_Rel X g' M' H' := by
  obtain ⟨h1, h2, ⟨o1, o2, o3, o4, o5, o6⟩, h4, h5⟩ := hR
  refine ⟨by rw [hz, h1, hn], fun q hq => by rw [ho q (by omega)]; exact h2 q hq, ⟨fun r hr2 => by rw [hk]; exact o1 r hr2, by rw [hL]; exact o2, fun j hj => by rw [(hr 1 (by omega)).2]; exact o3 j hj, fun j hj => ?_, ⟨by rw [hL]; exact o5.1, fun i hi => by rw [(hr 50 (by omega)).2]; exact o5.2 i hi⟩, ⟨by rw [hL]; exact o6.1, fun i hi => by rw [(hr 51 (by omega)).2]; exact o6.2 i hi⟩⟩, fun r hr2 => by rw [hk]; exact h4 r (by rw [← hn]; exact hr2), fun r hr1 hr2 => ?_⟩
  · obtain ⟨p1, p2, p3⟩ := o4 j hj
    refine ⟨by rw [(hr (10 + 2 * j) (by omega)).1]; exact p1, by rw [hL]; exact p2, fun i hi => by rw [(hr (11 + 2 * j) (by omega)).2]; exact p3 i hi⟩
  · by_cases e : r = a
    · rw [e]; exact hOK
    · have hq := ho (xB X + (r - 100)) (by omega)
      rw [hn] at hr2
      obtain ⟨e1, e2⟩ := hr r e
      have e3 : am_fv X g' M' r = am_fv X g M r := by unfold am_fv; rw [hk, e1, e2]
      have e4 : am_av X g' M' r = am_av X g M r := by unfold am_av; rw [hk, e1, e2]
      rcases h5 r hr1 hr2 with h | h | h
      · exact Or.inl ⟨by rw [hk]; exact h.1, by rw [hk, e3]; exact h.2.kept hq⟩
      · exact Or.inr (Or.inl ⟨by rw [hk]; exact h.1, by rw [hk]; exact h.2.1, by rw [hL]; exact h.2.2.1, by rw [hk, hL, e4, hq]; exact h.2.2.2.1, by rw [hk, hL, e2]; exact h.2.2.2.2⟩)
      · exact Or.inr (Or.inr (by rw [hk]; exact h))
section SIM
variable {p : Program} {l : Launch} {e : Env} {R : Room} {s : State} {m : MethodId} {args : Array Value} {below : List Frame} {meth : Method} {c : Code} {H : Heap} {locs : List Loc} {cells slots : Nat} {Q : State → Prop}
variable {X : am_X} {mi pc pc' : Nat} {ls ls' st st' : List AV} {g g' : AG} {M M' : AM} {lsM : Array Slot}
theorem am_Kof (hG : am_Gl X) (hF : am_Fx X p l s m args meth c mi) : va_K (xD X) am_cl (am_tys X) s := va_K.moved (hF.2.2.2.2.2.2.2.2.2.2.1.alike) hG.1
theorem am_arr (hG : am_Gl X) (hF : am_Fx X p l s m args meth c mi) {k : Nat} (h0 : 20 ≤ k) (h1 : k < 27) : ArrOfT s (xA X k) (am_aty k) ∧ va_RA s (xA X k) (am_aty k) := by
  have hK := am_Kof hG hF
  rcases (show k = 20 ∨ k = 21 ∨ k = 22 ∨ k = 23 ∨ k = 24 ∨ k = 25 ∨ k = 26 by omega) with rfl | rfl | rfl | rfl | rfl | rfl | rfl
  · exact hK.2 0 _ rfl
  · exact hK.2 1 _ rfl
  · exact hK.2 2 _ rfl
  · exact hK.2 3 _ rfl
  · exact hK.2 4 _ rfl
  · exact hK.2 5 _ rfl
  · exact hK.2 6 _ rfl
theorem am_wd (hF : am_Fx X p l s m args meth c mi) {w : Jvm.Cond} (h : w ∈ am_ws) : w.before args s = true := hF.2.2.2.2.1 w h
theorem am_s_getfield (hG : am_Gl X) (hF : am_Fx X p l s m args meth c mi) (hR : am_Rel X g M H) (hl : lv_has lsM (am_nL mi) (am_lv X ls)) (hn : ls.length = am_nL mi) (hq : ∀ q ∈ locs, xB X ≤ q.base) {idx : Nat}
    (hi : am_ins mi pc = some (.getfield idx)) (h : am_step mi pc (.getfield idx) ls st g M = some (pc', ls', st', g', M')) (kk : am_KK X p l e R s m args below meth c cells slots Q mi g pc' ls' st' g' M') :
    W p l e R s m args below meth c H locs cells slots Q (F0 m pc lsM (st.map (am_V X))) := by
  have hK := am_Kof hG hF
  have hw := fun w h => am_wd (w := w) hF h
  have hW : (xS X).WarmedH s.vm := hF.2.2.2.2.2.2.2.2.2.2.1
  have hal : (xS X).vm.Alike s.vm := hF.2.2.2.2.2.2.2.2.2.2.1.alike
  obtain ⟨hx, hb, hml, hown, hts, -⟩ := hF
  dsimp only [am_step, am_getf] at h
  split at h
  · next a st2 =>
    split at h
    · next h14 =>
      -- a text
      have ha : a < 100 := by
        rcases Nat.lt_or_ge a 100 with q | q
        · exact q
        · rcases Nat.lt_or_ge a (100 + gN g) with q2 | q2
          · rcases hR.2.2.2.2 a q q2 with h | h | h
            · have := h.1; omega
            · omega
            · omega
          · have := hR.2.2.2.1 a q2; omega
      obtain ⟨j, hj, rfl⟩ : ∃ j, j < 16 ∧ a = 10 + 2 * j := by
        have := hR.2.2.1.1 a ha
        rcases am_k0_cases a with h | h | h | h
        · omega
        · exact h.2
        · omega
        · omega
      obtain ⟨aa, vv, p1, p2, p3, p4, p5, p6⟩ := hG.2.2.2.1 j hj
      have e1 : am_V X (aR (10 + 2 * j)) = .ref aa := by
        show am_ad X _ = _
        unfold am_ad
        rw [if_neg (by omega), if_pos (by omega), p1]
      have e2 : am_V X (aR (11 + 2 * j)) = .ref vv := by
        show am_ad X _ = _
        unfold am_ad
        rw [if_neg (by omega), if_pos (by omega), p2]
      rw [List.map_cons, e1]
      split at h
      · next h1 =>
        simp only [Option.some.injEq, Prod.mk.injEq] at h
        obtain ⟨rfl, rfl, rfl, rfl, rfl⟩ := h
        obtain ⟨oc, rfl⟩ := h1
        rw [show am_own mi = "java/lang/String" by unfold am_own; rw [oc]; decide +kernel] at hown
        obtain ⟨cf, k, i, f, cell, q1, q2, q3, q4, q5, q6⟩ := va_OF.moved hal p5
        have k9 := kk H lsM locs cells slots rfl rfl hR hl hn hq
        rw [(hR.2.2.1.2.2.2.1 j hj).1, List.map_cons, e2] at k9
        exact W.getf hx hb hown (hw _ am_w_strv) q1 q2 (by rw [hR.2.1 aa (Nat.not_le.mp q6)]; exact q3) q4 q5 rfl rfl (am_dec hi rfl) k9
      · split at h
        · next h0 h1 =>
          simp only [Option.some.injEq, Prod.mk.injEq] at h
          obtain ⟨rfl, rfl, rfl, rfl, rfl⟩ := h
          obtain ⟨oc, rfl⟩ := h1
          rw [show am_own mi = "java/lang/String" by unfold am_own; rw [oc]; decide +kernel] at hown
          obtain ⟨cf, k, i, f, cell, q1, q2, q3, q4, q5, q6⟩ := va_OF.moved hal p4
          exact W.getf hx hb hown (hw _ am_w_strc) q1 q2 (by rw [hR.2.1 aa (Nat.not_le.mp q6)]; exact q3) q4 q5 rfl rfl (am_dec hi rfl) (kk H lsM locs cells slots rfl rfl hR hl hn hq)
        · cases h
    · next h14 =>
      split at h
      · next i0 ci k pz e1 =>
        split at h
        · next h1 =>
          obtain ⟨h1, h2⟩ := h1
          obtain ⟨-, f1, f2, f3⟩ := am_fl_ok e1
          dsimp only at f1 f2 f3
          obtain ⟨ha, hb2, cell, q1, q2, q3, q4⟩ := am_R_obj hR (r := a) (by rw [h1]; exact f1)
          rw [h1] at q2 q4
          obtain ⟨c1, c2⟩ := am_nf_ok ci (by omega)
          obtain ⟨hS, hfc, kC, hkC, hkind⟩ := hK.1 ci _ c1
          obtain ⟨cf, kf, fi, f, hi2, hsl⟩ := hS k (by rw [c2]; exact h2)
          have hst := (u_facts hfc hkC (u_lays hts (am_uok (by omega)) (k := k) (by rw [c2]; exact h2)) hi2).1
          rw [List.map_cons, show am_V X (aR a) = .ref (xB X + (a - 100)) from am_ad_new ha]
          have hv : cell.slots[f.slot]? = some (am_fv X g M a k) := by rw [hsl]; exact q4 k h2
          have key : ∀ v : Value, cell.slots[f.slot]? = some v → W p l e R s m args below meth c H locs cells slots Q (F0 m (pc + 3) lsM (v :: st2.map (am_V X))) → W p l e R s m args below meth c H locs cells slots Q (F0 m pc lsM (.ref (xB X + (a - 100)) :: st2.map (am_V X))) := by
            intro v hv k9
            rcases f3 with f3 | f3
            · exact W.getf hx hb hown (hw _ f3) hi2 hst q1 (by rw [q3]; exact fun h => by cases h) hv rfl rfl (am_dec hi rfl) k9
            · exact va_Wgetf hx hb hown (va_Nw.use rfl (va_Nw.warmF hW (hG.2.2.2.2.2.2.2.2.2.1 _ f3 rfl))) hi2 hst q1 (by rw [q3]; exact fun h => by cases h) hv rfl rfl (am_dec hi rfl) k9
          refine key _ hv ?_
          unfold am_fv
          rw [h1]
          split at h
          · next h3 =>
            simp only [Option.some.injEq, Prod.mk.injEq] at h
            obtain ⟨rfl, rfl, rfl, rfl, rfl⟩ := h
            rw [if_pos h3]
            exact kk H lsM locs cells slots rfl rfl hR hl hn hq
          · next h3 =>
            simp only [Option.some.injEq, Prod.mk.injEq] at h
            obtain ⟨rfl, rfl, rfl, rfl, rfl⟩ := h
            rw [if_neg h3]
            exact kk H lsM locs cells slots rfl rfl hR hl hn hq
        · cases h
      · cases h
  · cases h
end SIM
