/-! THE SMALL MACHINE AND THE MACHINE: null, signs -/
section SIM
variable {p : Program} {l : Launch} {e : Env} {R : Room} {s : State} {m : MethodId} {args : Array Value} {below : List Frame} {meth : Method} {c : Code} {H : Heap} {locs : List Loc} {cells slots : Nat} {Q : State → Prop}
variable {X : am_X} {mi pc pc' : Nat} {ls ls' st st' : List AV} {g g' : AG} {M M' : AM} {lsM : Array Slot}
theorem am_nul_ok (hG : am_Gl X) {a : Nat} {b : Bool} (h : am_nul a = some b) : (b = true ∧ am_V X (aR a) = .null) ∨ (b = false ∧ ∃ q, am_V X (aR a) = .ref q) := by
  unfold am_nul at h
  split at h
  · next h0 =>
    cases h
    refine Or.inl ⟨rfl, ?_⟩
    show am_ad X a = _
    unfold am_ad
    rw [if_pos h0]
  · next h0 =>
    split at h
    · next h1 =>
      cases h
      refine Or.inr ⟨rfl, ?_⟩
      show ∃ q, am_ad X a = _
      unfold am_ad
      rw [if_neg h0]
      by_cases h2 : a < 100
      · rw [if_pos h2]
        by_cases h3 : a % 2 = 0
        · obtain ⟨aa, vv, p1, p2, -⟩ := hG.2.2.2.1 ((a - 10) / 2) (by omega)
          exact ⟨aa, by rw [← p1]; congr 1; omega⟩
        · obtain ⟨aa, vv, p1, p2, -⟩ := hG.2.2.2.1 ((a - 11) / 2) (by omega)
          exact ⟨vv, by rw [← p2]; congr 1; omega⟩
      · rw [if_neg h2]
        exact ⟨_, rfl⟩
    · cases h
theorem am_s_ineg (hG : am_Gl X) (hF : am_Fx X p l s m args meth c mi) (hR : am_Rel X g M H) (hl : lv_has lsM (am_nL mi) (am_lv X ls)) (hn : ls.length = am_nL mi) (hq : ∀ q ∈ locs, xB X ≤ q.base)
    (hi : am_ins mi pc = some (.ineg)) (h : am_step mi pc (.ineg) ls st g M = some (pc', ls', st', g', M')) (kk : am_KK X p l e R s m args below meth c cells slots Q mi g pc' ls' st' g' M') :
    W p l e R s m args below meth c H locs cells slots Q (F0 m pc lsM (st.map (am_V X))) := by
  obtain ⟨hx, hb, hml, hown, hts, -⟩ := hF
  dsimp only [am_step, am_un] at h
  split at h
  · next x st2 =>
    simp only [Option.some.injEq, Prod.mk.injEq] at h
    obtain ⟨rfl, rfl, rfl, rfl, rfl⟩ := h
    refine lv_ineg hx hb (am_dec hi rfl) ?_
    have k9 := kk H lsM locs cells slots rfl rfl hR hl hn hq
    rw [List.map_cons, show am_V X (aI (-x)) = .int (Int32.ofInt (-x)) from rfl] at k9
    rw [show -Int32.ofInt x = Int32.ofInt (-x) from (Int32.ofInt_neg x).symm]
    exact k9
  · cases h
theorem am_s_aconst_null (hG : am_Gl X) (hF : am_Fx X p l s m args meth c mi) (hR : am_Rel X g M H) (hl : lv_has lsM (am_nL mi) (am_lv X ls)) (hn : ls.length = am_nL mi) (hq : ∀ q ∈ locs, xB X ≤ q.base)
    (hi : am_ins mi pc = some (.aconst_null)) (h : am_step mi pc (.aconst_null) ls st g M = some (pc', ls', st', g', M')) (kk : am_KK X p l e R s m args below meth c cells slots Q mi g pc' ls' st' g' M') :
    W p l e R s m args below meth c H locs cells slots Q (F0 m pc lsM (st.map (am_V X))) := by
  obtain ⟨hx, hb, hml, hown, hts, -⟩ := hF
  dsimp only [am_step] at h
  simp only [Option.some.injEq, Prod.mk.injEq] at h
  obtain ⟨rfl, rfl, rfl, rfl, rfl⟩ := h
  exact lv_null hx hb (am_dec hi rfl) (kk H lsM locs cells slots rfl rfl hR hl hn hq)
theorem am_s_ifnull (hG : am_Gl X) (hF : am_Fx X p l s m args meth c mi) (hR : am_Rel X g M H) (hl : lv_has lsM (am_nL mi) (am_lv X ls)) (hn : ls.length = am_nL mi) (hq : ∀ q ∈ locs, xB X ≤ q.base) {off : Int}
    (hi : am_ins mi pc = some (.ifnull off)) (h : am_step mi pc (.ifnull off) ls st g M = some (pc', ls', st', g', M')) (kk : am_KK X p l e R s m args below meth c cells slots Q mi g pc' ls' st' g' M') :
    W p l e R s m args below meth c H locs cells slots Q (F0 m pc lsM (st.map (am_V X))) := by
  obtain ⟨hx, hb, hml, hown, hts, -⟩ := hF
  dsimp only [am_step, am_if] at h
  split at h
  · next a st2 =>
    split at h
    · next b e1 =>
      split at h
      · next h0 =>
        rw [List.map_cons]
        rcases am_nul_ok hG e1 with ⟨rfl, h2⟩ | ⟨rfl, q, h2⟩
        · rw [h2]
          simp only [if_true, Option.some.injEq, Prod.mk.injEq] at h
          obtain ⟨rfl, rfl, rfl, rfl, rfl⟩ := h
          exact lv_ifnullN hx hb (am_dec hi rfl) (am_tn h0) (kk H lsM locs cells slots rfl rfl hR hl hn hq)
        · rw [h2]
          simp only [Bool.false_eq_true, if_false, Option.some.injEq, Prod.mk.injEq] at h
          obtain ⟨rfl, rfl, rfl, rfl, rfl⟩ := h
          exact lv_ifnull hx hb (am_dec hi rfl) (kk H lsM locs cells slots rfl rfl hR hl hn hq)
      · cases h
    · cases h
  · cases h
theorem am_s_ifnonnull (hG : am_Gl X) (hF : am_Fx X p l s m args meth c mi) (hR : am_Rel X g M H) (hl : lv_has lsM (am_nL mi) (am_lv X ls)) (hn : ls.length = am_nL mi) (hq : ∀ q ∈ locs, xB X ≤ q.base) {off : Int}
    (hi : am_ins mi pc = some (.ifnonnull off)) (h : am_step mi pc (.ifnonnull off) ls st g M = some (pc', ls', st', g', M')) (kk : am_KK X p l e R s m args below meth c cells slots Q mi g pc' ls' st' g' M') :
    W p l e R s m args below meth c H locs cells slots Q (F0 m pc lsM (st.map (am_V X))) := by
  obtain ⟨hx, hb, hml, hown, hts, -⟩ := hF
  dsimp only [am_step, am_if] at h
  split at h
  · next a st2 =>
    split at h
    · next b e1 =>
      split at h
      · next h0 =>
        rw [List.map_cons]
        rcases am_nul_ok hG e1 with ⟨rfl, h2⟩ | ⟨rfl, q, h2⟩
        · rw [h2]
          simp only [Bool.not_true, Bool.false_eq_true, if_false, Option.some.injEq, Prod.mk.injEq] at h
          obtain ⟨rfl, rfl, rfl, rfl, rfl⟩ := h
          exact lv_ifnonnullN hx hb (am_dec hi rfl) (kk H lsM locs cells slots rfl rfl hR hl hn hq)
        · rw [h2]
          simp only [Bool.not_false, if_true, Option.some.injEq, Prod.mk.injEq] at h
          obtain ⟨rfl, rfl, rfl, rfl, rfl⟩ := h
          exact lv_ifnonnull hx hb (am_dec hi rfl) (am_tn h0) (kk H lsM locs cells slots rfl rfl hR hl hn hq)
      · cases h
    · cases h
  · cases h
theorem am_s_dup_x1 (hG : am_Gl X) (hF : am_Fx X p l s m args meth c mi) (hR : am_Rel X g M H) (hl : lv_has lsM (am_nL mi) (am_lv X ls)) (hn : ls.length = am_nL mi) (hq : ∀ q ∈ locs, xB X ≤ q.base)
    (hi : am_ins mi pc = some (.dup_x1)) (h : am_step mi pc (.dup_x1) ls st g M = some (pc', ls', st', g', M')) (kk : am_KK X p l e R s m args below meth c cells slots Q mi g pc' ls' st' g' M') :
    W p l e R s m args below meth c H locs cells slots Q (F0 m pc lsM (st.map (am_V X))) := by
  obtain ⟨hx, hb, hml, hown, hts, -⟩ := hF
  dsimp only [am_step] at h
  split at h
  · next v w st2 =>
    split at h
    · next h1 =>
      simp only [Option.some.injEq, Prod.mk.injEq] at h
      obtain ⟨rfl, rfl, rfl, rfl, rfl⟩ := h
      exact lv_dup_x1 hx hb (am_dec hi rfl) (by rw [am_catV X hG]; exact h1.1) (by rw [am_catV X hG]; exact h1.2) (kk H lsM locs cells slots rfl rfl hR hl hn hq)
    · cases h
  · cases h
theorem am_s_ldc2_w (hG : am_Gl X) (hF : am_Fx X p l s m args meth c mi) (hR : am_Rel X g M H) (hl : lv_has lsM (am_nL mi) (am_lv X ls)) (hn : ls.length = am_nL mi) (hq : ∀ q ∈ locs, xB X ≤ q.base) {idx : Nat}
    (hi : am_ins mi pc = some (.ldc2_w idx)) (h : am_step mi pc (.ldc2_w idx) ls st g M = some (pc', ls', st', g', M')) (kk : am_KK X p l e R s m args below meth c cells slots Q mi g pc' ls' st' g' M') :
    W p l e R s m args below meth c H locs cells slots Q (F0 m pc lsM (st.map (am_V X))) := by
  have hw := fun w h => hF.2.2.2.2.1 w h
  obtain ⟨hx, hb, hml, hown, hts, -⟩ := hF
  dsimp only [am_step] at h
  split at h
  · next h1 =>
    obtain ⟨oc, rfl⟩ := h1
    simp only [Option.some.injEq, Prod.mk.injEq] at h
    obtain ⟨rfl, rfl, rfl, rfl, rfl⟩ := h
    have ho : am_own mi = "RodYardLaw" := by unfold am_own; rw [oc]; decide +kernel
    rw [ho] at hown
    exact lv_ldc2 hx hb hown (hw _ am_w_cl99) (am_dec hi rfl) (kk H lsM locs cells slots rfl rfl hR hl hn hq)
  · cases h
end SIM
