section SIM
variable {p : Program} {l : Launch} {e : Env} {R : Room} {s : State} {m : MethodId} {args : Array Value} {below : List Frame} {meth : Method} {c : Code} {H : Heap} {locs : List Loc} {cells slots : Nat} {Q : State → Prop}
variable {X : am_X} {mi pc pc' : Nat} {ls ls' st st' : List AV} {g g' : AG} {M M' : AM} {lsM : Array Slot}
/-- how it goes on behind a step -/
def am_KK (X : am_X) (p : Program) (l : Launch) (e : Env) (R : Room) (s : State) (m : MethodId) (args : Array Value) (below : List Frame) (meth : Method) (c : Code) (cells slots : Nat) (Q : State → Prop) (mi : Nat) (g : AG) (pc' : Nat) (ls' st' : List AV) (g' : AG) (M' : AM) : Prop :=
  ∀ (H' : Heap) (lsM' : Array Slot) (locs' : List Loc) (cells' slots' : Nat), cells' + gN g = cells + gN g' → slots' + gS g = slots + gS g' → am_Rel X g' M' H' → lv_has lsM' (am_nL mi) (am_lv X ls') → ls'.length = am_nL mi → (∀ q ∈ locs', xB X ≤ q.base) →
    W p l e R s m args below meth c H' locs' cells' slots' Q (F0 m pc' lsM' (st'.map (am_V X)))
theorem am_s_iconst (hG : am_Gl X) (hF : am_Fx X p l s m args meth c mi) (hR : am_Rel X g M H) (hl : lv_has lsM (am_nL mi) (am_lv X ls)) (hn : ls.length = am_nL mi) (hq : ∀ q ∈ locs, xB X ≤ q.base) {n : Int}
    (hi : am_ins mi pc = some (.iconst n)) (h : am_step mi pc (.iconst n) ls st g M = some (pc', ls', st', g', M')) (kk : am_KK X p l e R s m args below meth c cells slots Q mi g pc' ls' st' g' M') :
    W p l e R s m args below meth c H locs cells slots Q (F0 m pc lsM (st.map (am_V X))) := by
  obtain ⟨hx, hb, hml, hown, hts, -⟩ := hF
  dsimp only [am_step] at h
  simp only [Option.some.injEq, Prod.mk.injEq] at h
  obtain ⟨rfl, rfl, rfl, rfl, rfl⟩ := h
  exact lv_iconst hx hb (am_dec hi rfl) rfl (kk H lsM locs cells slots rfl rfl hR hl hn hq)
theorem am_s_bipush (hG : am_Gl X) (hF : am_Fx X p l s m args meth c mi) (hR : am_Rel X g M H) (hl : lv_has lsM (am_nL mi) (am_lv X ls)) (hn : ls.length = am_nL mi) (hq : ∀ q ∈ locs, xB X ≤ q.base) {n : Int}
    (hi : am_ins mi pc = some (.bipush n)) (h : am_step mi pc (.bipush n) ls st g M = some (pc', ls', st', g', M')) (kk : am_KK X p l e R s m args below meth c cells slots Q mi g pc' ls' st' g' M') :
    W p l e R s m args below meth c H locs cells slots Q (F0 m pc lsM (st.map (am_V X))) := by
  obtain ⟨hx, hb, hml, hown, hts, -⟩ := hF
  dsimp only [am_step] at h
  simp only [Option.some.injEq, Prod.mk.injEq] at h
  obtain ⟨rfl, rfl, rfl, rfl, rfl⟩ := h
  exact lv_bipush hx hb (am_dec hi rfl) (am_i8 n) (kk H lsM locs cells slots rfl rfl hR hl hn hq)
theorem am_s_sipush (hG : am_Gl X) (hF : am_Fx X p l s m args meth c mi) (hR : am_Rel X g M H) (hl : lv_has lsM (am_nL mi) (am_lv X ls)) (hn : ls.length = am_nL mi) (hq : ∀ q ∈ locs, xB X ≤ q.base) {n : Int}
    (hi : am_ins mi pc = some (.sipush n)) (h : am_step mi pc (.sipush n) ls st g M = some (pc', ls', st', g', M')) (kk : am_KK X p l e R s m args below meth c cells slots Q mi g pc' ls' st' g' M') :
    W p l e R s m args below meth c H locs cells slots Q (F0 m pc lsM (st.map (am_V X))) := by
  obtain ⟨hx, hb, hml, hown, hts, -⟩ := hF
  dsimp only [am_step] at h
  simp only [Option.some.injEq, Prod.mk.injEq] at h
  obtain ⟨rfl, rfl, rfl, rfl, rfl⟩ := h
  exact lv_sipush hx hb (am_dec hi rfl) (am_i16 n) (kk H lsM locs cells slots rfl rfl hR hl hn hq)
theorem am_s_lconst (hG : am_Gl X) (hF : am_Fx X p l s m args meth c mi) (hR : am_Rel X g M H) (hl : lv_has lsM (am_nL mi) (am_lv X ls)) (hn : ls.length = am_nL mi) (hq : ∀ q ∈ locs, xB X ≤ q.base) {n : Fin 2}
    (hi : am_ins mi pc = some (.lconst n)) (h : am_step mi pc (.lconst n) ls st g M = some (pc', ls', st', g', M')) (kk : am_KK X p l e R s m args below meth c cells slots Q mi g pc' ls' st' g' M') :
    W p l e R s m args below meth c H locs cells slots Q (F0 m pc lsM (st.map (am_V X))) := by
  obtain ⟨hx, hb, hml, hown, hts, -⟩ := hF
  dsimp only [am_step] at h
  simp only [Option.some.injEq, Prod.mk.injEq] at h
  obtain ⟨rfl, rfl, rfl, rfl, rfl⟩ := h
  exact lv_lconst hx hb (am_dec hi rfl) (by match n with | 0 => rfl | 1 => rfl) (kk H lsM locs cells slots rfl rfl hR hl hn hq)
theorem am_s_fconst (hG : am_Gl X) (hF : am_Fx X p l s m args meth c mi) (hR : am_Rel X g M H) (hl : lv_has lsM (am_nL mi) (am_lv X ls)) (hn : ls.length = am_nL mi) (hq : ∀ q ∈ locs, xB X ≤ q.base) {n : Fin 3}
    (hi : am_ins mi pc = some (.fconst n)) (h : am_step mi pc (.fconst n) ls st g M = some (pc', ls', st', g', M')) (kk : am_KK X p l e R s m args below meth c cells slots Q mi g pc' ls' st' g' M') :
    W p l e R s m args below meth c H locs cells slots Q (F0 m pc lsM (st.map (am_V X))) := by
  obtain ⟨hx, hb, hml, hown, hts, -⟩ := hF
  dsimp only [am_step] at h
  split at h
  · next h0 =>
    subst h0
    simp only [Option.some.injEq, Prod.mk.injEq] at h
    obtain ⟨rfl, rfl, rfl, rfl, rfl⟩ := h
    refine lv_fconst0 hx hb (am_dec hi rfl) ?_
    have k := kk H lsM locs cells slots rfl rfl hR hl hn hq
    have e1 : am_V X (aF (FP.fconst0.toNat : Int)) = .float FP.fconst0 := by show Value.float (am_f _) = _; rw [am_f32]
    rw [List.map_cons, e1] at k
    exact k
  · cases h
theorem am_s_dconst (hG : am_Gl X) (hF : am_Fx X p l s m args meth c mi) (hR : am_Rel X g M H) (hl : lv_has lsM (am_nL mi) (am_lv X ls)) (hn : ls.length = am_nL mi) (hq : ∀ q ∈ locs, xB X ≤ q.base) {n : Fin 2}
    (hi : am_ins mi pc = some (.dconst n)) (h : am_step mi pc (.dconst n) ls st g M = some (pc', ls', st', g', M')) (kk : am_KK X p l e R s m args below meth c cells slots Q mi g pc' ls' st' g' M') :
    W p l e R s m args below meth c H locs cells slots Q (F0 m pc lsM (st.map (am_V X))) := by
  obtain ⟨hx, hb, hml, hown, hts, -⟩ := hF
  dsimp only [am_step] at h
  split at h
  · next h0 =>
    subst h0
    simp only [Option.some.injEq, Prod.mk.injEq] at h
    obtain ⟨rfl, rfl, rfl, rfl, rfl⟩ := h
    refine lv_dconst0 hx hb (am_dec hi rfl) ?_
    have k := kk H lsM locs cells slots rfl rfl hR hl hn hq
    have e1 : am_V X (aD (FP.dconst0.toNat : Int)) = .double FP.dconst0 := by show Value.double (am_d _) = _; rw [am_d64]
    rw [List.map_cons, e1] at k
    exact k
  · cases h
theorem am_s_iload (hG : am_Gl X) (hF : am_Fx X p l s m args meth c mi) (hR : am_Rel X g M H) (hl : lv_has lsM (am_nL mi) (am_lv X ls)) (hn : ls.length = am_nL mi) (hq : ∀ q ∈ locs, xB X ≤ q.base) {k : Nat}
    (hi : am_ins mi pc = some (.iload k)) (h : am_step mi pc (.iload k) ls st g M = some (pc', ls', st', g', M')) (kk : am_KK X p l e R s m args below meth c cells slots Q mi g pc' ls' st' g' M') :
    W p l e R s m args below meth c H locs cells slots Q (F0 m pc lsM (st.map (am_V X))) := by
  obtain ⟨hx, hb, hml, hown, hts, -⟩ := hF
  dsimp only [am_step, am_ldI] at h
  split at h
  · next x e1 =>
    simp only [Option.some.injEq, Prod.mk.injEq] at h
    obtain ⟨rfl, rfl, rfl, rfl, rfl⟩ := h
    exact lv_iload hx hb (am_dec hi rfl) (am_lat hl e1 rfl) (kk H lsM locs cells slots rfl rfl hR hl hn hq)
  · cases h
theorem am_s_iload_n (hG : am_Gl X) (hF : am_Fx X p l s m args meth c mi) (hR : am_Rel X g M H) (hl : lv_has lsM (am_nL mi) (am_lv X ls)) (hn : ls.length = am_nL mi) (hq : ∀ q ∈ locs, xB X ≤ q.base) {k : Fin 4}
    (hi : am_ins mi pc = some (.iload_n k)) (h : am_step mi pc (.iload_n k) ls st g M = some (pc', ls', st', g', M')) (kk : am_KK X p l e R s m args below meth c cells slots Q mi g pc' ls' st' g' M') :
    W p l e R s m args below meth c H locs cells slots Q (F0 m pc lsM (st.map (am_V X))) := by
  obtain ⟨hx, hb, hml, hown, hts, -⟩ := hF
  dsimp only [am_step, am_ldI] at h
  split at h
  · next x e1 =>
    simp only [Option.some.injEq, Prod.mk.injEq] at h
    obtain ⟨rfl, rfl, rfl, rfl, rfl⟩ := h
    exact lv_iload_n hx hb (am_dec hi rfl) rfl (am_lat hl e1 rfl) (kk H lsM locs cells slots rfl rfl hR hl hn hq)
  · cases h
theorem am_s_fload (hG : am_Gl X) (hF : am_Fx X p l s m args meth c mi) (hR : am_Rel X g M H) (hl : lv_has lsM (am_nL mi) (am_lv X ls)) (hn : ls.length = am_nL mi) (hq : ∀ q ∈ locs, xB X ≤ q.base) {k : Nat}
    (hi : am_ins mi pc = some (.fload k)) (h : am_step mi pc (.fload k) ls st g M = some (pc', ls', st', g', M')) (kk : am_KK X p l e R s m args below meth c cells slots Q mi g pc' ls' st' g' M') :
    W p l e R s m args below meth c H locs cells slots Q (F0 m pc lsM (st.map (am_V X))) := by
  obtain ⟨hx, hb, hml, hown, hts, -⟩ := hF
  dsimp only [am_step, am_ldF] at h
  split at h
  · next x e1 =>
    simp only [Option.some.injEq, Prod.mk.injEq] at h
    obtain ⟨rfl, rfl, rfl, rfl, rfl⟩ := h
    exact lv_fload hx hb (am_dec hi rfl) (am_lat hl e1 rfl) (kk H lsM locs cells slots rfl rfl hR hl hn hq)
  · cases h
theorem am_s_dload (hG : am_Gl X) (hF : am_Fx X p l s m args meth c mi) (hR : am_Rel X g M H) (hl : lv_has lsM (am_nL mi) (am_lv X ls)) (hn : ls.length = am_nL mi) (hq : ∀ q ∈ locs, xB X ≤ q.base) {k : Nat}
    (hi : am_ins mi pc = some (.dload k)) (h : am_step mi pc (.dload k) ls st g M = some (pc', ls', st', g', M')) (kk : am_KK X p l e R s m args below meth c cells slots Q mi g pc' ls' st' g' M') :
    W p l e R s m args below meth c H locs cells slots Q (F0 m pc lsM (st.map (am_V X))) := by
  obtain ⟨hx, hb, hml, hown, hts, -⟩ := hF
  dsimp only [am_step, am_ldD] at h
  split at h
  · next x e1 =>
    simp only [Option.some.injEq, Prod.mk.injEq] at h
    obtain ⟨rfl, rfl, rfl, rfl, rfl⟩ := h
    exact lv_dload hx hb (am_dec hi rfl) (am_lat hl e1 rfl) (kk H lsM locs cells slots rfl rfl hR hl hn hq)
  · cases h
theorem am_s_aload (hG : am_Gl X) (hF : am_Fx X p l s m args meth c mi) (hR : am_Rel X g M H) (hl : lv_has lsM (am_nL mi) (am_lv X ls)) (hn : ls.length = am_nL mi) (hq : ∀ q ∈ locs, xB X ≤ q.base) {k : Nat}
    (hi : am_ins mi pc = some (.aload k)) (h : am_step mi pc (.aload k) ls st g M = some (pc', ls', st', g', M')) (kk : am_KK X p l e R s m args below meth c cells slots Q mi g pc' ls' st' g' M') :
    W p l e R s m args below meth c H locs cells slots Q (F0 m pc lsM (st.map (am_V X))) := by
  obtain ⟨hx, hb, hml, hown, hts, -⟩ := hF
  dsimp only [am_step, am_ldA] at h
  split at h
  · next x e1 =>
    simp only [Option.some.injEq, Prod.mk.injEq] at h
    obtain ⟨rfl, rfl, rfl, rfl, rfl⟩ := h
    have h1 : lsM[k]? = some (.val (am_ad X x)) := am_lat hl e1 rfl
    have k9 := kk H lsM locs cells slots rfl rfl hR hl hn hq
    rw [List.map_cons, show am_V X (aR x) = am_ad X x from rfl] at k9
    rcases am_adcase X hG x with h2 | ⟨a, h2⟩
    · rw [h2] at h1 k9
      exact lv_aloadN hx hb (am_dec hi rfl) h1 k9
    · rw [h2] at h1 k9
      exact lv_aload hx hb (am_dec hi rfl) h1 k9
  · cases h
theorem am_s_aload_n (hG : am_Gl X) (hF : am_Fx X p l s m args meth c mi) (hR : am_Rel X g M H) (hl : lv_has lsM (am_nL mi) (am_lv X ls)) (hn : ls.length = am_nL mi) (hq : ∀ q ∈ locs, xB X ≤ q.base) {k : Fin 4}
    (hi : am_ins mi pc = some (.aload_n k)) (h : am_step mi pc (.aload_n k) ls st g M = some (pc', ls', st', g', M')) (kk : am_KK X p l e R s m args below meth c cells slots Q mi g pc' ls' st' g' M') :
    W p l e R s m args below meth c H locs cells slots Q (F0 m pc lsM (st.map (am_V X))) := by
  obtain ⟨hx, hb, hml, hown, hts, -⟩ := hF
  dsimp only [am_step, am_ldA] at h
  split at h
  · next x e1 =>
    simp only [Option.some.injEq, Prod.mk.injEq] at h
    obtain ⟨rfl, rfl, rfl, rfl, rfl⟩ := h
    have h1 : lsM[(k : Nat)]? = some (.val (am_ad X x)) := am_lat hl e1 rfl
    have k9 := kk H lsM locs cells slots rfl rfl hR hl hn hq
    rw [List.map_cons, show am_V X (aR x) = am_ad X x from rfl] at k9
    rcases am_adcase X hG x with h2 | ⟨a, h2⟩
    · rw [h2] at h1 k9
      exact lv_aload_nN hx hb (am_dec hi rfl) rfl h1 k9
    · rw [h2] at h1 k9
      exact lv_aload_n hx hb (am_dec hi rfl) rfl h1 k9
  · cases h
theorem am_s_istore (hG : am_Gl X) (hF : am_Fx X p l s m args meth c mi) (hR : am_Rel X g M H) (hl : lv_has lsM (am_nL mi) (am_lv X ls)) (hn : ls.length = am_nL mi) (hq : ∀ q ∈ locs, xB X ≤ q.base) {k : Nat}
    (hi : am_ins mi pc = some (.istore k)) (h : am_step mi pc (.istore k) ls st g M = some (pc', ls', st', g', M')) (kk : am_KK X p l e R s m args below meth c cells slots Q mi g pc' ls' st' g' M') :
    W p l e R s m args below meth c H locs cells slots Q (F0 m pc lsM (st.map (am_V X))) := by
  obtain ⟨hx, hb, hml, hown, hts, -⟩ := hF
  dsimp only [am_step, am_stI] at h
  split at h
  · next x st2 =>
    split at h
    · next hlt =>
      simp only [Option.some.injEq, Prod.mk.injEq] at h
      obtain ⟨rfl, rfl, rfl, rfl, rfl⟩ := h
      refine lv_istore hx hb (am_dec hi rfl) hl (by omega) rfl (fun ls2 h2 => ?_)
      exact kk H ls2 locs cells slots rfl rfl hR (am_lv_st1 hG h2) (by rw [am_st1_len]; exact hn) hq
    · cases h
  · cases h
theorem am_s_istore_n (hG : am_Gl X) (hF : am_Fx X p l s m args meth c mi) (hR : am_Rel X g M H) (hl : lv_has lsM (am_nL mi) (am_lv X ls)) (hn : ls.length = am_nL mi) (hq : ∀ q ∈ locs, xB X ≤ q.base) {k : Fin 4}
    (hi : am_ins mi pc = some (.istore_n k)) (h : am_step mi pc (.istore_n k) ls st g M = some (pc', ls', st', g', M')) (kk : am_KK X p l e R s m args below meth c cells slots Q mi g pc' ls' st' g' M') :
    W p l e R s m args below meth c H locs cells slots Q (F0 m pc lsM (st.map (am_V X))) := by
  obtain ⟨hx, hb, hml, hown, hts, -⟩ := hF
  dsimp only [am_step, am_stI] at h
  split at h
  · next x st2 =>
    split at h
    · next hlt =>
      simp only [Option.some.injEq, Prod.mk.injEq] at h
      obtain ⟨rfl, rfl, rfl, rfl, rfl⟩ := h
      refine lv_istore_n hx hb (am_dec hi rfl) rfl hl (by omega) rfl (fun ls2 h2 => ?_)
      exact kk H ls2 locs cells slots rfl rfl hR (am_lv_st1 hG h2) (by rw [am_st1_len]; exact hn) hq
    · cases h
  · cases h
theorem am_s_fstore (hG : am_Gl X) (hF : am_Fx X p l s m args meth c mi) (hR : am_Rel X g M H) (hl : lv_has lsM (am_nL mi) (am_lv X ls)) (hn : ls.length = am_nL mi) (hq : ∀ q ∈ locs, xB X ≤ q.base) {k : Nat}
    (hi : am_ins mi pc = some (.fstore k)) (h : am_step mi pc (.fstore k) ls st g M = some (pc', ls', st', g', M')) (kk : am_KK X p l e R s m args below meth c cells slots Q mi g pc' ls' st' g' M') :
    W p l e R s m args below meth c H locs cells slots Q (F0 m pc lsM (st.map (am_V X))) := by
  obtain ⟨hx, hb, hml, hown, hts, -⟩ := hF
  dsimp only [am_step, am_stF] at h
  split at h
  · next x st2 =>
    split at h
    · next hlt =>
      simp only [Option.some.injEq, Prod.mk.injEq] at h
      obtain ⟨rfl, rfl, rfl, rfl, rfl⟩ := h
      refine lv_fstore hx hb (am_dec hi rfl) hl (by omega) rfl (fun ls2 h2 => ?_)
      exact kk H ls2 locs cells slots rfl rfl hR (am_lv_st1 hG h2) (by rw [am_st1_len]; exact hn) hq
    · cases h
  · cases h
theorem am_s_dstore (hG : am_Gl X) (hF : am_Fx X p l s m args meth c mi) (hR : am_Rel X g M H) (hl : lv_has lsM (am_nL mi) (am_lv X ls)) (hn : ls.length = am_nL mi) (hq : ∀ q ∈ locs, xB X ≤ q.base) {k : Nat}
    (hi : am_ins mi pc = some (.dstore k)) (h : am_step mi pc (.dstore k) ls st g M = some (pc', ls', st', g', M')) (kk : am_KK X p l e R s m args below meth c cells slots Q mi g pc' ls' st' g' M') :
    W p l e R s m args below meth c H locs cells slots Q (F0 m pc lsM (st.map (am_V X))) := by
  obtain ⟨hx, hb, hml, hown, hts, -⟩ := hF
  dsimp only [am_step, am_stD] at h
  split at h
  · next x st2 =>
    split at h
    · next hlt =>
      simp only [Option.some.injEq, Prod.mk.injEq] at h
      obtain ⟨rfl, rfl, rfl, rfl, rfl⟩ := h
      refine lv_dstore hx hb (am_dec hi rfl) hl (by omega) rfl (fun ls2 h2 => ?_)
      exact kk H ls2 locs cells slots rfl rfl hR (am_lv_st2 hG h2) (by unfold am_st2; rw [List.length_set, am_st1_len]; exact hn) hq
    · cases h
  · cases h
theorem am_s_astore (hG : am_Gl X) (hF : am_Fx X p l s m args meth c mi) (hR : am_Rel X g M H) (hl : lv_has lsM (am_nL mi) (am_lv X ls)) (hn : ls.length = am_nL mi) (hq : ∀ q ∈ locs, xB X ≤ q.base) {k : Nat}
    (hi : am_ins mi pc = some (.astore k)) (h : am_step mi pc (.astore k) ls st g M = some (pc', ls', st', g', M')) (kk : am_KK X p l e R s m args below meth c cells slots Q mi g pc' ls' st' g' M') :
    W p l e R s m args below meth c H locs cells slots Q (F0 m pc lsM (st.map (am_V X))) := by
  obtain ⟨hx, hb, hml, hown, hts, -⟩ := hF
  dsimp only [am_step, am_stA] at h
  split at h
  · next x st2 =>
    split at h
    · next hlt =>
      simp only [Option.some.injEq, Prod.mk.injEq] at h
      obtain ⟨rfl, rfl, rfl, rfl, rfl⟩ := h
      have kk2 : ∀ ls2 : Array Slot, lv_has ls2 (am_nL mi) (((k : Nat), am_ad X x) :: (am_lv X ls).filter (fun q => !(q.1 == (k : Nat)) && !(q.1 + 1 == (k : Nat) && q.2.category == 2))) → W p l e R s m args below meth c H locs cells slots Q (F0 m _ ls2 (st2.map (am_V X))) := fun ls2 h2 => kk H ls2 locs cells slots rfl rfl hR (am_lv_st1 hG h2) (by rw [am_st1_len]; exact hn) hq
      rw [List.map_cons, show am_V X (aR x) = am_ad X x from rfl]
      rcases am_adcase X hG x with h3 | ⟨a, h3⟩
      · rw [h3] at kk2 ⊢
        exact lv_astoreN hx hb (am_dec hi rfl) hl (by omega) rfl kk2
      · rw [h3] at kk2 ⊢
        exact lv_astore hx hb (am_dec hi rfl) hl (by omega) rfl kk2
    · cases h
  · cases h
theorem am_s_astore_n (hG : am_Gl X) (hF : am_Fx X p l s m args meth c mi) (hR : am_Rel X g M H) (hl : lv_has lsM (am_nL mi) (am_lv X ls)) (hn : ls.length = am_nL mi) (hq : ∀ q ∈ locs, xB X ≤ q.base) {k : Fin 4}
    (hi : am_ins mi pc = some (.astore_n k)) (h : am_step mi pc (.astore_n k) ls st g M = some (pc', ls', st', g', M')) (kk : am_KK X p l e R s m args below meth c cells slots Q mi g pc' ls' st' g' M') :
    W p l e R s m args below meth c H locs cells slots Q (F0 m pc lsM (st.map (am_V X))) := by
  obtain ⟨hx, hb, hml, hown, hts, -⟩ := hF
  dsimp only [am_step, am_stA] at h
  split at h
  · next x st2 =>
    split at h
    · next hlt =>
      simp only [Option.some.injEq, Prod.mk.injEq] at h
      obtain ⟨rfl, rfl, rfl, rfl, rfl⟩ := h
      have kk2 : ∀ ls2 : Array Slot, lv_has ls2 (am_nL mi) (((k : Nat), am_ad X x) :: (am_lv X ls).filter (fun q => !(q.1 == (k : Nat)) && !(q.1 + 1 == (k : Nat) && q.2.category == 2))) → W p l e R s m args below meth c H locs cells slots Q (F0 m _ ls2 (st2.map (am_V X))) := fun ls2 h2 => kk H ls2 locs cells slots rfl rfl hR (am_lv_st1 hG h2) (by rw [am_st1_len]; exact hn) hq
      rw [List.map_cons, show am_V X (aR x) = am_ad X x from rfl]
      rcases am_adcase X hG x with h3 | ⟨a, h3⟩
      · rw [h3] at kk2 ⊢
        exact lv_astore_nN hx hb (am_dec hi rfl) rfl hl (by omega) rfl kk2
      · rw [h3] at kk2 ⊢
        exact lv_astore_n hx hb (am_dec hi rfl) rfl hl (by omega) rfl kk2
    · cases h
  · cases h
theorem am_s_iinc (hG : am_Gl X) (hF : am_Fx X p l s m args meth c mi) (hR : am_Rel X g M H) (hl : lv_has lsM (am_nL mi) (am_lv X ls)) (hn : ls.length = am_nL mi) (hq : ∀ q ∈ locs, xB X ≤ q.base) {k : Nat} {n : Int}
    (hi : am_ins mi pc = some (.iinc k n)) (h : am_step mi pc (.iinc k n) ls st g M = some (pc', ls', st', g', M')) (kk : am_KK X p l e R s m args below meth c cells slots Q mi g pc' ls' st' g' M') :
    W p l e R s m args below meth c H locs cells slots Q (F0 m pc lsM (st.map (am_V X))) := by
  obtain ⟨hx, hb, hml, hown, hts, -⟩ := hF
  dsimp only [am_step] at h
  split at h
  · next x e1 =>
    simp only [Option.some.injEq, Prod.mk.injEq] at h
    obtain ⟨rfl, rfl, rfl, rfl, rfl⟩ := h
    obtain ⟨j, hj⟩ := List.getElem?_of_mem (am_lv_in (X := X) e1 rfl)
    have hk : k < ls.length := (List.getElem?_eq_some_iff.mp e1).1
    refine lv_iinc hx hb (am_dec hi rfl) hl (k := j) hj (am_addI x n) (by omega) rfl (fun ls2 h2 => ?_)
    exact kk H ls2 locs cells slots rfl rfl hR (am_lv_st1 hG h2) (by rw [am_st1_len]; exact hn) hq
  · cases h
theorem am_s_iadd (hG : am_Gl X) (hF : am_Fx X p l s m args meth c mi) (hR : am_Rel X g M H) (hl : lv_has lsM (am_nL mi) (am_lv X ls)) (hn : ls.length = am_nL mi) (hq : ∀ q ∈ locs, xB X ≤ q.base)
    (hi : am_ins mi pc = some (.iadd)) (h : am_step mi pc (.iadd) ls st g M = some (pc', ls', st', g', M')) (kk : am_KK X p l e R s m args below meth c cells slots Q mi g pc' ls' st' g' M') :
    W p l e R s m args below meth c H locs cells slots Q (F0 m pc lsM (st.map (am_V X))) := by
  obtain ⟨hx, hb, hml, hown, hts, -⟩ := hF
  dsimp only [am_step, am_bin] at h
  split at h
  · next y x st2 =>
    simp only [Option.some.injEq, Prod.mk.injEq] at h
    obtain ⟨rfl, rfl, rfl, rfl, rfl⟩ := h
    refine lv_iadd hx hb (am_dec hi rfl) ?_
    have k9 := kk H lsM locs cells slots rfl rfl hR hl hn hq
    rw [List.map_cons, show am_V X (aI (x + y)) = .int (Int32.ofInt (x + y)) from rfl] at k9
    rw [am_addI]
    exact k9
  · cases h
theorem am_s_isub (hG : am_Gl X) (hF : am_Fx X p l s m args meth c mi) (hR : am_Rel X g M H) (hl : lv_has lsM (am_nL mi) (am_lv X ls)) (hn : ls.length = am_nL mi) (hq : ∀ q ∈ locs, xB X ≤ q.base)
    (hi : am_ins mi pc = some (.isub)) (h : am_step mi pc (.isub) ls st g M = some (pc', ls', st', g', M')) (kk : am_KK X p l e R s m args below meth c cells slots Q mi g pc' ls' st' g' M') :
    W p l e R s m args below meth c H locs cells slots Q (F0 m pc lsM (st.map (am_V X))) := by
  obtain ⟨hx, hb, hml, hown, hts, -⟩ := hF
  dsimp only [am_step, am_bin] at h
  split at h
  · next y x st2 =>
    simp only [Option.some.injEq, Prod.mk.injEq] at h
    obtain ⟨rfl, rfl, rfl, rfl, rfl⟩ := h
    refine lv_isub hx hb (am_dec hi rfl) ?_
    have k9 := kk H lsM locs cells slots rfl rfl hR hl hn hq
    rw [List.map_cons, show am_V X (aI (x - y)) = .int (Int32.ofInt (x - y)) from rfl] at k9
    rw [am_subI]
    exact k9
  · cases h
theorem am_s_imul (hG : am_Gl X) (hF : am_Fx X p l s m args meth c mi) (hR : am_Rel X g M H) (hl : lv_has lsM (am_nL mi) (am_lv X ls)) (hn : ls.length = am_nL mi) (hq : ∀ q ∈ locs, xB X ≤ q.base)
    (hi : am_ins mi pc = some (.imul)) (h : am_step mi pc (.imul) ls st g M = some (pc', ls', st', g', M')) (kk : am_KK X p l e R s m args below meth c cells slots Q mi g pc' ls' st' g' M') :
    W p l e R s m args below meth c H locs cells slots Q (F0 m pc lsM (st.map (am_V X))) := by
  obtain ⟨hx, hb, hml, hown, hts, -⟩ := hF
  dsimp only [am_step, am_bin] at h
  split at h
  · next y x st2 =>
    simp only [Option.some.injEq, Prod.mk.injEq] at h
    obtain ⟨rfl, rfl, rfl, rfl, rfl⟩ := h
    refine lv_imul hx hb (am_dec hi rfl) ?_
    have k9 := kk H lsM locs cells slots rfl rfl hR hl hn hq
    rw [List.map_cons, show am_V X (aI (x * y)) = .int (Int32.ofInt (x * y)) from rfl] at k9
    rw [am_mulI]
    exact k9
  · cases h
theorem am_s_iand (hG : am_Gl X) (hF : am_Fx X p l s m args meth c mi) (hR : am_Rel X g M H) (hl : lv_has lsM (am_nL mi) (am_lv X ls)) (hn : ls.length = am_nL mi) (hq : ∀ q ∈ locs, xB X ≤ q.base)
    (hi : am_ins mi pc = some (.iand)) (h : am_step mi pc (.iand) ls st g M = some (pc', ls', st', g', M')) (kk : am_KK X p l e R s m args below meth c cells slots Q mi g pc' ls' st' g' M') :
    W p l e R s m args below meth c H locs cells slots Q (F0 m pc lsM (st.map (am_V X))) := by
  obtain ⟨hx, hb, hml, hown, hts, -⟩ := hF
  dsimp only [am_step, am_bin] at h
  split at h
  · next y x st2 =>
    simp only [Option.some.injEq, Prod.mk.injEq] at h
    obtain ⟨rfl, rfl, rfl, rfl, rfl⟩ := h
    refine lv_iand hx hb (am_dec hi rfl) ?_
    have k9 := kk H lsM locs cells slots rfl rfl hR hl hn hq
    rw [List.map_cons, show am_V X (aI (am_and x y)) = .int (Int32.ofInt (am_and x y)) from rfl] at k9
    unfold am_and at k9; rw [am_ofI] at k9
    exact k9
  · cases h
theorem am_s_ior (hG : am_Gl X) (hF : am_Fx X p l s m args meth c mi) (hR : am_Rel X g M H) (hl : lv_has lsM (am_nL mi) (am_lv X ls)) (hn : ls.length = am_nL mi) (hq : ∀ q ∈ locs, xB X ≤ q.base)
    (hi : am_ins mi pc = some (.ior)) (h : am_step mi pc (.ior) ls st g M = some (pc', ls', st', g', M')) (kk : am_KK X p l e R s m args below meth c cells slots Q mi g pc' ls' st' g' M') :
    W p l e R s m args below meth c H locs cells slots Q (F0 m pc lsM (st.map (am_V X))) := by
  obtain ⟨hx, hb, hml, hown, hts, -⟩ := hF
  dsimp only [am_step, am_bin] at h
  split at h
  · next y x st2 =>
    simp only [Option.some.injEq, Prod.mk.injEq] at h
    obtain ⟨rfl, rfl, rfl, rfl, rfl⟩ := h
    refine lv_ior hx hb (am_dec hi rfl) ?_
    have k9 := kk H lsM locs cells slots rfl rfl hR hl hn hq
    rw [List.map_cons, show am_V X (aI (am_or x y)) = .int (Int32.ofInt (am_or x y)) from rfl] at k9
    unfold am_or at k9; rw [am_ofI] at k9
    exact k9
  · cases h
theorem am_s_ishl (hG : am_Gl X) (hF : am_Fx X p l s m args meth c mi) (hR : am_Rel X g M H) (hl : lv_has lsM (am_nL mi) (am_lv X ls)) (hn : ls.length = am_nL mi) (hq : ∀ q ∈ locs, xB X ≤ q.base)
    (hi : am_ins mi pc = some (.ishl)) (h : am_step mi pc (.ishl) ls st g M = some (pc', ls', st', g', M')) (kk : am_KK X p l e R s m args below meth c cells slots Q mi g pc' ls' st' g' M') :
    W p l e R s m args below meth c H locs cells slots Q (F0 m pc lsM (st.map (am_V X))) := by
  obtain ⟨hx, hb, hml, hown, hts, -⟩ := hF
  dsimp only [am_step, am_bin] at h
  split at h
  · next y x st2 =>
    simp only [Option.some.injEq, Prod.mk.injEq] at h
    obtain ⟨rfl, rfl, rfl, rfl, rfl⟩ := h
    refine lv_ishl hx hb (am_dec hi rfl) ?_
    have k9 := kk H lsM locs cells slots rfl rfl hR hl hn hq
    rw [List.map_cons, show am_V X (aI (am_shl x y)) = .int (Int32.ofInt (am_shl x y)) from rfl] at k9
    unfold am_shl at k9; rw [am_ofI] at k9
    exact k9
  · cases h
theorem am_s_ishr (hG : am_Gl X) (hF : am_Fx X p l s m args meth c mi) (hR : am_Rel X g M H) (hl : lv_has lsM (am_nL mi) (am_lv X ls)) (hn : ls.length = am_nL mi) (hq : ∀ q ∈ locs, xB X ≤ q.base)
    (hi : am_ins mi pc = some (.ishr)) (h : am_step mi pc (.ishr) ls st g M = some (pc', ls', st', g', M')) (kk : am_KK X p l e R s m args below meth c cells slots Q mi g pc' ls' st' g' M') :
    W p l e R s m args below meth c H locs cells slots Q (F0 m pc lsM (st.map (am_V X))) := by
  obtain ⟨hx, hb, hml, hown, hts, -⟩ := hF
  dsimp only [am_step, am_bin] at h
  split at h
  · next y x st2 =>
    simp only [Option.some.injEq, Prod.mk.injEq] at h
    obtain ⟨rfl, rfl, rfl, rfl, rfl⟩ := h
    refine lv_ishr hx hb (am_dec hi rfl) ?_
    have k9 := kk H lsM locs cells slots rfl rfl hR hl hn hq
    rw [List.map_cons, show am_V X (aI (am_shr x y)) = .int (Int32.ofInt (am_shr x y)) from rfl] at k9
    unfold am_shr at k9; rw [am_ofI] at k9
    exact k9
  · cases h
theorem am_s_iushr (hG : am_Gl X) (hF : am_Fx X p l s m args meth c mi) (hR : am_Rel X g M H) (hl : lv_has lsM (am_nL mi) (am_lv X ls)) (hn : ls.length = am_nL mi) (hq : ∀ q ∈ locs, xB X ≤ q.base)
    (hi : am_ins mi pc = some (.iushr)) (h : am_step mi pc (.iushr) ls st g M = some (pc', ls', st', g', M')) (kk : am_KK X p l e R s m args below meth c cells slots Q mi g pc' ls' st' g' M') :
    W p l e R s m args below meth c H locs cells slots Q (F0 m pc lsM (st.map (am_V X))) := by
  obtain ⟨hx, hb, hml, hown, hts, -⟩ := hF
  dsimp only [am_step, am_bin] at h
  split at h
  · next y x st2 =>
    simp only [Option.some.injEq, Prod.mk.injEq] at h
    obtain ⟨rfl, rfl, rfl, rfl, rfl⟩ := h
    refine lv_iushr hx hb (am_dec hi rfl) (v := Int32.ofInt (am_ushr x y)) (by unfold am_ushr; rw [am_ofI]) ?_
    have k9 := kk H lsM locs cells slots rfl rfl hR hl hn hq
    rw [List.map_cons, show am_V X (aI (am_ushr x y)) = .int (Int32.ofInt (am_ushr x y)) from rfl] at k9
    skip
    exact k9
  · cases h
theorem am_s_idiv (hG : am_Gl X) (hF : am_Fx X p l s m args meth c mi) (hR : am_Rel X g M H) (hl : lv_has lsM (am_nL mi) (am_lv X ls)) (hn : ls.length = am_nL mi) (hq : ∀ q ∈ locs, xB X ≤ q.base)
    (hi : am_ins mi pc = some (.idiv)) (h : am_step mi pc (.idiv) ls st g M = some (pc', ls', st', g', M')) (kk : am_KK X p l e R s m args below meth c cells slots Q mi g pc' ls' st' g' M') :
    W p l e R s m args below meth c H locs cells slots Q (F0 m pc lsM (st.map (am_V X))) := by
  obtain ⟨hx, hb, hml, hown, hts, -⟩ := hF
  dsimp only [am_step] at h
  split at h
  · next y x st2 =>
    split at h
    · next h0 =>
      simp only [Option.some.injEq, Prod.mk.injEq] at h
      obtain ⟨rfl, rfl, rfl, rfl, rfl⟩ := h
      refine lv_idiv hx hb (am_dec hi rfl) (fun e1 => h0 (by rw [am_0I, am_eqI, wr_0] at e1; exact e1)) ?_
      have k9 := kk H lsM locs cells slots rfl rfl hR hl hn hq
      rw [List.map_cons, show am_V X (aI ((wr x).tdiv (wr y))) = .int (Int32.ofInt ((wr x).tdiv (wr y))) from rfl] at k9
      rw [am_tdiv]
      exact k9
    · cases h
  · cases h
theorem am_s_irem (hG : am_Gl X) (hF : am_Fx X p l s m args meth c mi) (hR : am_Rel X g M H) (hl : lv_has lsM (am_nL mi) (am_lv X ls)) (hn : ls.length = am_nL mi) (hq : ∀ q ∈ locs, xB X ≤ q.base)
    (hi : am_ins mi pc = some (.irem)) (h : am_step mi pc (.irem) ls st g M = some (pc', ls', st', g', M')) (kk : am_KK X p l e R s m args below meth c cells slots Q mi g pc' ls' st' g' M') :
    W p l e R s m args below meth c H locs cells slots Q (F0 m pc lsM (st.map (am_V X))) := by
  obtain ⟨hx, hb, hml, hown, hts, -⟩ := hF
  dsimp only [am_step] at h
  split at h
  · next y x st2 =>
    split at h
    · next h0 =>
      simp only [Option.some.injEq, Prod.mk.injEq] at h
      obtain ⟨rfl, rfl, rfl, rfl, rfl⟩ := h
      refine lv_irem hx hb (am_dec hi rfl) (fun e1 => h0 (by rw [am_0I, am_eqI, wr_0] at e1; exact e1)) ?_
      have k9 := kk H lsM locs cells slots rfl rfl hR hl hn hq
      rw [List.map_cons, show am_V X (aI ((wr x).tmod (wr y))) = .int (Int32.ofInt ((wr x).tmod (wr y))) from rfl] at k9
      rw [am_tmod _ _ h0]
      exact k9
    · cases h
  · cases h
theorem am_s_i2l (hG : am_Gl X) (hF : am_Fx X p l s m args meth c mi) (hR : am_Rel X g M H) (hl : lv_has lsM (am_nL mi) (am_lv X ls)) (hn : ls.length = am_nL mi) (hq : ∀ q ∈ locs, xB X ≤ q.base)
    (hi : am_ins mi pc = some (.i2l)) (h : am_step mi pc (.i2l) ls st g M = some (pc', ls', st', g', M')) (kk : am_KK X p l e R s m args below meth c cells slots Q mi g pc' ls' st' g' M') :
    W p l e R s m args below meth c H locs cells slots Q (F0 m pc lsM (st.map (am_V X))) := by
  obtain ⟨hx, hb, hml, hown, hts, -⟩ := hF
  dsimp only [am_step, am_un] at h
  split at h
  · next x st2 =>
    simp only [Option.some.injEq, Prod.mk.injEq] at h
    obtain ⟨rfl, rfl, rfl, rfl, rfl⟩ := h
    refine lv_i2l hx hb (am_dec hi rfl) (am_i2l x) ?_
    have k9 := kk H lsM locs cells slots rfl rfl hR hl hn hq
    rw [List.map_cons, show am_V X (aL (wr x)) = .long (Int64.ofInt (wr x)) from rfl] at k9
    exact k9
  · cases h
theorem am_s_i2b (hG : am_Gl X) (hF : am_Fx X p l s m args meth c mi) (hR : am_Rel X g M H) (hl : lv_has lsM (am_nL mi) (am_lv X ls)) (hn : ls.length = am_nL mi) (hq : ∀ q ∈ locs, xB X ≤ q.base)
    (hi : am_ins mi pc = some (.i2b)) (h : am_step mi pc (.i2b) ls st g M = some (pc', ls', st', g', M')) (kk : am_KK X p l e R s m args below meth c cells slots Q mi g pc' ls' st' g' M') :
    W p l e R s m args below meth c H locs cells slots Q (F0 m pc lsM (st.map (am_V X))) := by
  obtain ⟨hx, hb, hml, hown, hts, -⟩ := hF
  dsimp only [am_step, am_un] at h
  split at h
  · next x st2 =>
    simp only [Option.some.injEq, Prod.mk.injEq] at h
    obtain ⟨rfl, rfl, rfl, rfl, rfl⟩ := h
    refine lv_i2b hx hb (am_dec hi rfl) (am_i2b x) ?_
    have k9 := kk H lsM locs cells slots rfl rfl hR hl hn hq
    rw [List.map_cons, show am_V X (aI (x.bmod 256)) = .int (Int32.ofInt (x.bmod 256)) from rfl] at k9
    exact k9
  · cases h
theorem am_s_i2c (hG : am_Gl X) (hF : am_Fx X p l s m args meth c mi) (hR : am_Rel X g M H) (hl : lv_has lsM (am_nL mi) (am_lv X ls)) (hn : ls.length = am_nL mi) (hq : ∀ q ∈ locs, xB X ≤ q.base)
    (hi : am_ins mi pc = some (.i2c)) (h : am_step mi pc (.i2c) ls st g M = some (pc', ls', st', g', M')) (kk : am_KK X p l e R s m args below meth c cells slots Q mi g pc' ls' st' g' M') :
    W p l e R s m args below meth c H locs cells slots Q (F0 m pc lsM (st.map (am_V X))) := by
  obtain ⟨hx, hb, hml, hown, hts, -⟩ := hF
  dsimp only [am_step, am_un] at h
  split at h
  · next x st2 =>
    simp only [Option.some.injEq, Prod.mk.injEq] at h
    obtain ⟨rfl, rfl, rfl, rfl, rfl⟩ := h
    refine lv_i2c hx hb (am_dec hi rfl) (am_i2c x) ?_
    have k9 := kk H lsM locs cells slots rfl rfl hR hl hn hq
    rw [List.map_cons, show am_V X (aI (x % 65536)) = .int (Int32.ofInt (x % 65536)) from rfl] at k9
    exact k9
  · cases h
theorem am_s_i2d (hG : am_Gl X) (hF : am_Fx X p l s m args meth c mi) (hR : am_Rel X g M H) (hl : lv_has lsM (am_nL mi) (am_lv X ls)) (hn : ls.length = am_nL mi) (hq : ∀ q ∈ locs, xB X ≤ q.base)
    (hi : am_ins mi pc = some (.i2d)) (h : am_step mi pc (.i2d) ls st g M = some (pc', ls', st', g', M')) (kk : am_KK X p l e R s m args below meth c cells slots Q mi g pc' ls' st' g' M') :
    W p l e R s m args below meth c H locs cells slots Q (F0 m pc lsM (st.map (am_V X))) := by
  obtain ⟨hx, hb, hml, hown, hts, -⟩ := hF
  dsimp only [am_step, am_un] at h
  split at h
  · next x st2 =>
    simp only [Option.some.injEq, Prod.mk.injEq] at h
    obtain ⟨rfl, rfl, rfl, rfl, rfl⟩ := h
    refine lv_i2d hx hb (am_dec hi rfl) ?_
    have k9 := kk H lsM locs cells slots rfl rfl hR hl hn hq
    rw [List.map_cons, show am_V X (aD (FP.i2d (Int32.ofInt x)).toNat) = .double (FP.i2d (Int32.ofInt x)) from congrArg Value.double (am_d64 _)] at k9
    exact k9
  · cases h
theorem am_s_i2f (hG : am_Gl X) (hF : am_Fx X p l s m args meth c mi) (hR : am_Rel X g M H) (hl : lv_has lsM (am_nL mi) (am_lv X ls)) (hn : ls.length = am_nL mi) (hq : ∀ q ∈ locs, xB X ≤ q.base)
    (hi : am_ins mi pc = some (.i2f)) (h : am_step mi pc (.i2f) ls st g M = some (pc', ls', st', g', M')) (kk : am_KK X p l e R s m args below meth c cells slots Q mi g pc' ls' st' g' M') :
    W p l e R s m args below meth c H locs cells slots Q (F0 m pc lsM (st.map (am_V X))) := by
  obtain ⟨hx, hb, hml, hown, hts, -⟩ := hF
  dsimp only [am_step, am_un] at h
  split at h
  · next x st2 =>
    simp only [Option.some.injEq, Prod.mk.injEq] at h
    obtain ⟨rfl, rfl, rfl, rfl, rfl⟩ := h
    refine lv_i2f hx hb (am_dec hi rfl) ?_
    have k9 := kk H lsM locs cells slots rfl rfl hR hl hn hq
    rw [List.map_cons, show am_V X (aF (FP.i2f (Int32.ofInt x)).toNat) = .float (FP.i2f (Int32.ofInt x)) from congrArg Value.float (am_f32 _)] at k9
    exact k9
  · cases h
theorem am_s_lcmp (hG : am_Gl X) (hF : am_Fx X p l s m args meth c mi) (hR : am_Rel X g M H) (hl : lv_has lsM (am_nL mi) (am_lv X ls)) (hn : ls.length = am_nL mi) (hq : ∀ q ∈ locs, xB X ≤ q.base)
    (hi : am_ins mi pc = some (.lcmp)) (h : am_step mi pc (.lcmp) ls st g M = some (pc', ls', st', g', M')) (kk : am_KK X p l e R s m args below meth c cells slots Q mi g pc' ls' st' g' M') :
    W p l e R s m args below meth c H locs cells slots Q (F0 m pc lsM (st.map (am_V X))) := by
  obtain ⟨hx, hb, hml, hown, hts, -⟩ := hF
  dsimp only [am_step] at h
  split at h
  · next y x st2 =>
    simp only [Option.some.injEq, Prod.mk.injEq] at h
    obtain ⟨rfl, rfl, rfl, rfl, rfl⟩ := h
    refine W.lcmp hx hb (am_dec hi rfl) ?_
    rw [am_lcmp]
    exact kk H lsM locs cells slots rfl rfl hR hl hn hq
  · cases h
theorem am_s_ddiv (hG : am_Gl X) (hF : am_Fx X p l s m args meth c mi) (hR : am_Rel X g M H) (hl : lv_has lsM (am_nL mi) (am_lv X ls)) (hn : ls.length = am_nL mi) (hq : ∀ q ∈ locs, xB X ≤ q.base)
    (hi : am_ins mi pc = some (.ddiv)) (h : am_step mi pc (.ddiv) ls st g M = some (pc', ls', st', g', M')) (kk : am_KK X p l e R s m args below meth c cells slots Q mi g pc' ls' st' g' M') :
    W p l e R s m args below meth c H locs cells slots Q (F0 m pc lsM (st.map (am_V X))) := by
  obtain ⟨hx, hb, hml, hown, hts, -⟩ := hF
  dsimp only [am_step] at h
  split at h
  · next y x st2 =>
    split at h
    · next h0 =>
      simp only [Option.some.injEq, Prod.mk.injEq] at h
      obtain ⟨rfl, rfl, rfl, rfl, rfl⟩ := h
      refine lv_ddiv hx hb (am_dec hi rfl) h0 ?_
      have k9 := kk H lsM locs cells slots rfl rfl hR hl hn hq
      rw [List.map_cons, show am_V X (aD (FP.ddiv (am_d x) (am_d y)).toNat) = .double (FP.ddiv (am_d x) (am_d y)) from congrArg Value.double (am_d64 _)] at k9
      exact k9
    · cases h
  · cases h
theorem am_s_fdiv (hG : am_Gl X) (hF : am_Fx X p l s m args meth c mi) (hR : am_Rel X g M H) (hl : lv_has lsM (am_nL mi) (am_lv X ls)) (hn : ls.length = am_nL mi) (hq : ∀ q ∈ locs, xB X ≤ q.base)
    (hi : am_ins mi pc = some (.fdiv)) (h : am_step mi pc (.fdiv) ls st g M = some (pc', ls', st', g', M')) (kk : am_KK X p l e R s m args below meth c cells slots Q mi g pc' ls' st' g' M') :
    W p l e R s m args below meth c H locs cells slots Q (F0 m pc lsM (st.map (am_V X))) := by
  obtain ⟨hx, hb, hml, hown, hts, -⟩ := hF
  dsimp only [am_step] at h
  split at h
  · next y x st2 =>
    split at h
    · next h0 =>
      simp only [Option.some.injEq, Prod.mk.injEq] at h
      obtain ⟨rfl, rfl, rfl, rfl, rfl⟩ := h
      refine lv_fdiv hx hb (am_dec hi rfl) h0 ?_
      have k9 := kk H lsM locs cells slots rfl rfl hR hl hn hq
      rw [List.map_cons, show am_V X (aF (FP.fdiv (am_f x) (am_f y)).toNat) = .float (FP.fdiv (am_f x) (am_f y)) from congrArg Value.float (am_f32 _)] at k9
      exact k9
    · cases h
  · cases h
theorem am_s_f2d (hG : am_Gl X) (hF : am_Fx X p l s m args meth c mi) (hR : am_Rel X g M H) (hl : lv_has lsM (am_nL mi) (am_lv X ls)) (hn : ls.length = am_nL mi) (hq : ∀ q ∈ locs, xB X ≤ q.base)
    (hi : am_ins mi pc = some (.f2d)) (h : am_step mi pc (.f2d) ls st g M = some (pc', ls', st', g', M')) (kk : am_KK X p l e R s m args below meth c cells slots Q mi g pc' ls' st' g' M') :
    W p l e R s m args below meth c H locs cells slots Q (F0 m pc lsM (st.map (am_V X))) := by
  obtain ⟨hx, hb, hml, hown, hts, -⟩ := hF
  dsimp only [am_step] at h
  split at h
  · next x st2 =>
    split at h
    · next h0 =>
      simp only [Option.some.injEq, Prod.mk.injEq] at h
      obtain ⟨rfl, rfl, rfl, rfl, rfl⟩ := h
      refine lv_f2d hx hb (am_dec hi rfl) h0 ?_
      have k9 := kk H lsM locs cells slots rfl rfl hR hl hn hq
      rw [List.map_cons, show am_V X (aD (FP.f2d (am_f x)).toNat) = .double (FP.f2d (am_f x)) from congrArg Value.double (am_d64 _)] at k9
      exact k9
    · cases h
  · cases h
theorem am_s_dcmp (hG : am_Gl X) (hF : am_Fx X p l s m args meth c mi) (hR : am_Rel X g M H) (hl : lv_has lsM (am_nL mi) (am_lv X ls)) (hn : ls.length = am_nL mi) (hq : ∀ q ∈ locs, xB X ≤ q.base) {o : CmpOp}
    (hi : am_ins mi pc = some (.dcmp o)) (h : am_step mi pc (.dcmp o) ls st g M = some (pc', ls', st', g', M')) (kk : am_KK X p l e R s m args below meth c cells slots Q mi g pc' ls' st' g' M') :
    W p l e R s m args below meth c H locs cells slots Q (F0 m pc lsM (st.map (am_V X))) := by
  obtain ⟨hx, hb, hml, hown, hts, -⟩ := hF
  dsimp only [am_step] at h
  split at h
  · next y x st2 =>
    simp only [Option.some.injEq, Prod.mk.injEq] at h
    obtain ⟨rfl, rfl, rfl, rfl, rfl⟩ := h
    refine lv_dcmp hx hb (am_dec hi rfl) ?_
    have k9 := kk H lsM locs cells slots rfl rfl hR hl hn hq
    rw [List.map_cons, show am_V X (aI (Op.cmpValue (FP.dcmp (am_d x) (am_d y)) o).toInt) = .int (Op.cmpValue (FP.dcmp (am_d x) (am_d y)) o) from congrArg Value.int (am_ofI _)] at k9
    exact k9
  · cases h
theorem am_s_fcmp (hG : am_Gl X) (hF : am_Fx X p l s m args meth c mi) (hR : am_Rel X g M H) (hl : lv_has lsM (am_nL mi) (am_lv X ls)) (hn : ls.length = am_nL mi) (hq : ∀ q ∈ locs, xB X ≤ q.base) {o : CmpOp}
    (hi : am_ins mi pc = some (.fcmp o)) (h : am_step mi pc (.fcmp o) ls st g M = some (pc', ls', st', g', M')) (kk : am_KK X p l e R s m args below meth c cells slots Q mi g pc' ls' st' g' M') :
    W p l e R s m args below meth c H locs cells slots Q (F0 m pc lsM (st.map (am_V X))) := by
  obtain ⟨hx, hb, hml, hown, hts, -⟩ := hF
  dsimp only [am_step] at h
  split at h
  · next y x st2 =>
    simp only [Option.some.injEq, Prod.mk.injEq] at h
    obtain ⟨rfl, rfl, rfl, rfl, rfl⟩ := h
    refine lv_fcmp hx hb (am_dec hi rfl) ?_
    have k9 := kk H lsM locs cells slots rfl rfl hR hl hn hq
    rw [List.map_cons, show am_V X (aI (Op.cmpValue (FP.fcmp (am_f x) (am_f y)) o).toInt) = .int (Op.cmpValue (FP.fcmp (am_f x) (am_f y)) o) from congrArg Value.int (am_ofI _)] at k9
    exact k9
  · cases h
theorem am_s_dup (hG : am_Gl X) (hF : am_Fx X p l s m args meth c mi) (hR : am_Rel X g M H) (hl : lv_has lsM (am_nL mi) (am_lv X ls)) (hn : ls.length = am_nL mi) (hq : ∀ q ∈ locs, xB X ≤ q.base)
    (hi : am_ins mi pc = some (.dup)) (h : am_step mi pc (.dup) ls st g M = some (pc', ls', st', g', M')) (kk : am_KK X p l e R s m args below meth c cells slots Q mi g pc' ls' st' g' M') :
    W p l e R s m args below meth c H locs cells slots Q (F0 m pc lsM (st.map (am_V X))) := by
  obtain ⟨hx, hb, hml, hown, hts, -⟩ := hF
  dsimp only [am_step] at h
  split at h
  · next v st2 =>
    split at h
    · next h0 =>
      simp only [Option.some.injEq, Prod.mk.injEq] at h
      obtain ⟨rfl, rfl, rfl, rfl, rfl⟩ := h
      exact lv_dup hx hb (am_dec hi rfl) ((am_catV X hG v).trans h0) (kk H lsM locs cells slots rfl rfl hR hl hn hq)
    · cases h
  · cases h
theorem am_s_pop (hG : am_Gl X) (hF : am_Fx X p l s m args meth c mi) (hR : am_Rel X g M H) (hl : lv_has lsM (am_nL mi) (am_lv X ls)) (hn : ls.length = am_nL mi) (hq : ∀ q ∈ locs, xB X ≤ q.base)
    (hi : am_ins mi pc = some (.pop)) (h : am_step mi pc (.pop) ls st g M = some (pc', ls', st', g', M')) (kk : am_KK X p l e R s m args below meth c cells slots Q mi g pc' ls' st' g' M') :
    W p l e R s m args below meth c H locs cells slots Q (F0 m pc lsM (st.map (am_V X))) := by
  obtain ⟨hx, hb, hml, hown, hts, -⟩ := hF
  dsimp only [am_step] at h
  split at h
  · next v st2 =>
    split at h
    · next h0 =>
      simp only [Option.some.injEq, Prod.mk.injEq] at h
      obtain ⟨rfl, rfl, rfl, rfl, rfl⟩ := h
      exact lv_pop hx hb (am_dec hi rfl) ((am_catV X hG v).trans h0) (kk H lsM locs cells slots rfl rfl hR hl hn hq)
    · cases h
  · cases h
theorem am_s_dup2 (hG : am_Gl X) (hF : am_Fx X p l s m args meth c mi) (hR : am_Rel X g M H) (hl : lv_has lsM (am_nL mi) (am_lv X ls)) (hn : ls.length = am_nL mi) (hq : ∀ q ∈ locs, xB X ≤ q.base)
    (hi : am_ins mi pc = some (.dup2)) (h : am_step mi pc (.dup2) ls st g M = some (pc', ls', st', g', M')) (kk : am_KK X p l e R s m args below meth c cells slots Q mi g pc' ls' st' g' M') :
    W p l e R s m args below meth c H locs cells slots Q (F0 m pc lsM (st.map (am_V X))) := by
  obtain ⟨hx, hb, hml, hown, hts, -⟩ := hF
  dsimp only [am_step] at h
  split at h
  · next v w st2 =>
    split at h
    · next h0 =>
      simp only [Option.some.injEq, Prod.mk.injEq] at h
      obtain ⟨rfl, rfl, rfl, rfl, rfl⟩ := h
      exact lv_dup2_11 hx hb (am_dec hi rfl) ((am_catV X hG v).trans h0.1) ((am_catV X hG w).trans h0.2) (kk H lsM locs cells slots rfl rfl hR hl hn hq)
    · cases h
  · cases h
theorem am_tn {pc : Nat} {off : Int} (h : 0 ≤ (pc : Int) + off) : (pc : Int) + off = ((((pc : Int) + off).toNat : Nat) : Int) := by omega
theorem am_s_goto (hG : am_Gl X) (hF : am_Fx X p l s m args meth c mi) (hR : am_Rel X g M H) (hl : lv_has lsM (am_nL mi) (am_lv X ls)) (hn : ls.length = am_nL mi) (hq : ∀ q ∈ locs, xB X ≤ q.base) {off : Int}
    (hi : am_ins mi pc = some (.goto off)) (h : am_step mi pc (.goto off) ls st g M = some (pc', ls', st', g', M')) (kk : am_KK X p l e R s m args below meth c cells slots Q mi g pc' ls' st' g' M') :
    W p l e R s m args below meth c H locs cells slots Q (F0 m pc lsM (st.map (am_V X))) := by
  obtain ⟨hx, hb, hml, hown, hts, -⟩ := hF
  dsimp only [am_step, am_jmp] at h
  split at h
  · next h0 =>
    simp only [Option.some.injEq, Prod.mk.injEq] at h
    obtain ⟨rfl, rfl, rfl, rfl, rfl⟩ := h
    exact lv_goto hx hb (am_dec hi rfl) (am_tn h0) (kk H lsM locs cells slots rfl rfl hR hl hn hq)
  · cases h
theorem am_s_ifCond (hG : am_Gl X) (hF : am_Fx X p l s m args meth c mi) (hR : am_Rel X g M H) (hl : lv_has lsM (am_nL mi) (am_lv X ls)) (hn : ls.length = am_nL mi) (hq : ∀ q ∈ locs, xB X ≤ q.base) {o : ClassFile.Cond} {off : Int}
    (hi : am_ins mi pc = some (.ifCond o off)) (h : am_step mi pc (.ifCond o off) ls st g M = some (pc', ls', st', g', M')) (kk : am_KK X p l e R s m args below meth c cells slots Q mi g pc' ls' st' g' M') :
    W p l e R s m args below meth c H locs cells slots Q (F0 m pc lsM (st.map (am_V X))) := by
  obtain ⟨hx, hb, hml, hown, hts, -⟩ := hF
  dsimp only [am_step, am_if] at h
  split at h
  · next x st2 =>
    split at h
    · next h0 =>
      have kt : am_cmp o x 0 = true → W p l e R s m args below meth c H locs cells slots Q (F0 m ((pc : Int) + off).toNat lsM (st2.map (am_V X))) := by
        intro hc
        rw [if_pos hc] at h
        simp only [Option.some.injEq, Prod.mk.injEq] at h
        obtain ⟨rfl, rfl, rfl, rfl, rfl⟩ := h
        exact kk H lsM locs cells slots rfl rfl hR hl hn hq
      have kf : ¬ am_cmp o x 0 = true → W p l e R s m args below meth c H locs cells slots Q (F0 m (pc + 3) lsM (st2.map (am_V X))) := by
        intro hc
        rw [if_neg hc] at h
        simp only [Option.some.injEq, Prod.mk.injEq] at h
        obtain ⟨rfl, rfl, rfl, rfl, rfl⟩ := h
        exact kk H lsM locs cells slots rfl rfl hR hl hn hq
      have ht := am_tn h0
      clear h kk
      cases o
      · exact lv_if_eq hx hb (am_dec hi rfl) ht (fun q => kt (by rw [am_0I] at q; exact decide_eq_true ((am_eqI x 0).mp q))) (fun q => kf (by rw [am_0I] at q; exact fun q2 => q ((am_eqI x 0).mpr (of_decide_eq_true q2))))
      · exact lv_if_ne hx hb (am_dec hi rfl) ht (fun q => kt (by rw [am_0I] at q; exact decide_eq_true (fun q2 => q ((am_eqI x 0).mpr q2)))) (fun q => kf (by rw [am_0I] at q; exact fun q2 => of_decide_eq_true q2 ((am_eqI x 0).mp q)))
      · exact lv_if_lt hx hb (am_dec hi rfl) ht (fun q => kt (by rw [am_0I] at q; exact decide_eq_true ((am_ltI x 0).mp q))) (fun q => kf (by rw [am_0I] at q; exact fun q2 => q ((am_ltI x 0).mpr (of_decide_eq_true q2))))
      · exact lv_if_ge hx hb (am_dec hi rfl) ht (fun q => kt (by rw [am_0I] at q; exact decide_eq_true ((am_leI 0 x).mp q))) (fun q => kf (by rw [am_0I] at q; exact fun q2 => q ((am_leI 0 x).mpr (of_decide_eq_true q2))))
      · exact lv_if_gt hx hb (am_dec hi rfl) ht (fun q => kt (by rw [am_0I] at q; exact decide_eq_true ((am_ltI 0 x).mp q))) (fun q => kf (by rw [am_0I] at q; exact fun q2 => q ((am_ltI 0 x).mpr (of_decide_eq_true q2))))
      · exact lv_if_le hx hb (am_dec hi rfl) ht (fun q => kt (by rw [am_0I] at q; exact decide_eq_true ((am_leI x 0).mp q))) (fun q => kf (by rw [am_0I] at q; exact fun q2 => q ((am_leI x 0).mpr (of_decide_eq_true q2))))
    · cases h
  · cases h
theorem am_s_if_icmp (hG : am_Gl X) (hF : am_Fx X p l s m args meth c mi) (hR : am_Rel X g M H) (hl : lv_has lsM (am_nL mi) (am_lv X ls)) (hn : ls.length = am_nL mi) (hq : ∀ q ∈ locs, xB X ≤ q.base) {o : ClassFile.Cond} {off : Int}
    (hi : am_ins mi pc = some (.if_icmp o off)) (h : am_step mi pc (.if_icmp o off) ls st g M = some (pc', ls', st', g', M')) (kk : am_KK X p l e R s m args below meth c cells slots Q mi g pc' ls' st' g' M') :
    W p l e R s m args below meth c H locs cells slots Q (F0 m pc lsM (st.map (am_V X))) := by
  obtain ⟨hx, hb, hml, hown, hts, -⟩ := hF
  dsimp only [am_step, am_if] at h
  split at h
  · next y x st2 =>
    split at h
    · next h0 =>
      have kt : am_cmp o x y = true → W p l e R s m args below meth c H locs cells slots Q (F0 m ((pc : Int) + off).toNat lsM (st2.map (am_V X))) := by
        intro hc
        rw [if_pos hc] at h
        simp only [Option.some.injEq, Prod.mk.injEq] at h
        obtain ⟨rfl, rfl, rfl, rfl, rfl⟩ := h
        exact kk H lsM locs cells slots rfl rfl hR hl hn hq
      have kf : ¬ am_cmp o x y = true → W p l e R s m args below meth c H locs cells slots Q (F0 m (pc + 3) lsM (st2.map (am_V X))) := by
        intro hc
        rw [if_neg hc] at h
        simp only [Option.some.injEq, Prod.mk.injEq] at h
        obtain ⟨rfl, rfl, rfl, rfl, rfl⟩ := h
        exact kk H lsM locs cells slots rfl rfl hR hl hn hq
      have ht := am_tn h0
      clear h kk
      cases o
      · exact lv_icmp_eq hx hb (am_dec hi rfl) ht (fun q => kt (by exact decide_eq_true ((am_eqI x y).mp q))) (fun q => kf (by exact fun q2 => q ((am_eqI x y).mpr (of_decide_eq_true q2))))
      · exact lv_icmp_ne hx hb (am_dec hi rfl) ht (fun q => kt (by exact decide_eq_true (fun q2 => q ((am_eqI x y).mpr q2)))) (fun q => kf (by exact fun q2 => of_decide_eq_true q2 ((am_eqI x y).mp q)))
      · exact lv_icmp_lt hx hb (am_dec hi rfl) ht (fun q => kt (by exact decide_eq_true ((am_ltI x y).mp q))) (fun q => kf (by exact fun q2 => q ((am_ltI x y).mpr (of_decide_eq_true q2))))
      · exact lv_icmp_ge hx hb (am_dec hi rfl) ht (fun q => kt (by exact decide_eq_true ((am_leI y x).mp q))) (fun q => kf (by exact fun q2 => q ((am_leI y x).mpr (of_decide_eq_true q2))))
      · exact lv_icmp_gt hx hb (am_dec hi rfl) ht (fun q => kt (by exact decide_eq_true ((am_ltI y x).mp q))) (fun q => kf (by exact fun q2 => q ((am_ltI y x).mpr (of_decide_eq_true q2))))
      · exact lv_icmp_le hx hb (am_dec hi rfl) ht (fun q => kt (by exact decide_eq_true ((am_leI x y).mp q))) (fun q => kf (by exact fun q2 => q ((am_leI x y).mpr (of_decide_eq_true q2))))
    · cases h
  · cases h
theorem am_s_switch (hG : am_Gl X) (hF : am_Fx X p l s m args meth c mi) (hR : am_Rel X g M H) (hl : lv_has lsM (am_nL mi) (am_lv X ls)) (hn : ls.length = am_nL mi) (hq : ∀ q ∈ locs, xB X ≤ q.base) {dflt lo hi' : Int} {offs : Array Int}
    (hi : am_ins mi pc = some (.tableswitch dflt lo hi' offs)) (h : am_step mi pc (.tableswitch dflt lo hi' offs) ls st g M = some (pc', ls', st', g', M')) (kk : am_KK X p l e R s m args below meth c cells slots Q mi g pc' ls' st' g' M') :
    W p l e R s m args below meth c H locs cells slots Q (F0 m pc lsM (st.map (am_V X))) := by
  obtain ⟨hx, hb, hml, hown, hts, -⟩ := hF
  obtain ⟨n, hd⟩ := am_decS hi
  dsimp only [am_step, am_jmp] at h
  split at h
  · next x st2 =>
    split at h
    · next h1 =>
      split at h
      · next h0 =>
        simp only [Option.some.injEq, Prod.mk.injEq] at h
        obtain ⟨rfl, rfl, rfl, rfl, rfl⟩ := h
        exact lv_tableOut hx hb hd (by rw [am_toI]; exact h1) (am_tn h0) (kk H lsM locs cells slots rfl rfl hR hl hn hq)
      · cases h
    · next h1 =>
      split at h
      · next off e1 =>
        split at h
        · next h0 =>
          simp only [Option.some.injEq, Prod.mk.injEq] at h
          obtain ⟨rfl, rfl, rfl, rfl, rfl⟩ := h
          exact lv_tableIn hx hb hd (by rw [am_toI]; omega) (by rw [am_toI]; omega) (by rw [am_toI]; exact e1) (am_tn h0) (kk H lsM locs cells slots rfl rfl hR hl hn hq)
        · cases h
      · cases h
  · cases h
end SIM
