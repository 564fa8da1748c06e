/-! THE SMALL MACHINE AND THE MACHINE: a step, a call, a run -/
theorem am_step_mono {mi pc : Nat} {i : Instr} {ls st : List AV} {g : AG} {M : AM} {r : Nat × List AV × List AV × AG × AM} (h : am_step mi pc i ls st g M = some r) : gN g ≤ gN r.2.2.2.1 ∧ gS g ≤ gS r.2.2.2.1 := by
  have same : ∀ {a b c M2}, some (a, b, c, g, M2) = some r → gN g ≤ gN r.2.2.2.1 ∧ gS g ≤ gS r.2.2.2.1 := by
    intro a b c M2 e
    cases e
    exact ⟨Nat.le_refl _, Nat.le_refl _⟩
  cases i
  case new idx =>
    dsimp only [am_step] at h
    split at h
    · split at h
      · cases h
        exact ⟨Nat.le_succ _, Nat.le_add_right _ _⟩
      · cases h
    · cases h
  case invokevirtual idx =>
    dsimp only [am_step, am_clone] at h
    split at h
    · split at h
      · split at h
        · cases h
          exact ⟨Nat.le_succ _, Nat.le_add_right _ _⟩
        · cases h
      · cases h
    · cases h
  case newarray t =>
    dsimp only [am_step] at h
    split at h
    · split at h
      · cases h
        exact ⟨Nat.le_succ _, Nat.le_add_right _ _⟩
      · cases h
    · cases h
  case anewarray idx =>
    dsimp only [am_step] at h
    split at h
    · split at h
      · split at h
        · cases h
          exact ⟨Nat.le_succ _, Nat.le_add_right _ _⟩
        · cases h
      · cases h
    · cases h
  case multianewarray idx dm =>
    dsimp only [am_step] at h
    split at h
    · split at h
      · split at h
        · cases h
          exact ⟨Nat.le_add_right _ _, Nat.le_add_right _ _⟩
        · cases h
      · cases h
    · cases h
  case putfield idx =>
    dsimp only [am_step, am_putf] at h
    split at h
    · split at h
      · split at h
        · exact same h
        · cases h
      · cases h
    · split at h
      · split at h
        · cases h
          exact ⟨Nat.le_refl _, Nat.le_refl _⟩
        · cases h
      · cases h
    · cases h
  case aastore =>
    dsimp only [am_step] at h
    split at h
    · split at h
      · cases h
        exact ⟨Nat.le_refl _, Nat.le_refl _⟩
      · cases h
    · cases h
  all_goals
    first
    | (exfalso; simp only [am_step] at h; cases h; done)
    | (dsimp only [am_step, am_ldI, am_ldA, am_ldF, am_ldD, am_stI, am_stA, am_stF, am_stD, am_bin, am_un, am_if, am_jmp, am_ald, am_getf, am_cp, am_mx, am_mn] at h
       repeat' (first | exact same h | (cases h; done) | split at h))
theorem am_exec_mono : ∀ (f d mi pc : Nat) (ls st : List AV) (g : AG) (M : AM) (o : AO) (g' : AG) (M' : AM), am_exec f d mi pc ls st g M = some (o, g', M') → gN g ≤ gN g' ∧ gS g ≤ gS g'
  | 0, _, _, _, _, _, _, _, _, _, _, h => by cases h
  | f + 1, d, mi, pc, ls, st, g, M, o, g', M', h => by
    have ih := am_exec_mono f
    rw [am_exec] at h
    split at h
    · cases h
    · next i hi =>
      split at h
      · next o1 g1 e1 =>
        have : g1 = g := by
          unfold am_ret at e1
          repeat' (first | (cases e1; done) | (cases e1; rfl) | split at e1)
        cases h
        rw [this]
        exact ⟨Nat.le_refl _, Nat.le_refl _⟩
      · split at h
        · next y as rest e1 =>
          split at h
          · cases h
          · next d' =>
            split at h
            · split at h
              · cases h
              · next v g1 M1 e2 =>
                have a := ih _ _ _ _ _ _ _ _ _ _ e2
                have b := ih _ _ _ _ _ _ _ _ _ _ h
                exact ⟨Nat.le_trans a.1 b.1, Nat.le_trans a.2 b.2⟩
              · next E g1 M1 e2 =>
                have a := ih _ _ _ _ _ _ _ _ _ _ e2
                split at h
                · cases h; exact a
                · split at h
                  · next hh hx e3 =>
                    cases hr : am_hret mi hh with
                    | none => rw [hr] at h; cases h
                    | some n => rw [hr] at h; cases h; exact a
                  · cases h
            · cases h
        · split at h
          · next pc1 ls1 st1 g1 M1 e2 =>
            have a := am_step_mono e2
            have b := ih _ _ _ _ _ _ _ _ _ _ h
            exact ⟨Nat.le_trans a.1 b.1, Nat.le_trans a.2 b.2⟩
          · split at h
            · split at h
              · split at h
                · cases h
                  exact ⟨Nat.le_succ _, Nat.le_add_right _ _⟩
                · cases h
              · cases h
            · cases h
section SIM
variable {p : Program} {l : Launch} {e : Env} {R : Room} {s : State} {m : MethodId} {args : Array Value} {below : List Frame} {meth : Method} {c : Code} {H : Heap} {locs : List Loc} {cells slots : Nat} {Q : State → Prop}
variable {X : am_X} {mi pc pc' : Nat} {ls ls' st st' : List AV} {g g' : AG} {M M' : AM} {lsM : Array Slot}
theorem am_mlw {oc idx : Nat} {q : Nat × Nat × Nat × Nat × Nat × Nat × Nat} (h : am_ml oc idx = some q) : q.1 = idx ∧ (q.2.1 = 4 → Cond.methodLink (am_cn oc) idx arraycopyName ∈ am_ws) ∧ (q.2.1 = 5 → Cond.methodLink (am_cn oc) idx Lib.objectInit ∈ am_ws) ∧ (q.2.1 = 11 → Cond.methodLink (am_cn oc) idx ⟨"[B", "clone", "()Ljava/lang/Object;"⟩ ∈ am_ws) ∧ (q.2.1 = 6 → Cond.methodLink (am_cn oc) idx Lib.Math.max.name ∈ am_ws) ∧ (q.2.1 = 7 → Cond.methodLink (am_cn oc) idx Lib.Math.min.name ∈ am_ws) := by
  obtain ⟨h1, h2⟩ := am_ml_ok h
  obtain ⟨a, k, b, c, d, e, f⟩ := q
  dsimp only at h1 ⊢
  subst h1
  unfold am_mlok at h2
  dsimp only at h2
  refine ⟨rfl, ?_, ?_, ?_, ?_, ?_⟩ <;> intro hk <;> subst hk <;> exact am_has_in h2
set_option maxHeartbeats 4000000 in
/-- a step of the small machine is a step of the machine -/
theorem am_sim (hG : am_Gl X) (hF : am_Fx X p l s m args meth c mi) (hR : am_Rel X g M H) (hl : lv_has lsM (am_nL mi) (am_lv X ls)) (hn : ls.length = am_nL mi) (hq : ∀ q ∈ locs, xB X ≤ q.base) {i : Instr} (hfr : 1 ≤ R.frames) (hlo : 40 ≤ R.locals) (hcl : cells + gN g' ≤ R.cells + gN g) (hsl : slots + gS g' ≤ R.slots + gS g)
    (hi : am_ins mi pc = some i) (h : am_step mi pc i ls st g M = some (pc', ls', st', g', M')) (kk : am_KK X p l e R s m args below meth c cells slots Q mi g pc' ls' st' g' M') :
    W p l e R s m args below meth c H locs cells slots Q (F0 m pc lsM (st.map (am_V X))) := by
  have hmono := am_step_mono h
  dsimp only at hmono
  cases i
  case iconst => exact am_s_iconst hG hF hR hl hn hq hi h kk
  case bipush => exact am_s_bipush hG hF hR hl hn hq hi h kk
  case sipush => exact am_s_sipush hG hF hR hl hn hq hi h kk
  case lconst => exact am_s_lconst hG hF hR hl hn hq hi h kk
  case fconst => exact am_s_fconst hG hF hR hl hn hq hi h kk
  case dconst => exact am_s_dconst hG hF hR hl hn hq hi h kk
  case iload => exact am_s_iload hG hF hR hl hn hq hi h kk
  case iload_n => exact am_s_iload_n hG hF hR hl hn hq hi h kk
  case aload => exact am_s_aload hG hF hR hl hn hq hi h kk
  case aload_n => exact am_s_aload_n hG hF hR hl hn hq hi h kk
  case fload => exact am_s_fload hG hF hR hl hn hq hi h kk
  case dload => exact am_s_dload hG hF hR hl hn hq hi h kk
  case istore => exact am_s_istore hG hF hR hl hn hq hi h kk
  case istore_n => exact am_s_istore_n hG hF hR hl hn hq hi h kk
  case astore => exact am_s_astore hG hF hR hl hn hq hi h kk
  case astore_n => exact am_s_astore_n hG hF hR hl hn hq hi h kk
  case fstore => exact am_s_fstore hG hF hR hl hn hq hi h kk
  case dstore => exact am_s_dstore hG hF hR hl hn hq hi h kk
  case iinc => exact am_s_iinc hG hF hR hl hn hq hi h kk
  case iadd => exact am_s_iadd hG hF hR hl hn hq hi h kk
  case isub => exact am_s_isub hG hF hR hl hn hq hi h kk
  case imul => exact am_s_imul hG hF hR hl hn hq hi h kk
  case iand => exact am_s_iand hG hF hR hl hn hq hi h kk
  case ior => exact am_s_ior hG hF hR hl hn hq hi h kk
  case ishl => exact am_s_ishl hG hF hR hl hn hq hi h kk
  case ishr => exact am_s_ishr hG hF hR hl hn hq hi h kk
  case iushr => exact am_s_iushr hG hF hR hl hn hq hi h kk
  case idiv => exact am_s_idiv hG hF hR hl hn hq hi h kk
  case irem => exact am_s_irem hG hF hR hl hn hq hi h kk
  case i2l => exact am_s_i2l hG hF hR hl hn hq hi h kk
  case i2b => exact am_s_i2b hG hF hR hl hn hq hi h kk
  case i2c => exact am_s_i2c hG hF hR hl hn hq hi h kk
  case i2d => exact am_s_i2d hG hF hR hl hn hq hi h kk
  case i2f => exact am_s_i2f hG hF hR hl hn hq hi h kk
  case lcmp => exact am_s_lcmp hG hF hR hl hn hq hi h kk
  case ddiv => exact am_s_ddiv hG hF hR hl hn hq hi h kk
  case fdiv => exact am_s_fdiv hG hF hR hl hn hq hi h kk
  case f2d => exact am_s_f2d hG hF hR hl hn hq hi h kk
  case dcmp => exact am_s_dcmp hG hF hR hl hn hq hi h kk
  case fcmp => exact am_s_fcmp hG hF hR hl hn hq hi h kk
  case dup => exact am_s_dup hG hF hR hl hn hq hi h kk
  case pop => exact am_s_pop hG hF hR hl hn hq hi h kk
  case dup2 => exact am_s_dup2 hG hF hR hl hn hq hi h kk
  case ineg => exact am_s_ineg hG hF hR hl hn hq hi h kk
  case aconst_null => exact am_s_aconst_null hG hF hR hl hn hq hi h kk
  case ifnull => exact am_s_ifnull hG hF hR hl hn hq hi h kk
  case ifnonnull => exact am_s_ifnonnull hG hF hR hl hn hq hi h kk
  case dup_x1 => exact am_s_dup_x1 hG hF hR hl hn hq hi h kk
  case ldc2_w => exact am_s_ldc2_w hG hF hR hl hn hq hi h kk
  case checkcast => exact am_s_checkcast hG hF hR hl hn hq hi h kk
  case invokevirtual idx => exact am_s_clone hG hF hR hl hn hq hfr hlo hcl hsl (fun q e1 e2 => ⟨(am_mlw e1).2.2.2.1 e2, am_w_bsel, am_w_bcl⟩) hi h kk
  case ifCond => exact am_s_ifCond hG hF hR hl hn hq hi h kk
  case if_icmp => exact am_s_if_icmp hG hF hR hl hn hq hi h kk
  case goto => exact am_s_goto hG hF hR hl hn hq hi h kk
  case tableswitch => exact am_s_switch hG hF hR hl hn hq hi h kk
  case iaload => exact am_s_iaload hG hF hR hl hn hq hi h kk
  case baload => exact am_s_baload hG hF hR hl hn hq hi h kk
  case aaload => exact am_s_aaload hG hF hR hl hn hq hi h kk
  case arraylength => exact am_s_arraylength hG hF hR hl hn hq hi h kk
  case iastore => exact am_s_iastore hG hF hR hl hn hq hi h kk
  case bastore => exact am_s_bastore hG hF hR hl hn hq hi h kk
  case aastore => exact am_s_aastore hG hF hR hl hn hq hi h kk
  case getfield => exact am_s_getfield hG hF hR hl hn hq hi h kk
  case putfield => exact am_s_putfield hG hF hR hl hn hq hi h kk
  case getstatic => exact am_s_getstatic hG hF hR hl hn hq hi h kk
  case ldc => exact am_s_ldc hG hF hR hl hn hq hi h kk
  case ldc_w => exact am_s_ldc_w hG hF hR hl hn hq hi h kk
  case new => exact am_s_new hG hF hR hl hn hq hcl hsl hi h kk
  case newarray => exact am_s_newarray hG hF hR hl hn hq hcl hsl hi h kk
  case anewarray => exact am_s_anewarray hG hF hR hl hn hq hcl hsl hi h kk
  case multianewarray => exact am_s_multi hG hF hR hl hn hq hcl hsl hi h kk
  case invokestatic idx =>
    have h0 := h
    dsimp only [am_step] at h
    split at h
    · next q e1 =>
      exact am_s_copy hG hF hR hl hn hq hfr hlo hi ((am_mlw e1).2.1 rfl) h kk
    · next q e1 =>
      exact am_s_mx hG hF hR hl hn hq hfr hlo (by omega) (by omega) am_w_stmax am_w_comax am_w_mi hi ((am_mlw e1).2.2.2.2.1 rfl) h kk
    · next q e1 =>
      exact am_s_mn hG hF hR hl hn hq hfr hlo (by omega) (by omega) am_w_stmin am_w_comin am_w_mi hi ((am_mlw e1).2.2.2.2.2 rfl) h kk
    · cases h
  case invokespecial idx => exact am_s_objinit hG hF hR hl hn hq hfr hlo am_w_oi am_w_oc (fun q e1 e2 => (am_mlw e1).2.2.1 e2) hi h kk
  all_goals (exfalso; simp only [am_step] at h; cases h; done)
end SIM
