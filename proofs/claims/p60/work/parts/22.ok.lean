/-! RUNS OF THE SMALL MACHINE: a step, a call, an end -/
theorem am_up : ∀ (f d mi pc : Nat) (ls st : List AV) (g : AG) (M : AM) (r : AO × AG × AM), am_exec f d mi pc ls st g M = some r → ∀ f' d', f ≤ f' → d ≤ d' → am_exec f' d' mi pc ls st g M = some r
  | 0, _, _, _, _, _, _, _, _, h => by cases h
  | f + 1, d, mi, pc, ls, st, g, M, r, h => by
    have ih := am_up f
    intro f' d' hf hd
    obtain ⟨f', rfl⟩ : ∃ k, f' = k + 1 := ⟨f' - 1, by omega⟩
    rw [am_exec] at h ⊢
    split at h
    · cases h
    · next i hi =>
      try (rw [hi]; dsimp only)
      split at h
      · next o1 g1 e1 => exact h
      · next e1 =>
        try (rw [e1]; dsimp only)
        split at h
        · next y as rest e2 =>
          try (rw [e2]; dsimp only)
          split at h
          · cases h
          · next d0 =>
            obtain ⟨d', rfl⟩ : ∃ k, d' = k + 1 := ⟨d' - 1, by omega⟩
            dsimp only
            split at h
            · next hlen =>
              rw [if_pos hlen]
              split at h
              · cases h
              · next v g1 M1 e3 =>
                rw [ih _ _ _ _ _ _ _ _ e3 f' d' (by omega) (by omega)]
                exact ih _ _ _ _ _ _ _ _ h f' (d' + 1) (by omega) (by omega)
              · next E g1 M1 e3 =>
                rw [ih _ _ _ _ _ _ _ _ e3 f' d' (by omega) (by omega)]
                exact h
            · cases h
        · next e2 =>
          try (rw [e2]; dsimp only)
          split at h
          · next pc1 ls1 st1 g1 M1 e3 =>
            try (rw [e3]; dsimp only)
            exact ih _ _ _ _ _ _ _ _ h f' d' (by omega) (by omega)
          · next e3 =>
            try (rw [e3]; dsimp only)
            exact h
def Ok (d mi pc : Nat) (ls st : List AV) (g : AG) (M : AM) (Q : AO → AG → AM → Prop) : Prop := ∃ (f : Nat) (o : AO) (g' : AG) (M' : AM), am_exec f d mi pc ls st g M = some (o, g', M') ∧ Q o g' M'
/-- a method that returns the value r and leaves the graph as it is -/
abbrev Rt (r : Option AV) (g : AG) (P : AM → Prop) : AO → AG → AM → Prop := fun o g' M' => o = .inl r ∧ g' = g ∧ P M'
section OK
variable {d mi pc pc' pc1 pc2 : Nat} {ls ls' st st' : List AV} {g g' : AG} {M M' : AM} {Q : AO → AG → AM → Prop} {i : Instr}
theorem Ok.mono {Q' : AO → AG → AM → Prop} (h : Ok d mi pc ls st g M Q) (hq : ∀ o g' M', Q o g' M' → Q' o g' M') : Ok d mi pc ls st g M Q' := by
  obtain ⟨f, o, g', M', e, q⟩ := h
  exact ⟨f, o, g', M', e, hq _ _ _ q⟩
theorem Ok.deep {d' : Nat} (h : Ok d mi pc ls st g M Q) (hd : d ≤ d') : Ok d' mi pc ls st g M Q := by
  obtain ⟨f, o, g', M', e, q⟩ := h
  exact ⟨f, o, g', M', am_up _ _ _ _ _ _ _ _ _ e f d' (Nat.le_refl _) hd, q⟩
theorem ok_step (hi : am_ins mi pc = some i) (h1 : am_ret mi pc i st g = none) (h2 : am_call mi i st g = none) (h3 : am_step mi pc i ls st g M = some (pc', ls', st', g', M')) (k : Ok d mi pc' ls' st' g' M' Q) : Ok d mi pc ls st g M Q := by
  obtain ⟨f, o, g1, M1, e, q⟩ := k
  refine ⟨f + 1, o, g1, M1, ?_, q⟩
  rw [am_exec, hi]
  dsimp only
  rw [h1]
  dsimp only
  rw [h2]
  dsimp only
  rw [h3]
  exact e
theorem ok_ret {o : AO} (hi : am_ins mi pc = some i) (h1 : am_ret mi pc i st g = some (o, g')) (q : Q o g' M) : Ok d mi pc ls st g M Q := by
  refine ⟨1, o, g', M, ?_, q⟩
  rw [am_exec, hi]
  dsimp only
  rw [h1]
theorem ok_call {y : Nat} {as rest : List AV} (hi : am_ins mi pc = some i) (h1 : am_ret mi pc i st g = none) (h2 : am_call mi i st g = some (y, as, rest)) (hlen : as.length ≤ am_nL y)
    (hb : Ok d y 0 (am_pad y as) [] g M (fun o g1 M1 => match o with
      | .inl v => Ok (d + 1) mi (pc + 3) ls (am_push v rest) g1 M1 Q
      | .inr E => (am_hh mi = [] ∧ Q (.inr E) g1 M1) ∨ (am_hh mi ≠ [] ∧ ∃ h t n, am_find mi pc E (am_hh mi) = some (h, t) ∧ am_hret mi h = some n ∧ Q (.inl (some (aI n))) g1 M1))) : Ok (d + 1) mi pc ls st g M Q := by
  obtain ⟨f, o, g1, M1, e, q⟩ := hb
  cases o with
  | inl v =>
    obtain ⟨f2, o2, g2, M2, e2, q2⟩ := q
    refine ⟨f + f2 + 1, o2, g2, M2, ?_, q2⟩
    rw [am_exec, hi]
    dsimp only
    rw [h1]
    dsimp only
    rw [h2]
    dsimp only
    rw [if_pos hlen, am_up _ _ _ _ _ _ _ _ _ e (f + f2) d (by omega) (Nat.le_refl _)]
    exact am_up _ _ _ _ _ _ _ _ _ e2 (f + f2) (d + 1) (by omega) (Nat.le_refl _)
  | inr E =>
    rcases q with ⟨hh, q⟩ | ⟨hh, h, t, n, e1, e2, q⟩
    · refine ⟨f + 1, _, g1, M1, ?_, q⟩
      rw [am_exec, hi]
      dsimp only
      rw [h1]
      dsimp only
      rw [h2]
      dsimp only
      rw [if_pos hlen, e]
      dsimp only
      rw [if_pos hh]
    · refine ⟨f + 1, _, g1, M1, ?_, q⟩
      rw [am_exec, hi]
      dsimp only
      rw [h1]
      dsimp only
      rw [h2]
      dsimp only
      rw [if_pos hlen, e]
      dsimp only
      rw [if_neg hh, e1]
      dsimp only
      rw [e2]
      rfl
def am_thk (mi pc E : Nat) : Bool := (match am_thr mi pc with
  | some (ik, is, ic, _) => decide (am_ins mi pc = some (.new ik)) && decide (am_exc mi pc ik = some E) && am_exok mi E is ic && decide (10 ≤ E ∧ E < 13)
  | none => false) && (am_hh mi).isEmpty
theorem ok_throw {E : Nat} (h : am_thk mi pc E = true) (hs : (st.map am_cat).sum ≤ 8) (q : Q (.inr E) (am_alloc g 30 0 6) M) : Ok d mi pc ls st g M Q := by
  unfold am_thk at h
  rw [Bool.and_eq_true] at h
  obtain ⟨h, hh⟩ := h
  have hh : am_hh mi = [] := List.isEmpty_iff.mp hh
  split at h
  · next ik is ic z e1 =>
    simp only [Bool.and_eq_true, decide_eq_true_eq] at h
    obtain ⟨⟨⟨h1, h2⟩, h3⟩, h4⟩ := h
    refine ⟨1, _, _, _, ?_, q⟩
    have h5 : am_step mi pc (.new ik) ls st g M = none := by
      unfold am_exc at h2
      show (match am_cs (am_oc mi) ik with | some (_, ci, _) => if am_ob ci then _ else none | none => none) = none
      split at h2
      · next ci z2 e2 =>
        rw [e2]
        dsimp only
        split at h2
        · have h9 := Option.some.inj h2
          rw [if_neg (by omega)]
        · cases h2
      · cases h2
    rw [am_exec, h1]
    dsimp only
    rw [show am_ret mi pc (.new ik) st g = none from rfl]
    dsimp only
    rw [show am_call mi (.new ik) st g = none from rfl]
    dsimp only
    rw [h5]
    dsimp only
    rw [e1]
    dsimp only
    rw [h2]
    dsimp only
    rw [if_pos ⟨hh, hs, h3⟩]
  · cases h
theorem ok_iconst {n : Int} (hi : am_ins mi pc = some (.iconst n)) (hp : pc + 1 = pc') (k : Ok d mi pc' ls (aI n :: st) g M Q) : Ok d mi pc ls st g M Q := ok_step hi rfl rfl (by subst hp; rfl) k
theorem ok_bipush {n v : Int} (hi : am_ins mi pc = some (.bipush n)) (hv : (Int8.ofInt n).toInt = v) (hp : pc + 2 = pc') (k : Ok d mi pc' ls (aI v :: st) g M Q) : Ok d mi pc ls st g M Q := ok_step hi rfl rfl (by subst hp; subst hv; rfl) k
theorem ok_sipush {n v : Int} (hi : am_ins mi pc = some (.sipush n)) (hv : (Int16.ofInt n).toInt = v) (hp : pc + 3 = pc') (k : Ok d mi pc' ls (aI v :: st) g M Q) : Ok d mi pc ls st g M Q := ok_step hi rfl rfl (by subst hp; subst hv; rfl) k
theorem ok_iload {j : Nat} {x : Int} (hi : am_ins mi pc = some (.iload j)) (hl : ls[j]? = some (aI x)) (hp : pc + 2 = pc') (k : Ok d mi pc' ls (aI x :: st) g M Q) : Ok d mi pc ls st g M Q := ok_step hi rfl rfl (by subst hp; show am_ldI _ _ _ _ _ _ _ = _; unfold am_ldI; rw [hl]) k
theorem ok_iloadn {j : Fin 4} {x : Int} (hi : am_ins mi pc = some (.iload_n j)) (hl : ls[(j : Nat)]? = some (aI x)) (hp : pc + 1 = pc') (k : Ok d mi pc' ls (aI x :: st) g M Q) : Ok d mi pc ls st g M Q := ok_step hi rfl rfl (by subst hp; show am_ldI _ _ _ _ _ _ _ = _; unfold am_ldI; rw [hl]) k
theorem ok_aload {j : Nat} {x : Nat} (hi : am_ins mi pc = some (.aload j)) (hl : ls[j]? = some (aR x)) (hp : pc + 2 = pc') (k : Ok d mi pc' ls (aR x :: st) g M Q) : Ok d mi pc ls st g M Q := ok_step hi rfl rfl (by subst hp; show am_ldA _ _ _ _ _ _ _ = _; unfold am_ldA; rw [hl]) k
theorem ok_aloadn {j : Fin 4} {x : Nat} (hi : am_ins mi pc = some (.aload_n j)) (hl : ls[(j : Nat)]? = some (aR x)) (hp : pc + 1 = pc') (k : Ok d mi pc' ls (aR x :: st) g M Q) : Ok d mi pc ls st g M Q := ok_step hi rfl rfl (by subst hp; show am_ldA _ _ _ _ _ _ _ = _; unfold am_ldA; rw [hl]) k
theorem ok_fload {j : Nat} {x : Int} (hi : am_ins mi pc = some (.fload j)) (hl : ls[j]? = some (aF x)) (hp : pc + 2 = pc') (k : Ok d mi pc' ls (aF x :: st) g M Q) : Ok d mi pc ls st g M Q := ok_step hi rfl rfl (by subst hp; show am_ldF _ _ _ _ _ _ _ = _; unfold am_ldF; rw [hl]) k
theorem ok_dload {j : Nat} {x : Int} (hi : am_ins mi pc = some (.dload j)) (hl : ls[j]? = some (aD x)) (hp : pc + 2 = pc') (k : Ok d mi pc' ls (aD x :: st) g M Q) : Ok d mi pc ls st g M Q := ok_step hi rfl rfl (by subst hp; show am_ldD _ _ _ _ _ _ _ = _; unfold am_ldD; rw [hl]) k
theorem ok_istore {j : Nat} {x : Int} (hi : am_ins mi pc = some (.istore j)) (hj : j < ls.length) (hl : am_st1 ls j (aI x) = ls') (hp : pc + 2 = pc') (k : Ok d mi pc' ls' st g M Q) : Ok d mi pc ls (aI x :: st) g M Q := ok_step hi rfl rfl (by subst hp; subst hl; show am_stI ls j 2 pc (aI x :: st) g M = _; unfold am_stI; dsimp only; rw [if_pos hj]) k
theorem ok_istoren {j : Fin 4} {x : Int} (hi : am_ins mi pc = some (.istore_n j)) (hj : (j : Nat) < ls.length) (hl : am_st1 ls j (aI x) = ls') (hp : pc + 1 = pc') (k : Ok d mi pc' ls' st g M Q) : Ok d mi pc ls (aI x :: st) g M Q := ok_step hi rfl rfl (by subst hp; subst hl; show am_stI ls (j : Nat) 1 pc (aI x :: st) g M = _; unfold am_stI; dsimp only; rw [if_pos hj]) k
theorem ok_astore {j : Nat} {x : Nat} (hi : am_ins mi pc = some (.astore j)) (hj : j < ls.length) (hl : am_st1 ls j (aR x) = ls') (hp : pc + 2 = pc') (k : Ok d mi pc' ls' st g M Q) : Ok d mi pc ls (aR x :: st) g M Q := ok_step hi rfl rfl (by subst hp; subst hl; show am_stA ls j 2 pc (aR x :: st) g M = _; unfold am_stA; dsimp only; rw [if_pos hj]) k
theorem ok_astoren {j : Fin 4} {x : Nat} (hi : am_ins mi pc = some (.astore_n j)) (hj : (j : Nat) < ls.length) (hl : am_st1 ls j (aR x) = ls') (hp : pc + 1 = pc') (k : Ok d mi pc' ls' st g M Q) : Ok d mi pc ls (aR x :: st) g M Q := ok_step hi rfl rfl (by subst hp; subst hl; show am_stA ls (j : Nat) 1 pc (aR x :: st) g M = _; unfold am_stA; dsimp only; rw [if_pos hj]) k
theorem ok_fstore {j : Nat} {x : Int} (hi : am_ins mi pc = some (.fstore j)) (hj : j < ls.length) (hl : am_st1 ls j (aF x) = ls') (hp : pc + 2 = pc') (k : Ok d mi pc' ls' st g M Q) : Ok d mi pc ls (aF x :: st) g M Q := ok_step hi rfl rfl (by subst hp; subst hl; show am_stF ls j 2 pc (aF x :: st) g M = _; unfold am_stF; dsimp only; rw [if_pos hj]) k
theorem ok_dstore {j : Nat} {x : Int} (hi : am_ins mi pc = some (.dstore j)) (hj : j + 1 < ls.length) (hl : am_st2 ls j (aD x) = ls') (hp : pc + 2 = pc') (k : Ok d mi pc' ls' st g M Q) : Ok d mi pc ls (aD x :: st) g M Q := ok_step hi rfl rfl (by subst hp; subst hl; show am_stD ls j 2 pc (aD x :: st) g M = _; unfold am_stD; dsimp only; rw [if_pos hj]) k
theorem ok_iinc {j : Nat} {n x v : Int} (hi : am_ins mi pc = some (.iinc j n)) (hx : ls[j]? = some (aI x)) (hv : x + n = v) (hl : am_st1 ls j (aI v) = ls') (hp : pc + 3 = pc') (k : Ok d mi pc' ls' st g M Q) : Ok d mi pc ls st g M Q := ok_step hi rfl rfl (by subst hp; subst hl; subst hv; show (match ls[j]? with | some (.inl x) => some (pc + 3, am_st1 ls j (aI (x + n)), st, g, M) | _ => none) = _; rw [hx]) k
theorem ok_iadd {x y v : Int} (hi : am_ins mi pc = some .iadd) (hv : x + y = v) (hp : pc + 1 = pc') (k : Ok d mi pc' ls (aI v :: st) g M Q) : Ok d mi pc ls (aI y :: aI x :: st) g M Q := ok_step hi rfl rfl (by subst hp; subst hv; rfl) k
theorem ok_isub {x y v : Int} (hi : am_ins mi pc = some .isub) (hv : x - y = v) (hp : pc + 1 = pc') (k : Ok d mi pc' ls (aI v :: st) g M Q) : Ok d mi pc ls (aI y :: aI x :: st) g M Q := ok_step hi rfl rfl (by subst hp; subst hv; rfl) k
theorem ok_imul {x y v : Int} (hi : am_ins mi pc = some .imul) (hv : x * y = v) (hp : pc + 1 = pc') (k : Ok d mi pc' ls (aI v :: st) g M Q) : Ok d mi pc ls (aI y :: aI x :: st) g M Q := ok_step hi rfl rfl (by subst hp; subst hv; rfl) k
theorem ok_iand {x y v : Int} (hi : am_ins mi pc = some .iand) (hv : am_and x y = v) (hp : pc + 1 = pc') (k : Ok d mi pc' ls (aI v :: st) g M Q) : Ok d mi pc ls (aI y :: aI x :: st) g M Q := ok_step hi rfl rfl (by subst hp; subst hv; rfl) k
theorem ok_ior {x y v : Int} (hi : am_ins mi pc = some .ior) (hv : am_or x y = v) (hp : pc + 1 = pc') (k : Ok d mi pc' ls (aI v :: st) g M Q) : Ok d mi pc ls (aI y :: aI x :: st) g M Q := ok_step hi rfl rfl (by subst hp; subst hv; rfl) k
theorem ok_ishl {x y v : Int} (hi : am_ins mi pc = some .ishl) (hv : am_shl x y = v) (hp : pc + 1 = pc') (k : Ok d mi pc' ls (aI v :: st) g M Q) : Ok d mi pc ls (aI y :: aI x :: st) g M Q := ok_step hi rfl rfl (by subst hp; subst hv; rfl) k
theorem ok_ishr {x y v : Int} (hi : am_ins mi pc = some .ishr) (hv : am_shr x y = v) (hp : pc + 1 = pc') (k : Ok d mi pc' ls (aI v :: st) g M Q) : Ok d mi pc ls (aI y :: aI x :: st) g M Q := ok_step hi rfl rfl (by subst hp; subst hv; rfl) k
theorem ok_iushr {x y v : Int} (hi : am_ins mi pc = some .iushr) (hv : am_ushr x y = v) (hp : pc + 1 = pc') (k : Ok d mi pc' ls (aI v :: st) g M Q) : Ok d mi pc ls (aI y :: aI x :: st) g M Q := ok_step hi rfl rfl (by subst hp; subst hv; rfl) k
/-- small numbers: they are what they are -/
def iR (x : Int) : Prop := -2147483648 ≤ x ∧ x < 2147483648
theorem iR.wr {x : Int} (h : iR x) : wr x = x := wr_id h.1 h.2
theorem ok_idiv {x y v : Int} (hi : am_ins mi pc = some .idiv) (hy : wr y ≠ 0) (hv : (wr x).tdiv (wr y) = v) (hp : pc + 1 = pc') (k : Ok d mi pc' ls (aI v :: st) g M Q) : Ok d mi pc ls (aI y :: aI x :: st) g M Q := ok_step hi rfl rfl (by subst hp; subst hv; show (if wr y ≠ 0 then _ else _) = _; rw [if_pos hy]) k
theorem ok_irem {x y v : Int} (hi : am_ins mi pc = some .irem) (hy : wr y ≠ 0) (hv : (wr x).tmod (wr y) = v) (hp : pc + 1 = pc') (k : Ok d mi pc' ls (aI v :: st) g M Q) : Ok d mi pc ls (aI y :: aI x :: st) g M Q := ok_step hi rfl rfl (by subst hp; subst hv; show (if wr y ≠ 0 then _ else _) = _; rw [if_pos hy]) k
theorem ok_idivp {x y v : Int} (hi : am_ins mi pc = some .idiv) (hx : -2147483648 ≤ x ∧ x < 2147483648 ∧ 0 < y ∧ y < 2147483648) (hv : x.tdiv y = v) (hp : pc + 1 = pc') (k : Ok d mi pc' ls (aI v :: st) g M Q) : Ok d mi pc ls (aI y :: aI x :: st) g M Q := by
  have h1 : wr x = x := wr_id hx.1 hx.2.1
  have h2 : wr y = y := wr_id (by omega) hx.2.2.2
  exact ok_idiv hi (by rw [h2]; omega) (by rw [h1, h2]; exact hv) hp k
theorem ok_iremp {x y v : Int} (hi : am_ins mi pc = some .irem) (hx : -2147483648 ≤ x ∧ x < 2147483648 ∧ 0 < y ∧ y < 2147483648) (hv : x.tmod y = v) (hp : pc + 1 = pc') (k : Ok d mi pc' ls (aI v :: st) g M Q) : Ok d mi pc ls (aI y :: aI x :: st) g M Q := by
  have h1 : wr x = x := wr_id hx.1 hx.2.1
  have h2 : wr y = y := wr_id (by omega) hx.2.2.2
  exact ok_irem hi (by rw [h2]; omega) (by rw [h1, h2]; exact hv) hp k
theorem ok_un {x : Int} {v : AV} (hi : am_ins mi pc = some i) (h : am_step mi pc i ls (aI x :: st) g M = some (pc + 1, ls, v :: st, g, M)) (h1 : am_ret mi pc i (aI x :: st) g = none) (h2 : am_call mi i (aI x :: st) g = none) (hp : pc + 1 = pc') (k : Ok d mi pc' ls (v :: st) g M Q) : Ok d mi pc ls (aI x :: st) g M Q := ok_step hi h1 h2 (by subst hp; exact h) k
theorem ok_i2l {x v : Int} (hi : am_ins mi pc = some .i2l) (hv : wr x = v) (hp : pc + 1 = pc') (k : Ok d mi pc' ls (aL v :: st) g M Q) : Ok d mi pc ls (aI x :: st) g M Q := ok_step hi rfl rfl (by subst hp; subst hv; rfl) k
theorem ok_i2b {x v : Int} (hi : am_ins mi pc = some .i2b) (hv : x.bmod 256 = v) (hp : pc + 1 = pc') (k : Ok d mi pc' ls (aI v :: st) g M Q) : Ok d mi pc ls (aI x :: st) g M Q := ok_step hi rfl rfl (by subst hp; subst hv; rfl) k
theorem ok_i2c {x v : Int} (hi : am_ins mi pc = some .i2c) (hv : x % 65536 = v) (hp : pc + 1 = pc') (k : Ok d mi pc' ls (aI v :: st) g M Q) : Ok d mi pc ls (aI x :: st) g M Q := ok_step hi rfl rfl (by subst hp; subst hv; rfl) k
theorem ok_dup {v : AV} (hi : am_ins mi pc = some .dup) (hc : am_cat v = 1) (hp : pc + 1 = pc') (k : Ok d mi pc' ls (v :: v :: st) g M Q) : Ok d mi pc ls (v :: st) g M Q := ok_step hi rfl rfl (by subst hp; show (if am_cat v = 1 then _ else _) = _; rw [if_pos hc]) k
theorem ok_pop {v : AV} (hi : am_ins mi pc = some .pop) (hc : am_cat v = 1) (hp : pc + 1 = pc') (k : Ok d mi pc' ls st g M Q) : Ok d mi pc ls (v :: st) g M Q := ok_step hi rfl rfl (by subst hp; show (if am_cat v = 1 then _ else _) = _; rw [if_pos hc]) k
theorem ok_dup2 {v w : AV} (hi : am_ins mi pc = some .dup2) (hc : am_cat v = 1 ∧ am_cat w = 1) (hp : pc + 1 = pc') (k : Ok d mi pc' ls (v :: w :: v :: w :: st) g M Q) : Ok d mi pc ls (v :: w :: st) g M Q := ok_step hi rfl rfl (by subst hp; show (if am_cat v = 1 ∧ am_cat w = 1 then _ else _) = _; rw [if_pos hc]) k
theorem ok_goto {off : Int} (hi : am_ins mi pc = some (.goto off)) (hp : (pc : Int) + off = (pc' : Nat)) (k : Ok d mi pc' ls st g M Q) : Ok d mi pc ls st g M Q := ok_step hi rfl rfl (by show am_jmp _ _ _ _ _ _ = _; unfold am_jmp; rw [if_pos (by omega), show ((pc : Int) + off).toNat = pc' by omega]) k
theorem ok_icmp {o : ClassFile.Cond} {off x y : Int} (hi : am_ins mi pc = some (.if_icmp o off)) (hp : (pc : Int) + off = (pc1 : Nat)) (hp2 : pc + 3 = pc2) (k1 : am_cmp o x y = true → Ok d mi pc1 ls st g M Q) (k2 : am_cmp o x y = false → Ok d mi pc2 ls st g M Q) : Ok d mi pc ls (aI y :: aI x :: st) g M Q := by
  subst hp2
  have e : am_step mi pc (.if_icmp o off) ls (aI y :: aI x :: st) g M = am_if (am_cmp o x y) pc off ls st g M := rfl
  unfold am_if at e
  rw [if_pos (by omega)] at e
  cases hc : am_cmp o x y with
  | true => exact ok_step hi rfl rfl (by rw [e, if_pos hc, show ((pc : Int) + off).toNat = pc1 by omega]) (k1 hc)
  | false => exact ok_step hi rfl rfl (by rw [e, if_neg (by rw [hc]; decide)]) (k2 hc)
theorem ok_if {o : ClassFile.Cond} {off x : Int} (hi : am_ins mi pc = some (.ifCond o off)) (hp : (pc : Int) + off = (pc1 : Nat)) (hp2 : pc + 3 = pc2) (k1 : am_cmp o x 0 = true → Ok d mi pc1 ls st g M Q) (k2 : am_cmp o x 0 = false → Ok d mi pc2 ls st g M Q) : Ok d mi pc ls (aI x :: st) g M Q := by
  subst hp2
  have e : am_step mi pc (.ifCond o off) ls (aI x :: st) g M = am_if (am_cmp o x 0) pc off ls st g M := rfl
  unfold am_if at e
  rw [if_pos (by omega)] at e
  cases hc : am_cmp o x 0 with
  | true => exact ok_step hi rfl rfl (by rw [e, if_pos hc, show ((pc : Int) + off).toNat = pc1 by omega]) (k1 hc)
  | false => exact ok_step hi rfl rfl (by rw [e, if_neg (by rw [hc]; decide)]) (k2 hc)
abbrev rg2 (x y : Int) : Prop := -2147483648 ≤ x ∧ x < 2147483648 ∧ -2147483648 ≤ y ∧ y < 2147483648
theorem rg2.wr {x y : Int} (h : rg2 x y) : wr x = x ∧ wr y = y := ⟨wr_id h.1 h.2.1, wr_id h.2.2.1 h.2.2.2⟩
theorem ok_cge {off x y : Int} (hi : am_ins mi pc = some (.if_icmp .ge off)) (hx : rg2 x y) (hp : (pc : Int) + off = (pc1 : Nat)) (hp2 : pc + 3 = pc2) (k1 : y ≤ x → Ok d mi pc1 ls st g M Q) (k2 : x < y → Ok d mi pc2 ls st g M Q) : Ok d mi pc ls (aI y :: aI x :: st) g M Q :=
  ok_icmp hi hp hp2 (fun h => k1 (by have := of_decide_eq_true h; rw [hx.wr.1, hx.wr.2] at this; exact this)) (fun h => k2 (by have := of_decide_eq_false h; rw [hx.wr.1, hx.wr.2] at this; omega))
theorem ok_clt {off x y : Int} (hi : am_ins mi pc = some (.if_icmp .lt off)) (hx : rg2 x y) (hp : (pc : Int) + off = (pc1 : Nat)) (hp2 : pc + 3 = pc2) (k1 : x < y → Ok d mi pc1 ls st g M Q) (k2 : y ≤ x → Ok d mi pc2 ls st g M Q) : Ok d mi pc ls (aI y :: aI x :: st) g M Q :=
  ok_icmp hi hp hp2 (fun h => k1 (by have := of_decide_eq_true h; rw [hx.wr.1, hx.wr.2] at this; exact this)) (fun h => k2 (by have := of_decide_eq_false h; rw [hx.wr.1, hx.wr.2] at this; omega))
theorem ok_cgt {off x y : Int} (hi : am_ins mi pc = some (.if_icmp .gt off)) (hx : rg2 x y) (hp : (pc : Int) + off = (pc1 : Nat)) (hp2 : pc + 3 = pc2) (k1 : y < x → Ok d mi pc1 ls st g M Q) (k2 : x ≤ y → Ok d mi pc2 ls st g M Q) : Ok d mi pc ls (aI y :: aI x :: st) g M Q :=
  ok_icmp hi hp hp2 (fun h => k1 (by have := of_decide_eq_true h; rw [hx.wr.1, hx.wr.2] at this; exact this)) (fun h => k2 (by have := of_decide_eq_false h; rw [hx.wr.1, hx.wr.2] at this; omega))
theorem ok_cle {off x y : Int} (hi : am_ins mi pc = some (.if_icmp .le off)) (hx : rg2 x y) (hp : (pc : Int) + off = (pc1 : Nat)) (hp2 : pc + 3 = pc2) (k1 : x ≤ y → Ok d mi pc1 ls st g M Q) (k2 : y < x → Ok d mi pc2 ls st g M Q) : Ok d mi pc ls (aI y :: aI x :: st) g M Q :=
  ok_icmp hi hp hp2 (fun h => k1 (by have := of_decide_eq_true h; rw [hx.wr.1, hx.wr.2] at this; exact this)) (fun h => k2 (by have := of_decide_eq_false h; rw [hx.wr.1, hx.wr.2] at this; omega))
theorem ok_ceq {off x y : Int} (hi : am_ins mi pc = some (.if_icmp .eq off)) (hx : rg2 x y) (hp : (pc : Int) + off = (pc1 : Nat)) (hp2 : pc + 3 = pc2) (k1 : x = y → Ok d mi pc1 ls st g M Q) (k2 : x ≠ y → Ok d mi pc2 ls st g M Q) : Ok d mi pc ls (aI y :: aI x :: st) g M Q :=
  ok_icmp hi hp hp2 (fun h => k1 (by have := of_decide_eq_true h; rw [hx.wr.1, hx.wr.2] at this; exact this)) (fun h => k2 (by have := of_decide_eq_false h; rw [hx.wr.1, hx.wr.2] at this; exact this))
theorem ok_cne {off x y : Int} (hi : am_ins mi pc = some (.if_icmp .ne off)) (hx : rg2 x y) (hp : (pc : Int) + off = (pc1 : Nat)) (hp2 : pc + 3 = pc2) (k1 : x ≠ y → Ok d mi pc1 ls st g M Q) (k2 : x = y → Ok d mi pc2 ls st g M Q) : Ok d mi pc ls (aI y :: aI x :: st) g M Q :=
  ok_icmp hi hp hp2 (fun h => k1 (by have := of_decide_eq_true h; rw [hx.wr.1, hx.wr.2] at this; exact this)) (fun h => k2 (by have := of_decide_eq_false h; rw [hx.wr.1, hx.wr.2] at this; omega))
abbrev rg1 (x : Int) : Prop := -2147483648 ≤ x ∧ x < 2147483648
theorem rg1.wr {x : Int} (h : rg1 x) : wr x = x := wr_id h.1 h.2
theorem ok_zge {off x : Int} (hi : am_ins mi pc = some (.ifCond .ge off)) (hx : rg1 x) (hp : (pc : Int) + off = (pc1 : Nat)) (hp2 : pc + 3 = pc2) (k1 : 0 ≤ x → Ok d mi pc1 ls st g M Q) (k2 : x < 0 → Ok d mi pc2 ls st g M Q) : Ok d mi pc ls (aI x :: st) g M Q :=
  ok_if hi hp hp2 (fun h => k1 (by have := of_decide_eq_true h; rw [hx.wr, wr_0] at this; exact this)) (fun h => k2 (by have := of_decide_eq_false h; rw [hx.wr, wr_0] at this; omega))
theorem ok_zlt {off x : Int} (hi : am_ins mi pc = some (.ifCond .lt off)) (hx : rg1 x) (hp : (pc : Int) + off = (pc1 : Nat)) (hp2 : pc + 3 = pc2) (k1 : x < 0 → Ok d mi pc1 ls st g M Q) (k2 : 0 ≤ x → Ok d mi pc2 ls st g M Q) : Ok d mi pc ls (aI x :: st) g M Q :=
  ok_if hi hp hp2 (fun h => k1 (by have := of_decide_eq_true h; rw [hx.wr, wr_0] at this; exact this)) (fun h => k2 (by have := of_decide_eq_false h; rw [hx.wr, wr_0] at this; omega))
theorem ok_zgt {off x : Int} (hi : am_ins mi pc = some (.ifCond .gt off)) (hx : rg1 x) (hp : (pc : Int) + off = (pc1 : Nat)) (hp2 : pc + 3 = pc2) (k1 : 0 < x → Ok d mi pc1 ls st g M Q) (k2 : x ≤ 0 → Ok d mi pc2 ls st g M Q) : Ok d mi pc ls (aI x :: st) g M Q :=
  ok_if hi hp hp2 (fun h => k1 (by have := of_decide_eq_true h; rw [hx.wr, wr_0] at this; exact this)) (fun h => k2 (by have := of_decide_eq_false h; rw [hx.wr, wr_0] at this; omega))
theorem ok_zle {off x : Int} (hi : am_ins mi pc = some (.ifCond .le off)) (hx : rg1 x) (hp : (pc : Int) + off = (pc1 : Nat)) (hp2 : pc + 3 = pc2) (k1 : x ≤ 0 → Ok d mi pc1 ls st g M Q) (k2 : 0 < x → Ok d mi pc2 ls st g M Q) : Ok d mi pc ls (aI x :: st) g M Q :=
  ok_if hi hp hp2 (fun h => k1 (by have := of_decide_eq_true h; rw [hx.wr, wr_0] at this; exact this)) (fun h => k2 (by have := of_decide_eq_false h; rw [hx.wr, wr_0] at this; omega))
theorem ok_zeqw {off x : Int} (hi : am_ins mi pc = some (.ifCond .eq off)) (hp : (pc : Int) + off = (pc1 : Nat)) (hp2 : pc + 3 = pc2) (k1 : wr x = 0 → Ok d mi pc1 ls st g M Q) (k2 : wr x ≠ 0 → Ok d mi pc2 ls st g M Q) : Ok d mi pc ls (aI x :: st) g M Q :=
  ok_if hi hp hp2 (fun h => k1 (by have := of_decide_eq_true h; rw [wr_0] at this; exact this)) (fun h => k2 (by have := of_decide_eq_false h; rw [wr_0] at this; exact this))
theorem ok_znew {off x : Int} (hi : am_ins mi pc = some (.ifCond .ne off)) (hp : (pc : Int) + off = (pc1 : Nat)) (hp2 : pc + 3 = pc2) (k1 : wr x ≠ 0 → Ok d mi pc1 ls st g M Q) (k2 : wr x = 0 → Ok d mi pc2 ls st g M Q) : Ok d mi pc ls (aI x :: st) g M Q :=
  ok_if hi hp hp2 (fun h => k1 (by have := of_decide_eq_true h; rw [wr_0] at this; exact this)) (fun h => k2 (by have := of_decide_eq_false h; rw [wr_0] at this; omega))
theorem ok_zeq {off x : Int} (hi : am_ins mi pc = some (.ifCond .eq off)) (hx : rg1 x) (hp : (pc : Int) + off = (pc1 : Nat)) (hp2 : pc + 3 = pc2) (k1 : x = 0 → Ok d mi pc1 ls st g M Q) (k2 : x ≠ 0 → Ok d mi pc2 ls st g M Q) : Ok d mi pc ls (aI x :: st) g M Q := ok_zeqw hi hp hp2 (fun h => k1 (by rw [hx.wr] at h; exact h)) (fun h => k2 (by rw [hx.wr] at h; exact h))
theorem ok_zne {off x : Int} (hi : am_ins mi pc = some (.ifCond .ne off)) (hx : rg1 x) (hp : (pc : Int) + off = (pc1 : Nat)) (hp2 : pc + 3 = pc2) (k1 : x ≠ 0 → Ok d mi pc1 ls st g M Q) (k2 : x = 0 → Ok d mi pc2 ls st g M Q) : Ok d mi pc ls (aI x :: st) g M Q := ok_znew hi hp hp2 (fun h => k1 (by rw [hx.wr] at h; exact h)) (fun h => k2 (by rw [hx.wr] at h; exact h))
end OK
