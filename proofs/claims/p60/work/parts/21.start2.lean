/-! THE LAW'S START: the world that the small machine stands for -/
theorem am_gw {A A' : Array Value} {s : State} {w : Jvm.Cond} (h : vx_ot w = true) (hb : w.before A s = true) : w.before A' s = true := by
  simp only [vx_ot, Bool.or_eq_true] at h
  rcases h with h | h
  · exact va_tabs h rfl hb
  · rcases good_of_word h with h | ⟨ty, rfl⟩
    · rw [Bool.and_eq_true] at h
      exact va_tabs h.1 rfl hb
    · exact hb
theorem am_txtlen : (List.range 16).all (fun j => decide ((am_txt.getD j []).length < 100)) = true := by decide +kernel
theorem am_clen : am_cl.length = 20 := rfl
theorem am_primA {s : State} {ty : FieldType} (A : Array Value) (hp : ∀ c, va_RA s c ty = (s.vm.findClass ("[" ++ ty.toString) = some c)) (hn : ty.isReference = false) (h : (Cond.arrayClass ty).before A s = true) : ∃ c : ClassId, ArrOfT s c ty ∧ va_RA s c ty := by
  obtain ⟨c, k, comp, h1, h2, h3⟩ := Cond.arrayClass_spec h
  refine ⟨c, fun N z => ⟨(fun k h => by cases h), k, h2, comp, h3⟩, by rw [hp]; exact h1⟩
def am_P0 (d1 d2 b : Nat) (v2 : Value) (fS : Nat → Nat × Nat) : Nat → Value := fun r => if r = 1 then .ref b else if r = 2 then v2 else if 10 ≤ r ∧ r < 42 then (if r % 2 = 0 then .ref (fS ((r - 10) / 2)).1 else .ref (fS ((r - 10) / 2)).2) else if r = 50 then .ref d1 else if r = 51 then .ref d2 else .null
theorem am_P0e {d1 d2 b : Nat} {v2 : Value} {fS : Nat → Nat × Nat} {j : Nat} (h : j < 16) : am_P0 d1 d2 b v2 fS (10 + 2 * j) = .ref (fS j).1 := by
  unfold am_P0
  rw [if_neg (by omega), if_neg (by omega), if_pos (by omega), if_pos (by omega), show (10 + 2 * j - 10) / 2 = j by omega]
theorem am_P0o {d1 d2 b : Nat} {v2 : Value} {fS : Nat → Nat × Nat} {j : Nat} (h : j < 16) : am_P0 d1 d2 b v2 fS (11 + 2 * j) = .ref (fS j).2 := by
  unfold am_P0
  rw [if_neg (by omega), if_neg (by omega), if_pos (by omega), if_neg (by omega), show (11 + 2 * j - 10) / 2 = j by omega]
theorem am_start {p : Program} {s : State} {m : MethodId} {meth : Method} {c : Code} {b L : Nat} {xs : Nat → Int32} (hL : L ≤ 260) (C0 : lw_At p s m meth c b L xs) : ∃ X : am_X, am_Gl X ∧ xS X = s ∧ xP X 1 = .ref b ∧ xL X = L ∧ xX X = xs := by
  obtain ⟨hx, hb, hr, hml, hown, hts0, hX, hbl, hlk, hgv, -⟩ := C0
  have hts : ∀ w ∈ am_tb2, w.before #[Value.ref b] s = true := am_hts2 hts0
  have hn : ∀ w ∈ am_nar, w.before #[Value.ref b] s = true := flat_of_before _ hgv
  have hA : ∀ a : Nat, a < s.heap.size → ¬ (fun q => s.heap.size ≤ q) a := fun a h1 h2 => Nat.not_le.mpr h1 h2
  have hD : ∀ ci : Nat, ∃ q : ClassId × (Nat → Nat), ci < 20 → u_Kn s (am_cr ci).1 (am_cr ci).2.1 (am_cr ci).2.2 q.1 q.2 := by
    intro ci
    by_cases h : ci < 20
    · obtain ⟨c, i, hk⟩ := u_known (C := (am_cr ci).1) (n := am_nf ci) (ws := am_tb2) (T := (am_cr ci).2.1) (N := (am_cr ci).2.2) hts (fun w hw => am_sound_t (am_uok h w hw)) (hts _ (am_sound_t (am_in_okr h).1))
      exact ⟨(c, i), fun _ => hk⟩
    · exact ⟨(0, fun _ => 0), fun h' => absurd h' h⟩
  obtain ⟨fD, hfD⟩ := Classical.axiomOfChoice hD
  have hAr : ∀ k : Nat, ∃ c : ClassId, 20 ≤ k → k < 27 → ArrOfT s c (am_aty k) ∧ va_RA s c (am_aty k) := by
    intro k
    by_cases h : 20 ≤ k ∧ k < 27
    · rcases (show k = 20 ∨ k = 21 ∨ k = 22 ∨ k = 23 ∨ k = 24 ∨ k = 25 ∨ k = 26 by omega) with rfl | rfl | rfl | rfl | rfl | rfl | rfl
      · obtain ⟨c, h⟩ := am_primA _ (fun _ => rfl) rfl (hts _ (am_sound_t am_w_aint)); exact ⟨c, fun _ _ => h⟩
      · obtain ⟨c, h⟩ := am_primA _ (fun _ => rfl) rfl (hts _ (am_sound_t am_w_abyte)); exact ⟨c, fun _ _ => h⟩
      · obtain ⟨c, h⟩ := am_primA _ (fun _ => rfl) rfl (hts _ (am_sound_t am_w_aboolean)); exact ⟨c, fun _ _ => h⟩
      · obtain ⟨comp, c, k, h1, h2, h3, h4, h5⟩ := Cond.arrayOver_spec (hts0 _ am_lo3')
        exact ⟨c, fun _ _ => ⟨fun N z => ⟨(fun k h => by cases h), k, h3, comp, h4⟩, k, comp, h3, h4, h1, h5⟩⟩
      · obtain ⟨comp, c, k, h1, h2, h3, h4, h5⟩ := Cond.arrayOver_spec (hts0 _ am_lo4')
        exact ⟨c, fun _ _ => ⟨fun N z => ⟨(fun k h => by cases h), k, h3, comp, h4⟩, k, comp, h3, h4, h1, h5⟩⟩
      · obtain ⟨comp, c, k, h1, h2, h3, h4, h5⟩ := arrayOverA_spec (hts0 _ am_lo2')
        exact ⟨c, fun _ _ => ⟨fun N z => ⟨(fun k h => by cases h), k, h3, comp, h4⟩, h5⟩⟩
      · obtain ⟨comp, c, k, h1, h2, h3, h4, h5⟩ := Cond.arrayOver_spec (hts0 _ am_lo1')
        exact ⟨c, fun _ _ => ⟨fun N z => ⟨(fun k h => by cases h), k, h3, comp, h4⟩, k, comp, h3, h4, h1, h5⟩⟩
    · exact ⟨0, fun h1 h2 => absurd ⟨h1, h2⟩ h⟩
  obtain ⟨fA, hfA⟩ := Classical.axiomOfChoice hAr
  have hS : ∀ j : Nat, ∃ q : Nat × Nat, j < 16 → (am_tmS j).eval #[Value.ref b] s none [] s = some (.ref q.1) ∧ va_O "java/lang/String" q.1 (fun q => s.heap.size ≤ q) s s.heap ∧ va_OF "java/lang/String" "coder" "B" (.int 0) q.1 (fun q => s.heap.size ≤ q) s s.heap ∧ va_OF "java/lang/String" "value" "[B" (.ref q.2) q.1 (fun q => s.heap.size ≤ q) s s.heap ∧
      va_T .byte q.2 (am_txt.getD j []).length (fun i => .int (Int32.ofInt ((am_txt.getD j []).getD i 0))) (fun q => s.heap.size ≤ q) s s.heap := by
    intro j
    by_cases hj : j < 16
    · have hw : ∀ w ∈ am_nw j, w.before #[Value.ref b] s = true := fun w h => hn w (am_nin hj w h)
      unfold am_nw at hw
      have e1 := hw _ List.mem_cons_self
      have e2 := hw _ (List.mem_cons_of_mem _ List.mem_cons_self)
      have e3 := hw _ (List.mem_cons_of_mem _ (List.mem_cons_of_mem _ List.mem_cons_self))
      have e4 := hw _ (List.mem_cons_of_mem _ (List.mem_cons_of_mem _ (List.mem_cons_of_mem _ List.mem_cons_self)))
      have e5 : ∀ i : Nat, i < (am_txt.getD j []).length → (Cond.eq (.elem (am_tmV j) (.int (Int32.ofNat i))) (.int (Int32.ofInt ((am_txt.getD j []).getD i 0)))).before #[Value.ref b] s = true := fun i hi =>
        hw _ (List.mem_cons_of_mem _ (List.mem_cons_of_mem _ (List.mem_cons_of_mem _ (List.mem_cons_of_mem _ (List.mem_map.mpr ⟨i, List.mem_range.mpr hi, rfl⟩)))))
      obtain ⟨a, c, cA, kA, q1, q2, q3, q4, q5, q6, -⟩ := Cond.exactly_spec (args := #[Value.ref b]) (first := s) (o := none) (s := s) (idx := []) (t := am_tmS j) (cls := "java/lang/String") e1
      have hlt : (am_txt.getD j []).length < 2 ^ 31 := Nat.lt_trans (of_decide_eq_true (am_all am_txtlen hj)) (by decide)
      obtain ⟨t, ht, hT⟩ := va_Tof (f := fun i => .int (Int32.ofInt ((am_txt.getD j []).getD i 0))) (A := fun q => s.heap.size ≤ q) hlt e3 (va_eqt e4) (fun i hi => va_eqt (e5 i hi)) hA
      exact ⟨(a, t), fun _ => ⟨q1, ⟨cA, q3, q5, by rw [q6]; exact q2, hA a (Array.getElem?_eq_some_iff.mp q3).1⟩, vk_OFof q1 (va_eqt e2) hA, vk_OFof q1 ht hA, hT⟩⟩
    · exact ⟨(0, 0), fun h => absurd h hj⟩
  obtain ⟨fS, hfS⟩ := Classical.axiomOfChoice hS
  obtain ⟨v2, hv2, hz2⟩ : ∃ v2 : Value, (v2 = .null ∨ ∃ a, v2 = .ref a) ∧ va_Z "jdk/internal/util/Preconditions" "SIOOBE_FORMATTER" "Ljava/util/function/BiFunction;" v2 (fun q => s.heap.size ≤ q) s s.heap := by
    rcases va_Zqof (hts0 _ am_ls4) (hts0 _ am_li4) (hn _ am_nr4) hA with h | ⟨t, h⟩
    · exact ⟨_, Or.inl rfl, h⟩
    · exact ⟨_, Or.inr ⟨t, rfl⟩, h⟩
  have hDg : ∀ (f : String) (h : Nat → Int), (∀ w ∈ am_dw f h, w.before #[Value.ref b] s = true) → (Cond.laysStatic "java/lang/Integer" f "[B").before #[Value.ref b] s = true → ∃ d : Nat, va_Z "java/lang/Integer" f "[B" (.ref d) (fun q => s.heap.size ≤ q) s s.heap ∧ va_T .byte d 100 (fun i => .int (Int32.ofInt (h i))) (fun q => s.heap.size ≤ q) s s.heap := by
    intro f h hw hl
    unfold am_dw at hw
    have e3 := hw _ List.mem_cons_self
    have e4 := hw _ (List.mem_cons_of_mem _ List.mem_cons_self)
    have e5 : ∀ i : Nat, i < 100 → (Cond.eq (.elem (am_dt f) (.int (Int32.ofNat i))) (.int (Int32.ofInt (h i)))).before #[Value.ref b] s = true := fun i hi =>
      hw _ (List.mem_cons_of_mem _ (List.mem_cons_of_mem _ (List.mem_map.mpr ⟨i, List.mem_range.mpr hi, rfl⟩)))
    obtain ⟨t, ht, hT⟩ := va_Tof (f := fun i => .int (Int32.ofInt (h i))) (A := fun q => s.heap.size ≤ q) (show 100 < 2 ^ 31 by decide) e3 (va_eqt e4) (fun i hi => va_eqt (e5 i hi)) hA
    exact ⟨t, va_Zof hl (hts0 _ am_li5) ht hA, hT⟩
  obtain ⟨d1, hd1⟩ := hDg "DigitOnes" (fun i => 48 + (i : Int) % 10) (fun w h => hn w (am_din1 w h)) (hts0 _ am_ls5)
  obtain ⟨d2, hd2⟩ := hDg "DigitTens" (fun i => 48 + (i : Int) / 10) (fun w h => hn w (am_din2 w h)) (hts0 _ am_ls6)
  have hsr : ∀ own is tx, Cond.stringRef own is tx ∈ lw_tbl → ∃ sa, vk_R own is tx sa s ∧ (Term.string own is).eval #[Value.ref b] s none [] s = some (.ref sa) := by
    intro own is tx h
    have h1 := hts0 _ h
    have hcur : ∃ cur, s.vm.findClass own = some cur := by
      have h1 := h1
      simp only [Cond.before, Cond.holds, Cond.value] at h1
      cases hc : s.vm.findClass own with
      | none => simp [hc] at h1
      | some cur => exact ⟨cur, rfl⟩
    obtain ⟨cur, hcur⟩ := hcur
    obtain ⟨k, cf, i, a, -, -, -, -, -, hev⟩ := Cond.stringRef_spec hcur h1
    exact ⟨a, vk_R.of h1 hev, hev⟩
  refine ⟨(s, (fun ci => (fD ci).1, fun ci => (fD ci).2), fA, am_P0 d1 d2 b v2 fS, L, xs), ?_, rfl, rfl, rfl, rfl⟩
  refine ⟨⟨fun c q hq => ?_, fun k q hk => ?_⟩, ⟨?_, ?_⟩, ⟨?_, ?_⟩, ?_, ?_, ?_, ?_, ?_, ?_, ?_, ⟨?_, ?_, ?_⟩, ?_, ⟨d1, rfl, hd1⟩, ⟨d2, rfl, hd2⟩⟩
  · have hc : c < 20 := by rw [← am_clen]; exact (List.getElem?_eq_some_iff.mp hq).1
    have := hfD c hc
    rw [(am_nf_ok c hc).1] at hq
    cases hq
    exact this
  · have hk7 : k < 7 := (List.getElem?_eq_some_iff.mp hk).1
    rcases (show k = 0 ∨ k = 1 ∨ k = 2 ∨ k = 3 ∨ k = 4 ∨ k = 5 ∨ k = 6 by omega) with rfl | rfl | rfl | rfl | rfl | rfl | rfl <;> cases hk
    · exact hfA 20 (by decide) (by decide)
    · exact hfA 21 (by decide) (by decide)
    · exact hfA 22 (by decide) (by decide)
    · exact hfA 23 (by decide) (by decide)
    · exact hfA 24 (by decide) (by decide)
    · exact hfA 25 (by decide) (by decide)
    · exact hfA 26 (by decide) (by decide)
  · exact vx_Zqof (hts0 _ am_ls1) (hts0 _ am_li1) (hn _ am_nr1) hA
  · exact vx_Zqof (hts0 _ am_ls2) (hts0 _ am_li1) (hn _ am_nr2) hA
  · exact va_Zof (hts0 _ am_ls3) (hts0 _ am_li3) (va_eqt (hn _ am_nr3)) hA
  · exact hz2
  · intro j hj
    obtain ⟨h1, h2⟩ := hfS j hj
    exact ⟨(fS j).1, (fS j).2, am_P0e hj, am_P0o hj, h2⟩
  · exact ⟨b, rfl, hX, hbl, by show L < 2147483648; omega⟩
  · intro own is tx h
    obtain ⟨sa, h1, -⟩ := hsr own is tx (List.mem_append_right _ h)
    exact ⟨sa, h1⟩
  · intro j hj
    obtain ⟨sa, h1, h2⟩ := hsr _ _ _ (of_decide_eq_true (am_all am_srchk hj))
    have h3 := (hfS j hj).1
    unfold am_tmS at h3
    rw [h3] at h2
    cases h2
    show vk_R _ _ _ (match am_P0 d1 d2 b v2 fS (10 + 2 * j) with | .ref a => a | _ => 0) s
    rw [am_P0e hj]
    exact h1
  · intro E T h1 h2 h3 h4 h5
    have hc : ∀ q : Nat × Nat, q ∈ [(10, 11), (10, 12), (11, 10), (11, 12), (12, 10), (12, 11)] → va_Nc (am_cn q.1) (am_cn q.2) s := fun q hq => va_Nc.of (hn _ (of_decide_eq_true (List.all_eq_true.mp am_ncchk q hq)))
    rcases (show E = 10 ∨ E = 11 ∨ E = 12 by omega) with rfl | rfl | rfl <;> rcases (show T = 10 ∨ T = 11 ∨ T = 12 by omega) with rfl | rfl | rfl
    · exact absurd rfl h5
    · exact hc (10, 11) (by decide)
    · exact hc (10, 12) (by decide)
    · exact hc (11, 10) (by decide)
    · exact absurd rfl h5
    · exact hc (11, 12) (by decide)
    · exact hc (12, 10) (by decide)
    · exact hc (12, 11) (by decide)
    · exact absurd rfl h5
  · intro r hr
    show am_P0 d1 d2 b v2 fS r = .null ∨ ∃ a, am_P0 d1 d2 b v2 fS r = .ref a
    unfold am_P0
    split
    · exact Or.inr ⟨_, rfl⟩
    · split
      · exact hv2
      · split
        · split
          · exact Or.inr ⟨_, rfl⟩
          · exact Or.inr ⟨_, rfl⟩
        · split
          · exact Or.inr ⟨_, rfl⟩
          · split
            · exact Or.inr ⟨_, rfl⟩
            · exact Or.inl rfl
  · exact fun w hw h => am_gw h (hts0 w hw)
  · exact va_AO.of (hts0 _ am_lo1')
  · exact va_AO.of (hts0 _ am_lo3')
  · exact va_AO.of (hts0 _ am_lo4')
  · exact hts0 _ am_lo2'
def am_g0 (L : Nat) : AG := (0, 0, fun r => if r < 100 then am_k0 r else 99, fun r => if r = 1 then L else if r < 50 then (am_txt.getD ((r - 11) / 2) []).length else 100, fun r _ => r + 1)
def am_M0 (xs : Nat → Int32) : AM := fun r i => if r = 1 then (xs i.toNat).toInt else if r = 50 then 48 + i % 10 else if r = 51 then 48 + i / 10 else (am_txt.getD ((r - 11) / 2) []).getD i.toNat 0
theorem am_Rel0 {X : am_X} : am_Rel X (am_g0 (xL X)) (am_M0 (xX X)) (xS X).heap := by
  refine ⟨rfl, fun q _ => rfl, ⟨fun r hr => if_pos hr, rfl, fun j hj => rfl, fun j hj => ⟨?_, ?_, fun i hi => ?_⟩, ⟨rfl, fun i hi => rfl⟩, ⟨rfl, fun i hi => rfl⟩⟩, fun r hr => ?_, fun r h1 h2 => ?_⟩
  · show 10 + 2 * j + 1 = 11 + 2 * j
    omega
  · show (if 11 + 2 * j = 1 then _ else if 11 + 2 * j < 50 then _ else _) = _
    rw [if_neg (by omega), if_pos (by omega), show (11 + 2 * j - 11) / 2 = j by omega]
  · show (if 11 + 2 * j = 1 then _ else if 11 + 2 * j = 50 then _ else if 11 + 2 * j = 51 then _ else _) = _
    rw [if_neg (by omega), if_neg (by omega), if_neg (by omega), show (11 + 2 * j - 11) / 2 = j by omega]
    rfl
  · show (if r < 100 then _ else _) = _
    rw [if_neg (by have h9 : 100 + 0 ≤ r := hr; omega)]
  · exfalso
    have h9 : r < 100 + 0 := h2
    omega
theorem am_flags {l : Launch} (h : l.flags = flags0) : l.stackTraces = false := by
  unfold Launch.stackTraces
  rw [h]
  decide +kernel
def am_goal (L : Nat) (xs : Nat → Int32) : Prop := ∃ (f : Nat) (g' : AG) (M' : AM), am_exec f 1000 0 0 (am_pad 0 [aR 1]) [] (am_g0 L) (am_M0 xs) = some (.inl (some (aI 1)), g', M') ∧ gN g' ≤ 600086 ∧ gS g' ≤ 7301442
theorem am_r0 : am_mr 0 = am_mt0.getD 0 am_md := rfl
theorem am_c0 : am_code 0 = code := rfl
theorem am_l0 : am_nL 0 = 5 := by decide +kernel
theorem am_t0 : am_rt 0 = ret := rfl
theorem am_h0 : am_hh 0 = [] := rfl
theorem am_n0 : (am_name 0).name = x.name := by decide +kernel
theorem am_o0 : am_own 0 = R_law := by decide +kernel
theorem am_room {a b : Nat} (h1 : a ≤ 600086) (h2 : b ≤ 7301442) : 1000 + 10 ≤ room_1.frames ∧ 60 * 1000 + 300 ≤ room_1.locals ∧ 600086 ≤ room_1.cells ∧ 7301442 ≤ room_1.slots := ⟨by decide, by decide, by decide, by decide⟩
theorem am_law {p : Program} {e : Env} {s : State} {m : MethodId} {below : List Frame} {meth : Method} {c : Code} (l : Launch) (hflags : l.flags = flags0) {b L : Nat} {xs : Nat → Int32} (hL : L ≤ 260) (C0 : lw_At p s m meth c b L xs) (hgoal : am_goal L xs) : W p l e room_1 s m #[Value.ref b] below meth c s.heap [] 0 0 (lw_Z below #[Value.ref b] s) (entryFrame m ([Value.ref b] : List Value).toArray 5) := by
  obtain ⟨X, hG, hs, h1, h2, h3⟩ := am_start hL C0
  obtain ⟨hx, hb, hr, hml, hown, hts, hX, hbl, hlk, hgv, htab, hnm⟩ := C0
  obtain ⟨f, g', M', hrun, hg1, hg2⟩ := hgoal
  have hR0 := am_Rel0 (X := X)
  rw [h2, h3, hs] at hR0
  have hF : am_Fx X p l s m #[Value.ref b] meth c 0 := ⟨hx, by rw [hb, am_c0], by rw [hml, am_l0], by rw [am_o0]; exact hown, fun w hw => am_hts2 hts w (am_sound_t hw), by rw [hr, am_t0], hlk, by rw [htab, am_h0]; rfl, by rw [hnm, am_n0], am_flags hflags, by rw [hs]; exact State.WarmedH.refl s, by unfold xB; rw [show X.1 = s from hs]; exact Nat.le_refl _, fun q _ => by rw [hs]⟩
  have hcat : ∀ v ∈ [aR 1], am_cat v = 1 := fun v hv => by
    rcases List.mem_cons.mp hv with rfl | h
    · rfl
    · cases h
  have hV : am_V X (aR 1) = .ref b := h1
  have hlv := am_entry hG (as := [aR 1]) (n := 5) hcat (by decide)
  have hgo := am_main hG (am_flags hflags) f 1000 0 0 (am_pad 0 [aR 1]) [] (am_g0 L) (am_M0 xs) _ g' M' hrun p e room_1 s m #[Value.ref b] below meth c s.heap [] 0 0 600086 7301442 _ hF hR0 (by rw [am_l0]; exact hlv) (by unfold am_pad; rw [am_l0]; rfl) (fun q hq => by cases hq) (am_room hg1 hg2).1 (am_room hg1 hg2).2.1 (by rw [Nat.zero_add, show gN (am_g0 L) = 0 from rfl]; exact hg1) (by rw [Nat.zero_add, show gS (am_g0 L) = 0 from rfl]; exact hg2) (am_room hg1 hg2).2.2.1 (am_room hg1 hg2).2.2.2
  rw [lg_entry_eq]
  rw [show ([aR 1] : List AV).map (am_V X) = [Value.ref b] by rw [List.map_cons, hV]; rfl] at hgo
  intro T hT Xs
  obtain ⟨t, a1, o, b1, b2, b3⟩ := hgo T hT Xs
  refine ⟨t, a1, o, b1, b2, ?_⟩
  have hB : xB X = s.heap.size := by unfold xB; rw [show X.1 = s from hs]
  rcases b3 with ⟨⟨v, hv, ho, -⟩, Ls, hFE, hfree⟩ | ⟨q, ho, E, ce, Ls, ⟨ci, hci, -⟩, -⟩
  · cases hv
    subst ho
    have hs2 : (s.setDrawn s.drawn).sameButNew ({ t with vm := s.vm } : State) [] 600086 7301442 := State.sameButNew.sift hFE.2.2 (fun q hq => Or.inr (by have h9 : xB X ≤ q.base := hfree q hq; rw [hB] at h9; exact h9))
    exact ⟨rfl, lw_closed (Drawn.sameBut.refl s.drawn lw_cs) ⟨_, rfl⟩ hFE.2.1 hs2⟩
  · cases hci
