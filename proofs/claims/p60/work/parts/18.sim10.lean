/-! THE SMALL MACHINE AND THE MACHINE: throws and calls -/
section SIM
variable {p : Program} {l : Launch} {e : Env} {R : Room} {s : State} {m : MethodId} {args : Array Value} {below : List Frame} {meth : Method} {c : Code} {H : Heap} {locs : List Loc} {cells slots : Nat} {Q : State → Prop}
variable {X : am_X} {mi pc pc' : Nat} {ls ls' st st' : List AV} {g g' : AG} {M M' : AM} {lsM : Array Slot}
theorem am_sumV (hG : am_Gl X) (st : List AV) : ((st.map (am_V X)).map fun v => v.category).sum = (st.map am_cat).sum := by
  rw [List.map_map]
  congr 1
  exact List.map_congr_left fun v _ => am_catV X hG v
theorem am_thr1 (hG : am_Gl X) (hF : am_Fx X p l s m args meth c mi) (hR : am_Rel X g M H) (hl : lv_has lsM (am_nL mi) (am_lv X ls)) (hq : ∀ q ∈ locs, xB X ≤ q.base) {mc ms ik is ic k E : Nat} {wd : Bool} (hfr : 10 ≤ R.frames) (hlo : 300 ≤ R.locals) (hc : cells + 1 ≤ mc) (hs : slots + 6 ≤ ms) (hmc : mc ≤ R.cells) (hms : ms ≤ R.slots)
    (hE : 10 ≤ E ∧ E < 13) (hfit : Bundle.fit (am_cn E) = true) (hini : Cond.initialized (am_cn E) ∈ am_ws) (hat0 : ∀ w ∈ vx_atS "RodYard" ic (am_cn E) ["java/lang/RuntimeException", "java/lang/Exception"], w ∈ lw_tbl)
    (hat1 : (vx_atS "RodYard" ic (am_cn E) ["java/lang/RuntimeException", "java/lang/Exception"]).all (fun w => goodWord w || (match w with | .declares _ => true | .castable _ _ => true | _ => false)) = true) (hat2 : (vx_atS "RodYard" ic (am_cn E) ["java/lang/RuntimeException", "java/lang/Exception"]).all vx_ot = true)
    (hoc : am_oc mi = 0) (hms2 : ∃ tx, Cond.stringRef "RodYard" is tx ∈ tables_1) (hh : am_hh mi = []) (hsum : (st.map am_cat).sum ≤ 8) (ht : am_thr mi pc = some (ik, is, ic, k, wd)) (hx : am_exc mi pc ik = some E) :
    W p l e R s m args below meth c H locs cells slots (vx_MQ below (am_Qc X (.inr E) (am_alloc g 30 0 6) M) (am_XC X (.inr E) (am_alloc g 30 0 6) M) args s mc ms (xU X)) (F0 m pc lsM (st.map (am_V X))) := by
  have hw := fun w h => am_wd (w := w) hF h
  have hW : (xS X).WarmedH s.vm := hF.2.2.2.2.2.2.2.2.2.2.1
  obtain ⟨hex, hb, hml, hown, hts, hrt, hlk, htab, hnm, hst, -⟩ := hF
  have ho : am_own mi = "RodYard" := by unfold am_own; rw [hoc]; decide +kernel
  rw [ho] at hown
  unfold am_exc at hx
  split at hx
  · next i0 ci pz e1 =>
    split at hx
    · next h10 =>
      cases hx
      obtain ⟨-, w1, -⟩ := am_cl_ok e1
      dsimp only at w1
      rw [hoc, show am_cn 0 = "RodYard" by decide +kernel, show am_cname E = am_cn E by unfold am_cname; rw [if_neg (by omega), if_neg (by omega), if_neg (by omega)]] at w1
      obtain ⟨tx, htx⟩ := hms2
      obtain ⟨sa, hsa⟩ := hG.2.2.2.2.2.1 _ _ _ htx
      have hsa := vk_R.warm hW hsa
      have hat : ∀ w ∈ vx_atS "RodYard" ic (am_cn E) ["java/lang/RuntimeException", "java/lang/Exception"], w.before args s = true := by
        intro w hwm
        have h1 := List.all_eq_true.mp hat1 w hwm
        simp only [Bool.or_eq_true] at h1
        rcases h1 with h1 | h1
        · exact hw w (List.mem_filter.mpr ⟨List.mem_append_left _ (hat0 w hwm), h1⟩)
        · have h2 : va_Nw w (xS X) := hG.2.2.2.2.2.2.2.2.2.1 w (hat0 w hwm) (List.all_eq_true.mp hat2 w hwm)
          cases w
          case declares x => exact va_Nw.use rfl (va_Nw.warmD hW h2)
          case castable a b => exact va_Nw.use rfl (va_Nw.warmC hW h2)
          all_goals cases h1
      have hgood : ∀ w ∈ Cond.classLink "RodYard" ik (am_cn E) :: Cond.initialized (am_cn E) :: vx_atS "RodYard" ic (am_cn E) ["java/lang/RuntimeException", "java/lang/Exception"], vx_ot w = true := by
        intro w hwm
        rcases List.mem_cons.mp hwm with rfl | hwm
        · rfl
        · rcases List.mem_cons.mp hwm with rfl | hwm
          · rfl
          · exact List.all_eq_true.mp hat2 w hwm
      have hold : ∀ a : Nat, a < (xS X).heap.size → ¬ xU X a → H[a]? = (xS X).heap[a]? := fun a h1 h2 => hR.2.1 a (Nat.not_le.mp h2)
      have hU : vx_Zq Bundle.tN "UNASSIGNED_STACK" Bundle.steD (xU X) s H := vx_Zq.moved hW.alike (hG.2.1.1.kept hold)
      have hN : vx_Zq Bundle.tN "SUPPRESSED_SENTINEL" Bundle.listD (xU X) s H := vx_Zq.moved hW.alike (hG.2.1.2.kept hold)
      have hout : ∀ z, ∀ x ∈ c.exceptionTable.toList, covers x z = false := by
        intro z x hx
        rw [htab, hh] at hx
        cases hx
      have hx9 : ∀ t : State, s.vm.Alike t.vm → t.heap.size = H.size + 1 → (∀ q : Nat, q < H.size → t.heap[q]? = H[q]?) → am_XC X (.inr E) (am_alloc g 30 0 6) M (am_cn E) s t :=
        fun t _ z1 z2 => ⟨E, rfl, rfl, hE.1, hE.2, am_Rel_push hR (fun _ _ => rfl) z1 z2 (Or.inr (Or.inr (am_al1 (g := g) (kind := 30) (len := 0) (sl := 6)).2.2.1))⟩
      have hnames : ∀ n ∈ ["java/lang/RuntimeException", "java/lang/Exception"], Bundle.fit n = true := by decide +kernel
      have hsz : lsM.size = c.maxLocals := by rw [hml]; exact hl.1
      have hsm : ((st.map (am_V X)).map fun v => v.category).sum + (13 * ((["java/lang/RuntimeException", "java/lang/Exception"] : List String).length + 1) + 43) ≤ R.locals := by rw [am_sumV hG]; show _ + (13 * (2 + 1) + 43) ≤ _; omega
      unfold am_thr at ht
      split at ht
      · next ik2 i1 =>
        split at ht
        · next is2 i2 =>
          split at ht
          · next ic2 i3 =>
            split at ht
            · next hd =>
              cases ht
              exact am_throwS hex hb hst hown hfit hnames (hw _ w1) (hw _ hini) hsa hat hgood hU hN hsz (am_dec i1 rfl) (am_dec hd.1 rfl) (am_dec i2 rfl) (am_dec i3 rfl) (am_dec hd.2 rfl) (hout _) (by show 2 + 3 < _; omega) hsm (by omega) (by omega) hlk hx9 hq hc hs
            · cases ht
          · cases ht
        · next is2 i2 =>
          split at ht
          · next ic2 i3 =>
            split at ht
            · next hd =>
              cases ht
              exact am_throwSW hex hb hst hown hfit hnames (hw _ w1) (hw _ hini) hsa hat hgood hU hN hsz (am_dec i1 rfl) (am_dec hd.1 rfl) (am_dec i2 rfl) (am_dec i3 rfl) (am_dec hd.2 rfl) (hout _) (by show 2 + 3 < _; omega) hsm (by omega) (by omega) hlk hx9 hq hc hs
            · cases ht
          · cases ht
        · cases ht
      · cases ht
    · cases hx
  · cases hx
theorem am_msg_chk : am_msgT.all (fun q => am_hasN q.2.2 (.stringRef "RodYard" q.1 q.2.1)) = true := by decide +kernel
theorem am_tbl_split {w : Jvm.Cond} (h : w ∈ lw_tbl) (hs : ∀ C x y, w ≠ .selects C x y) : w ∈ tables_1 := by
  unfold lw_tbl at h
  rcases List.mem_append.mp h with h | h
  · unfold k2_sels at h
    obtain ⟨q, -, rfl⟩ := List.mem_map.mp h
    exact absurd rfl (hs _ _ _)
  · exact h
theorem am_msg_ok {is : Nat} (h : (am_msgT.find? (fun q => q.1 == is)).isSome = true) : ∃ tx, Cond.stringRef "RodYard" is tx ∈ tables_1 := by
  obtain ⟨q, hq⟩ := Option.isSome_iff_exists.mp h
  have h1 := List.mem_of_find?_eq_some hq
  have h2 : q.1 = is := by simpa using List.find?_some hq
  have h3 := am_hasN_in (List.all_eq_true.mp am_msg_chk q h1)
  rw [h2] at h3
  exact ⟨q.2.1, am_tbl_split h3 (fun _ _ _ h => by cases h)⟩
theorem am_throw (hG : am_Gl X) (hF : am_Fx X p l s m args meth c mi) (hR : am_Rel X g M H) (hl : lv_has lsM (am_nL mi) (am_lv X ls)) (hq : ∀ q ∈ locs, xB X ≤ q.base) {mc ms ik is ic k E : Nat} {wd : Bool} (hfr : 10 ≤ R.frames) (hlo : 300 ≤ R.locals) (hc : cells + 1 ≤ mc) (hs : slots + 6 ≤ ms) (hmc : mc ≤ R.cells) (hms : ms ≤ R.slots)
    (hh : am_hh mi = []) (hsum : (st.map am_cat).sum ≤ 8) (hok : am_exok mi E is ic = true) (ht : am_thr mi pc = some (ik, is, ic, k, wd)) (hx : am_exc mi pc ik = some E) :
    W p l e R s m args below meth c H locs cells slots (vx_MQ below (am_Qc X (.inr E) (am_alloc g 30 0 6) M) (am_XC X (.inr E) (am_alloc g 30 0 6) M) args s mc ms (xU X)) (F0 m pc lsM (st.map (am_V X))) := by
  unfold am_exok at hok
  simp only [Bool.and_eq_true, Bool.or_eq_true, decide_eq_true_eq] at hok
  obtain ⟨⟨h1, h2⟩, h3⟩ := hok
  rcases h2 with (⟨rfl, rfl⟩ | ⟨rfl, rfl⟩) | ⟨rfl, rfl⟩
  · exact am_thr1 hG hF hR hl hq hfr hlo hc hs hmc hms (by omega) (by decide +kernel) am_w_i10 am_at10_in am_at10_g am_at10_o h1 (am_msg_ok h3) hh hsum ht hx
  · exact am_thr1 hG hF hR hl hq hfr hlo hc hs hmc hms (by omega) (by decide +kernel) am_w_i11 am_at11_in am_at11_g am_at11_o h1 (am_msg_ok h3) hh hsum ht hx
  · exact am_thr1 hG hF hR hl hq hfr hlo hc hs hmc hms (by omega) (by decide +kernel) am_w_i12 am_at12_in am_at12_g am_at12_o h1 (am_msg_ok h3) hh hsum ht hx
/-- behind a call -/
theorem am_after {mc1 ms1 : Nat} {o1 : AO} {g1 : AG} {M1 : AM} {a : Array Value} {stM : List Value} {rest : List AV} (hq : ∀ q ∈ locs, xB X ≤ q.base)
    (hr : vx_Run p l e R s m args below meth c H locs cells slots mc1 ms1 (F0 m pc lsM stM) (rest.map (am_V X)) (am_Qc X o1 g1 M1 a) (am_XC X o1 g1 M1) (xU X))
    (k1 : ∀ (v : Option AV) (H' : Heap) (locs' : List Loc), o1 = .inl v → am_Rel X g1 M1 H' → (∀ q ∈ locs', xB X ≤ q.base) → W p l e R s m args below meth c H' locs' (cells + mc1) (slots + ms1) Q (F0 m (pc + 3) lsM ((am_push v rest).map (am_V X))))
    (k2 : ∀ (E : Nat) (H' : Heap) (locs' : List Loc) (q : Addr) (ce : Cell), o1 = .inr E → 10 ≤ E → E < 13 → am_Rel X g1 M1 H' → (∀ q ∈ locs', xB X ≤ q.base) → H'[q]? = some ce → ce.vm = .none → s.vm.findClass (am_cn E) = some ce.cls → vx_W p l e R s m args below meth c H' locs' (cells + mc1) (slots + ms1) Q (F0 m pc lsM (rest.map (am_V X))) q) :
    W p l e R s m args below meth c H locs cells slots Q (F0 m pc lsM stM) := by
  intro T hT Xs
  have hlc : ∀ L : List Loc, (∀ q ∈ L, xU X q.base) → ∀ q ∈ locs ++ L, xB X ≤ q.base := fun L hL q h => by
    rcases List.mem_append.mp h with h | h
    · exact hq q h
    · exact hL q h
  rcases hr T hT Xs with ⟨v, st₀, t, T', L, h0, X', hL, e1, e2, ⟨v', hv', ho, hRel⟩, hgo⟩ | ⟨q, st₀, t, T', L, E, ce, h0, X', hL, e1, e2, ⟨ci, hci, hE, hE1, hE2, hRel⟩, hce, hcv, hcl, hgo⟩
  · have hv : v = v'.map (am_V X) := Outcome.returned.inj ho
    subst hv
    obtain ⟨t2, a1, b1⟩ := k1 v' T'.heap (locs ++ L) hv' (by rw [e1]; exact hRel) (hlc L hL) T' rfl X'
    refine ⟨t2, hgo t2 ?_, b1⟩
    cases v' with
    | none => exact a1
    | some w => exact a1
  · subst hE
    obtain ⟨t2, a1, b1⟩ := k2 ci T'.heap (locs ++ L) q ce hci hE1 hE2 (by rw [e1]; exact hRel) (hlc L hL) (by rw [e1]; exact hce) hcv hcl T' rfl X'
    exact ⟨t2, hgo.trans a1, b1⟩
theorem am_find_spec {mi pc E h t : Nat} : ∀ {hs : List (Nat × Nat × Nat × Nat)}, am_find mi pc E hs = some (h, t) →
    ∃ (pre : List (Nat × Nat × Nat × Nat)) (a b : Nat) (suf : List (Nat × Nat × Nat × Nat)) (z1 z2 : Nat), hs = pre ++ (a, b, h, t) :: suf ∧ a ≤ pc ∧ pc < b ∧ t ≠ 0 ∧ am_cs (am_oc mi) t = some (z1, E, z2) ∧
      ∀ z ∈ pre, ¬ (z.1 ≤ pc ∧ pc < z.2.1) ∨ (z.2.2.2 ≠ 0 ∧ ∃ T y1 y2, am_cs (am_oc mi) z.2.2.2 = some (y1, T, y2) ∧ (10 ≤ T ∧ T < 13) ∧ T ≠ E)
  | [], h9 => by cases h9
  | (a, b, h2, t2) :: r, h9 => by
    rw [am_find] at h9
    split at h9
    · next z1 ci z2 e1 =>
      split at h9
      · next hc =>
        obtain ⟨c1, c2, rfl, c4⟩ := hc
        cases h9
        exact ⟨[], a, b, r, z1, z2, rfl, c1, c2, c4, e1, fun z hz => by cases hz⟩
      · next hc =>
        split at h9
        · next hd =>
          obtain ⟨pre, a', b', suf, y1, y2, p1, p2, p3, p4, p5, p6⟩ := am_find_spec h9
          refine ⟨(a, b, h2, t2) :: pre, a', b', suf, y1, y2, by rw [p1]; rfl, p2, p3, p4, p5, fun z hz => ?_⟩
          rcases List.mem_cons.mp hz with rfl | hz
          · dsimp only
            by_cases hcv : a ≤ pc ∧ pc < b
            · refine Or.inr ⟨hd.2, ci, z1, z2, e1, hd.1, fun he => hc ⟨hcv.1, hcv.2, he, hd.2⟩⟩
            · exact Or.inl hcv
          · exact p6 z hz
        · cases h9
    · cases h9
theorem am_cov (x : ExceptionTableEntry) (z : Nat) : covers x z = true ↔ (x.startPc ≤ z ∧ z < x.endPc) := by
  unfold covers
  simp
/-- an exception that is caught here -/
theorem am_caught (hG : am_Gl X) (hF : am_Fx X p l s m args meth c mi) (hR : am_Rel X g M H) (hl : lv_has lsM (am_nL mi) (am_lv X ls)) (hq : ∀ q ∈ locs, xB X ≤ q.base) {E h t : Nat} {n : Int} {mc ms : Nat} {q : Addr} {ce : Cell} {rest : List Value} (hc : cells ≤ mc) (hs : slots ≤ ms)
    (hf : am_find mi pc E (am_hh mi) = some (h, t)) (hn : am_hret mi h = some n) (hE1 : 10 ≤ E) (hE2 : E < 13) (hce : H[q]? = some ce) (hcv : ce.vm = .none) (hcl : s.vm.findClass (am_cn E) = some ce.cls) :
    vx_W p l e R s m args below meth c H locs cells slots (vx_MQ below (am_Qc X (.inl (some (aI n))) g M) (am_XC X (.inl (some (aI n))) g M) args s mc ms (xU X)) (F0 m pc lsM rest) q := by
  have hw := fun w h => am_wd (w := w) hF h
  have hW : (xS X).WarmedH s.vm := hF.2.2.2.2.2.2.2.2.2.2.1
  obtain ⟨hx, hb, hml, hown, hts, hrt, hlk, htab, -⟩ := hF
  obtain ⟨pre, a, b, suf, z1, z2, p1, p2, p3, p4, p5, p6⟩ := am_find_spec hf
  obtain ⟨-, w1, w2⟩ := am_cl_ok p5
  dsimp only at w1
  rw [show am_cname E = am_cn E by unfold am_cname; rw [if_neg (by omega), if_neg (by omega), if_neg (by omega)]] at w1
  have hcast : (Cond.castable (am_cn E) (am_cn E)).before args s = true := by
    have h0 : Cond.castable (am_cn E) (am_cn E) ∈ lw_tbl := by
      rcases (show E = 10 ∨ E = 11 ∨ E = 12 by omega) with rfl | rfl | rfl
      · exact am_w_k10
      · exact am_w_k11
      · exact am_w_k12
    exact va_Nw.use rfl (va_Nw.warmC hW (hG.2.2.2.2.2.2.2.2.2.1 _ h0 rfl))
  refine vx_catch hown (tableOf pre) ⟨a, b, h, t⟩ (tableOf suf) (by rw [htab, p1]; unfold tableOf; rw [List.map_append]; rfl) (fun z hz => ?_) ((am_cov _ _).mpr ⟨p2, p3⟩) p4 (hw _ w1) hcast hce hcv hcl ?_
  · unfold tableOf at hz
    obtain ⟨y, hy, rfl⟩ := List.mem_map.mp hz
    rcases p6 y hy with h9 | ⟨h9, T, y1, y2, e1, e2, e3⟩
    · refine Or.inl ?_
      cases hcc : covers ⟨y.1, y.2.1, y.2.2.1, y.2.2.2⟩ pc with
      | false => rfl
      | true => exact absurd ((am_cov _ _).mp hcc) h9
    · obtain ⟨-, v1, v2⟩ := am_cl_ok e1
      dsimp only at v1 v2
      rw [show am_cname T = am_cn T by unfold am_cname; rw [if_neg (by omega), if_neg (by omega), if_neg (by omega)]] at v1
      exact Or.inr ⟨h9, am_cn T, hw _ v1, va_Nc.moved hW.alike (hG.2.2.2.2.2.2.2.1 E T hE1 hE2 e2.1 e2.2 (Ne.symm e3))⟩
  · show W p l e R s m args below meth c H locs cells slots _ (F0 m h lsM [.ref q])
    refine vx_ret ?_
    unfold am_hret at hn
    split at hn
    · next k i1 =>
      split at hn
      · next n2 i2 =>
        split at hn
        · next hd =>
          cases hn
          obtain ⟨d1, d2, d3⟩ := hd
          refine lv_astore_n hx hb (am_dec i1 rfl) rfl hl d2 rfl (fun ls2 h2 => ?_)
          refine lv_iconst hx hb (am_dec i2 rfl) rfl ?_
          refine W.widen (k := mc) (n := ms) hc hs ?_
          exact W.iret hx hb (hrt.trans d3) (fun t ht _ => ⟨_, rfl, rfl, by rw [ht]; exact hR⟩) hq (am_dec d1 rfl) hlk
        · cases hn
      · cases hn
    · next k i1 =>
      split at hn
      · next n2 i2 =>
        split at hn
        · next hd =>
          cases hn
          obtain ⟨d1, d2, d3⟩ := hd
          refine lv_astore hx hb (am_dec i1 rfl) hl d2 rfl (fun ls2 h2 => ?_)
          refine lv_iconst hx hb (am_dec i2 rfl) rfl ?_
          refine W.widen (k := mc) (n := ms) hc hs ?_
          exact W.iret hx hb (hrt.trans d3) (fun t ht _ => ⟨_, rfl, rfl, by rw [ht]; exact hR⟩) hq (am_dec d1 rfl) hlk
        · cases hn
      · cases hn
    · cases hn
end SIM
