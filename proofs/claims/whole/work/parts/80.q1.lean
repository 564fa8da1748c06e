/-! THE LAW'S CASES, 1 (by program, wip/gen) -/
/-! THE LAW'S CASES -/
def KK (L n : Nat) (i b : Int) (xs : Nat → Int32) (Q : AO → AG → AM → Prop) : Prop := ∀ (g1 : AG) (n1 : Nat) (M1 : AM) (w6 w7 w8 : AV), HD L n1 g1 → n1 ≤ n + 1 → Inv xs (b + 7) M1 → Ok 10 0 3329 [aR 1, aR 100, aR 448, aR 464, aR 465, aI i, w6, w7, w8] [] g1 M1 Q
theorem scr_rg {M : AM} {xs : Nat → Int32} (h : ∀ c : Nat, c < 100 → M c = am_M0 xs c) (y : Int) : -2147483648 ≤ M 1 y ∧ M 1 y < 2147483648 := by
  rw [h 1 (by decide)]
  exact i32_rg _
theorem ok_lcmpe {d mi pc pc' : Nat} {ls st : List AV} {g : AG} {M : AM} {Q : AO → AG → AM → Prop} {x y : Int} (e : x = y) (hi : am_ins mi pc = some .lcmp) (hp : pc + 1 = pc') (k : Ok d mi pc' ls (aI 0 :: st) g M Q) : Ok d mi pc ls (aL y :: aL x :: st) g M Q := by
  subst e
  exact ok_lcmp0 hi hp k
theorem o0 : am_oc 0 = 13 := by decide +kernel
theorem m13_191 : am_mlk 13 191 0 90 = true := by decide +kernel
theorem na90 : am_na 90 = 0 := by decide +kernel
theorem nl90 : am_nL 90 = 1 := by decide +kernel
theorem pd90 : ∀ a0 : AV, am_pad 90 [a0] = [a0] := by intros; unfold am_pad; rw [nl90]; rfl
theorem ln90 : 1 ≤ am_nL 90 := by rw [nl90]; decide
theorem o90 : am_oc 90 = 0 := by decide +kernel
theorem gi0_111 : am_gfi 0 111 0 3 = true := by decide +kernel
theorem rt90 : am_rt 90 = some .int := by decide +kernel
theorem m13_194 : am_mlk 13 194 0 160 = true := by decide +kernel
theorem na160 : am_na 160 = 0 := by decide +kernel
theorem nl160 : am_nL 160 = 1 := by decide +kernel
theorem pd160 : ∀ a0 : AV, am_pad 160 [a0] = [a0] := by intros; unfold am_pad; rw [nl160]; rfl
theorem ln160 : 1 ≤ am_nL 160 := by rw [nl160]; decide
theorem o160 : am_oc 160 = 9 := by decide +kernel
theorem pi160_63 : am_pfi 160 9 63 9 0 = true := by decide +kernel
theorem gi9_77 : am_gfi 9 77 9 14 = true := by decide +kernel
theorem rt160 : am_rt 160 = some .int := by decide +kernel
theorem m13_195 : am_mlk 13 195 0 91 = true := by decide +kernel
theorem na91 : am_na 91 = 0 := by decide +kernel
theorem nl91 : am_nL 91 = 1 := by decide +kernel
theorem pd91 : ∀ a0 : AV, am_pad 91 [a0] = [a0] := by intros; unfold am_pad; rw [nl91]; rfl
theorem ln91 : 1 ≤ am_nL 91 := by rw [nl91]; decide
theorem o91 : am_oc 91 = 0 := by decide +kernel
theorem gi0_22 : am_gfi 0 22 0 4 = true := by decide +kernel
theorem rt91 : am_rt 91 = some .int := by decide +kernel
theorem m13_198 : am_mlk 13 198 0 161 = true := by decide +kernel
theorem na161 : am_na 161 = 0 := by decide +kernel
theorem nl161 : am_nL 161 = 1 := by decide +kernel
theorem pd161 : ∀ a0 : AV, am_pad 161 [a0] = [a0] := by intros; unfold am_pad; rw [nl161]; rfl
theorem ln161 : 1 ≤ am_nL 161 := by rw [nl161]; decide
theorem o161 : am_oc 161 = 9 := by decide +kernel
theorem pi161_63 : am_pfi 161 9 63 9 0 = true := by decide +kernel
theorem gi9_35 : am_gfi 9 35 9 15 = true := by decide +kernel
theorem rt161 : am_rt 161 = some .int := by decide +kernel
theorem m13_199 : am_mlk 13 199 0 92 = true := by decide +kernel
theorem na92 : am_na 92 = 0 := by decide +kernel
theorem nl92 : am_nL 92 = 1 := by decide +kernel
theorem pd92 : ∀ a0 : AV, am_pad 92 [a0] = [a0] := by intros; unfold am_pad; rw [nl92]; rfl
theorem ln92 : 1 ≤ am_nL 92 := by rw [nl92]; decide
theorem o92 : am_oc 92 = 0 := by decide +kernel
theorem gi0_26 : am_gfi 0 26 0 5 = true := by decide +kernel
theorem rt92 : am_rt 92 = some .int := by decide +kernel
theorem m13_202 : am_mlk 13 202 0 162 = true := by decide +kernel
theorem na162 : am_na 162 = 0 := by decide +kernel
theorem nl162 : am_nL 162 = 1 := by decide +kernel
theorem pd162 : ∀ a0 : AV, am_pad 162 [a0] = [a0] := by intros; unfold am_pad; rw [nl162]; rfl
theorem ln162 : 1 ≤ am_nL 162 := by rw [nl162]; decide
theorem o162 : am_oc 162 = 9 := by decide +kernel
theorem pi162_63 : am_pfi 162 9 63 9 0 = true := by decide +kernel
theorem gi9_39 : am_gfi 9 39 9 16 = true := by decide +kernel
theorem rt162 : am_rt 162 = some .int := by decide +kernel
theorem m13_203 : am_mlk 13 203 0 93 = true := by decide +kernel
theorem na93 : am_na 93 = 0 := by decide +kernel
theorem nl93 : am_nL 93 = 1 := by decide +kernel
theorem pd93 : ∀ a0 : AV, am_pad 93 [a0] = [a0] := by intros; unfold am_pad; rw [nl93]; rfl
theorem ln93 : 1 ≤ am_nL 93 := by rw [nl93]; decide
theorem o93 : am_oc 93 = 0 := by decide +kernel
theorem gi0_90 : am_gfi 0 90 0 1 = true := by decide +kernel
theorem rt93 : am_rt 93 = some .int := by decide +kernel
theorem m13_206 : am_mlk 13 206 0 159 = true := by decide +kernel
theorem na159 : am_na 159 = 0 := by decide +kernel
theorem nl159 : am_nL 159 = 1 := by decide +kernel
theorem pd159 : ∀ a0 : AV, am_pad 159 [a0] = [a0] := by intros; unfold am_pad; rw [nl159]; rfl
theorem ln159 : 1 ≤ am_nL 159 := by rw [nl159]; decide
theorem o159 : am_oc 159 = 9 := by decide +kernel
theorem pi159_63 : am_pfi 159 9 63 9 0 = true := by decide +kernel
theorem gi9_74 : am_gfi 9 74 9 13 = true := by decide +kernel
theorem rt159 : am_rt 159 = some .int := by decide +kernel
theorem m13_227 : am_mlk 13 227 1 286 = true := by decide +kernel
theorem na286 : am_na 286 = 3 := by decide +kernel
theorem nl286 : am_nL 286 = 4 := by decide +kernel
theorem pd286 : ∀ a0 a1 a2 : AV, am_pad 286 [a0, a1, a2] = [a0, a1, a2, aU] := by intros; unfold am_pad; rw [nl286]; rfl
theorem ln286 : 3 ≤ am_nL 286 := by rw [nl286]; decide
theorem o286 : am_oc 286 = 13 := by decide +kernel
theorem m13_39 : am_mlk 13 39 0 110 = true := by decide +kernel
theorem na110 : am_na 110 = 1 := by decide +kernel
theorem nl110 : am_nL 110 = 2 := by decide +kernel
theorem pd110 : ∀ a0 a1 : AV, am_pad 110 [a0, a1] = [a0, a1] := by intros; unfold am_pad; rw [nl110]; rfl
theorem ln110 : 2 ≤ am_nL 110 := by rw [nl110]; decide
theorem o110 : am_oc 110 = 0 := by decide +kernel
theorem m0_172 : am_mlk 0 172 1 104 = true := by decide +kernel
theorem na104 : am_na 104 = 3 := by decide +kernel
theorem nl104 : am_nL 104 = 3 := by decide +kernel
theorem pd104 : ∀ a0 a1 a2 : AV, am_pad 104 [a0, a1, a2] = [a0, a1, a2] := by intros; unfold am_pad; rw [nl104]; rfl
theorem ln104 : 3 ≤ am_nL 104 := by rw [nl104]; decide
theorem o104 : am_oc 104 = 0 := by decide +kernel
theorem th104_10 : am_thk 104 10 11 = true := by decide +kernel
theorem hh110 : am_hh 110 = [] := rfl
theorem hn286 : am_hh 286 ≠ [] := by decide +kernel
theorem hf286_4_11 : am_find 286 4 11 (am_hh 286) = some (15, 15) := by decide +kernel
theorem hr286_15 : am_hret 286 15 = some 2 := by decide +kernel
theorem m13_229 : am_mlk 13 229 0 203 = true := by decide +kernel
theorem na203 : am_na 203 = 1 := by decide +kernel
theorem nl203 : am_nL 203 = 2 := by decide +kernel
theorem pd203 : ∀ a0 a1 : AV, am_pad 203 [a0, a1] = [a0, a1] := by intros; unfold am_pad; rw [nl203]; rfl
theorem ln203 : 2 ≤ am_nL 203 := by rw [nl203]; decide
theorem o203 : am_oc 203 = 9 := by decide +kernel
theorem pi165_63 : am_pfi 165 9 63 9 0 = true := by decide +kernel
theorem rt203 : am_rt 203 = some .int := by decide +kernel
theorem m13_188 : am_mlk 13 188 0 157 = true := by decide +kernel
theorem na157 : am_na 157 = 0 := by decide +kernel
theorem nl157 : am_nL 157 = 1 := by decide +kernel
theorem pd157 : ∀ a0 : AV, am_pad 157 [a0] = [a0] := by intros; unfold am_pad; rw [nl157]; rfl
theorem ln157 : 1 ≤ am_nL 157 := by rw [nl157]; decide
theorem o157 : am_oc 157 = 9 := by decide +kernel
theorem rt157 : am_rt 157 = some .int := by decide +kernel
theorem rt104 : am_rt 104 = none := by decide +kernel
theorem gr0_197 : am_gfr 0 197 5 1 = true := by decide +kernel
theorem rt110 : am_rt 110 = some .int := by decide +kernel
theorem rt286 : am_rt 286 = some .int := by decide +kernel
theorem th99_7 : am_thk 99 7 12 = true := by decide +kernel
theorem hf286_4_12 : am_find 286 4 12 (am_hh 286) = some (12, 20) := by decide +kernel
theorem hr286_12 : am_hret 286 12 = some 1 := by decide +kernel
theorem m13_230 : am_mlk 13 230 1 287 = true := by decide +kernel
theorem na287 : am_na 287 = 2 := by decide +kernel
theorem nl287 : am_nL 287 = 3 := by decide +kernel
theorem pd287 : ∀ a0 a1 : AV, am_pad 287 [a0, a1] = [a0, a1, aU] := by intros; unfold am_pad; rw [nl287]; rfl
theorem ln287 : 2 ≤ am_nL 287 := by rw [nl287]; decide
theorem o287 : am_oc 287 = 13 := by decide +kernel
theorem m13_42 : am_mlk 13 42 0 111 = true := by decide +kernel
theorem na111 : am_na 111 = 0 := by decide +kernel
theorem nl111 : am_nL 111 = 1 := by decide +kernel
theorem pd111 : ∀ a0 : AV, am_pad 111 [a0] = [a0] := by intros; unfold am_pad; rw [nl111]; rfl
theorem ln111 : 1 ≤ am_nL 111 := by rw [nl111]; decide
theorem o111 : am_oc 111 = 0 := by decide +kernel
theorem rt111 : am_rt 111 = some .int := by decide +kernel
theorem rt287 : am_rt 287 = some .int := by decide +kernel
theorem m13_233 : am_mlk 13 233 0 204 = true := by decide +kernel
theorem na204 : am_na 204 = 0 := by decide +kernel
theorem nl204 : am_nL 204 = 1 := by decide +kernel
theorem pd204 : ∀ a0 : AV, am_pad 204 [a0] = [a0] := by intros; unfold am_pad; rw [nl204]; rfl
theorem ln204 : 1 ≤ am_nL 204 := by rw [nl204]; decide
theorem o204 : am_oc 204 = 9 := by decide +kernel
theorem rt204 : am_rt 204 = some .int := by decide +kernel
theorem hh111 : am_hh 111 = [] := rfl
theorem hn287 : am_hh 287 ≠ [] := by decide +kernel
theorem hf287_3_12 : am_find 287 3 12 (am_hh 287) = some (11, 20) := by decide +kernel
theorem hr287_11 : am_hret 287 11 = some 1 := by decide +kernel
theorem m13_221 : am_mlk 13 221 1 284 = true := by decide +kernel
theorem na284 : am_na 284 = 3 := by decide +kernel
theorem nl284 : am_nL 284 = 4 := by decide +kernel
theorem pd284 : ∀ a0 a1 a2 : AV, am_pad 284 [a0, a1, a2] = [a0, a1, a2, aU] := by intros; unfold am_pad; rw [nl284]; rfl
theorem ln284 : 3 ≤ am_nL 284 := by rw [nl284]; decide
theorem o284 : am_oc 284 = 13 := by decide +kernel
theorem m13_33 : am_mlk 13 33 0 107 = true := by decide +kernel
theorem na107 : am_na 107 = 1 := by decide +kernel
theorem nl107 : am_nL 107 = 2 := by decide +kernel
theorem pd107 : ∀ a0 a1 : AV, am_pad 107 [a0, a1] = [a0, a1] := by intros; unfold am_pad; rw [nl107]; rfl
theorem ln107 : 2 ≤ am_nL 107 := by rw [nl107]; decide
theorem o107 : am_oc 107 = 0 := by decide +kernel
theorem m0_186 : am_mlk 0 186 0 108 = true := by decide +kernel
theorem na108 : am_na 108 = 1 := by decide +kernel
theorem nl108 : am_nL 108 = 2 := by decide +kernel
theorem pd108 : ∀ a0 a1 : AV, am_pad 108 [a0, a1] = [a0, a1] := by intros; unfold am_pad; rw [nl108]; rfl
theorem ln108 : 2 ≤ am_nL 108 := by rw [nl108]; decide
theorem o108 : am_oc 108 = 0 := by decide +kernel
theorem th108_15 : am_thk 108 15 10 = true := by decide +kernel
theorem hh107 : am_hh 107 = [] := rfl
theorem hn284 : am_hh 284 ≠ [] := by decide +kernel
theorem hf284_4_10 : am_find 284 4 10 (am_hh 284) = some (15, 13) := by decide +kernel
theorem hr284_15 : am_hret 284 15 = some 2 := by decide +kernel
theorem m13_223 : am_mlk 13 223 0 200 = true := by decide +kernel
theorem na200 : am_na 200 = 1 := by decide +kernel
theorem nl200 : am_nL 200 = 2 := by decide +kernel
theorem pd200 : ∀ a0 a1 : AV, am_pad 200 [a0, a1] = [a0, a1] := by intros; unfold am_pad; rw [nl200]; rfl
theorem ln200 : 2 ≤ am_nL 200 := by rw [nl200]; decide
theorem o200 : am_oc 200 = 9 := by decide +kernel
theorem m9_223 : am_mlk 9 223 0 201 = true := by decide +kernel
theorem na201 : am_na 201 = 1 := by decide +kernel
theorem nl201 : am_nL 201 = 2 := by decide +kernel
theorem pd201 : ∀ a0 a1 : AV, am_pad 201 [a0, a1] = [a0, a1] := by intros; unfold am_pad; rw [nl201]; rfl
theorem ln201 : 2 ≤ am_nL 201 := by rw [nl201]; decide
theorem o201 : am_oc 201 = 9 := by decide +kernel
theorem rt201 : am_rt 201 = some .boolean := by decide +kernel
theorem rt200 : am_rt 200 = some .int := by decide +kernel
theorem rt108 : am_rt 108 = none := by decide +kernel
theorem gr0_189 : am_gfr 0 189 4 4 = true := by decide +kernel
theorem rt107 : am_rt 107 = some .int := by decide +kernel
theorem rt284 : am_rt 284 = some .int := by decide +kernel
theorem hf284_4_12 : am_find 284 4 12 (am_hh 284) = some (12, 20) := by decide +kernel
theorem hr284_12 : am_hret 284 12 = some 1 := by decide +kernel
theorem m13_214 : am_mlk 13 214 1 282 = true := by decide +kernel
theorem na282 : am_na 282 = 4 := by decide +kernel
theorem nl282 : am_nL 282 = 5 := by decide +kernel
theorem pd282 : ∀ a0 a1 a2 a3 : AV, am_pad 282 [a0, a1, a2, a3] = [a0, a1, a2, a3, aU] := by intros; unfold am_pad; rw [nl282]; rfl
theorem ln282 : 4 ≤ am_nL 282 := by rw [nl282]; decide
theorem o282 : am_oc 282 = 13 := by decide +kernel
theorem m13_26 : am_mlk 13 26 0 102 = true := by decide +kernel
theorem na102 : am_na 102 = 2 := by decide +kernel
theorem nl102 : am_nL 102 = 3 := by decide +kernel
theorem pd102 : ∀ a0 a1 a2 : AV, am_pad 102 [a0, a1, a2] = [a0, a1, a2] := by intros; unfold am_pad; rw [nl102]; rfl
theorem ln102 : 3 ≤ am_nL 102 := by rw [nl102]; decide
theorem o102 : am_oc 102 = 0 := by decide +kernel
theorem m0_169 : am_mlk 0 169 0 103 = true := by decide +kernel
theorem na103 : am_na 103 = 1 := by decide +kernel
theorem nl103 : am_nL 103 = 2 := by decide +kernel
theorem pd103 : ∀ a0 a1 : AV, am_pad 103 [a0, a1] = [a0, a1] := by intros; unfold am_pad; rw [nl103]; rfl
theorem ln103 : 2 ≤ am_nL 103 := by rw [nl103]; decide
theorem o103 : am_oc 103 = 0 := by decide +kernel
theorem th103_15 : am_thk 103 15 10 = true := by decide +kernel
theorem hh102 : am_hh 102 = [] := rfl
theorem hn282 : am_hh 282 ≠ [] := by decide +kernel
theorem hf282_5_10 : am_find 282 5 10 (am_hh 282) = some (17, 13) := by decide +kernel
theorem hr282_17 : am_hret 282 17 = some 2 := by decide +kernel
theorem m13_217 : am_mlk 13 217 0 195 = true := by decide +kernel
theorem na195 : am_na 195 = 2 := by decide +kernel
theorem nl195 : am_nL 195 = 3 := by decide +kernel
theorem pd195 : ∀ a0 a1 a2 : AV, am_pad 195 [a0, a1, a2] = [a0, a1, a2] := by intros; unfold am_pad; rw [nl195]; rfl
theorem ln195 : 3 ≤ am_nL 195 := by rw [nl195]; decide
theorem o195 : am_oc 195 = 9 := by decide +kernel
theorem m9_241 : am_mlk 9 241 0 196 = true := by decide +kernel
theorem na196 : am_na 196 = 1 := by decide +kernel
theorem nl196 : am_nL 196 = 2 := by decide +kernel
theorem pd196 : ∀ a0 a1 : AV, am_pad 196 [a0, a1] = [a0, a1] := by intros; unfold am_pad; rw [nl196]; rfl
theorem ln196 : 2 ≤ am_nL 196 := by rw [nl196]; decide
theorem o196 : am_oc 196 = 9 := by decide +kernel
theorem m9_220 : am_mlk 9 220 0 197 = true := by decide +kernel
theorem na197 : am_na 197 = 1 := by decide +kernel
theorem nl197 : am_nL 197 = 2 := by decide +kernel
theorem pd197 : ∀ a0 a1 : AV, am_pad 197 [a0, a1] = [a0, a1] := by intros; unfold am_pad; rw [nl197]; rfl
theorem ln197 : 2 ≤ am_nL 197 := by rw [nl197]; decide
theorem o197 : am_oc 197 = 9 := by decide +kernel
theorem rt197 : am_rt 197 = some .boolean := by decide +kernel
theorem rt196 : am_rt 196 = some .boolean := by decide +kernel
theorem rt195 : am_rt 195 = some .int := by decide +kernel
theorem rt103 : am_rt 103 = none := by decide +kernel
theorem hf282_5_11 : am_find 282 5 11 (am_hh 282) = some (21, 15) := by decide +kernel
theorem hr282_21 : am_hret 282 21 = some 3 := by decide +kernel
theorem rt102 : am_rt 102 = some .int := by decide +kernel
theorem rt282 : am_rt 282 = some .int := by decide +kernel
theorem hf282_5_12 : am_find 282 5 12 (am_hh 282) = some (13, 20) := by decide +kernel
theorem hr282_13 : am_hret 282 13 = some 1 := by decide +kernel
theorem m13_218 : am_mlk 13 218 1 283 = true := by decide +kernel
theorem na283 : am_na 283 = 4 := by decide +kernel
theorem nl283 : am_nL 283 = 5 := by decide +kernel
theorem pd283 : ∀ a0 a1 a2 a3 : AV, am_pad 283 [a0, a1, a2, a3] = [a0, a1, a2, a3, aU] := by intros; unfold am_pad; rw [nl283]; rfl
theorem ln283 : 4 ≤ am_nL 283 := by rw [nl283]; decide
theorem o283 : am_oc 283 = 13 := by decide +kernel
theorem m13_30 : am_mlk 13 30 0 105 = true := by decide +kernel
theorem na105 : am_na 105 = 2 := by decide +kernel
theorem nl105 : am_nL 105 = 3 := by decide +kernel
theorem pd105 : ∀ a0 a1 a2 : AV, am_pad 105 [a0, a1, a2] = [a0, a1, a2] := by intros; unfold am_pad; rw [nl105]; rfl
theorem ln105 : 3 ≤ am_nL 105 := by rw [nl105]; decide
theorem o105 : am_oc 105 = 0 := by decide +kernel
theorem th106_15 : am_thk 106 15 10 = true := by decide +kernel
theorem hh105 : am_hh 105 = [] := rfl
theorem hn283 : am_hh 283 ≠ [] := by decide +kernel
theorem hf283_5_10 : am_find 283 5 10 (am_hh 283) = some (17, 13) := by decide +kernel
theorem hr283_17 : am_hret 283 17 = some 2 := by decide +kernel
theorem m13_220 : am_mlk 13 220 0 198 = true := by decide +kernel
theorem na198 : am_na 198 = 2 := by decide +kernel
theorem nl198 : am_nL 198 = 3 := by decide +kernel
theorem pd198 : ∀ a0 a1 a2 : AV, am_pad 198 [a0, a1, a2] = [a0, a1, a2] := by intros; unfold am_pad; rw [nl198]; rfl
theorem ln198 : 3 ≤ am_nL 198 := by rw [nl198]; decide
theorem o198 : am_oc 198 = 9 := by decide +kernel
theorem rt198 : am_rt 198 = some .int := by decide +kernel
theorem hf283_5_11 : am_find 283 5 11 (am_hh 283) = some (21, 15) := by decide +kernel
theorem hr283_21 : am_hret 283 21 = some 3 := by decide +kernel
theorem rt105 : am_rt 105 = some .int := by decide +kernel
theorem rt283 : am_rt 283 = some .int := by decide +kernel
theorem hf283_5_12 : am_find 283 5 12 (am_hh 283) = some (13, 20) := by decide +kernel
theorem hr283_13 : am_hret 283 13 = some 1 := by decide +kernel
theorem m13_210 : am_mlk 13 210 1 281 = true := by decide +kernel
theorem na281 : am_na 281 = 4 := by decide +kernel
theorem nl281 : am_nL 281 = 5 := by decide +kernel
theorem pd281 : ∀ a0 a1 a2 a3 : AV, am_pad 281 [a0, a1, a2, a3] = [a0, a1, a2, a3, aU] := by intros; unfold am_pad; rw [nl281]; rfl
theorem ln281 : 4 ≤ am_nL 281 := by rw [nl281]; decide
theorem o281 : am_oc 281 = 13 := by decide +kernel
theorem m13_22 : am_mlk 13 22 0 100 = true := by decide +kernel
theorem na100 : am_na 100 = 2 := by decide +kernel
theorem nl100 : am_nL 100 = 3 := by decide +kernel
theorem pd100 : ∀ a0 a1 a2 : AV, am_pad 100 [a0, a1, a2] = [a0, a1, a2] := by intros; unfold am_pad; rw [nl100]; rfl
theorem ln100 : 3 ≤ am_nL 100 := by rw [nl100]; decide
theorem o100 : am_oc 100 = 0 := by decide +kernel
theorem m0_158 : am_mlk 0 158 0 101 = true := by decide +kernel
theorem na101 : am_na 101 = 1 := by decide +kernel
theorem nl101 : am_nL 101 = 2 := by decide +kernel
theorem pd101 : ∀ a0 a1 : AV, am_pad 101 [a0, a1] = [a0, a1] := by intros; unfold am_pad; rw [nl101]; rfl
theorem ln101 : 2 ≤ am_nL 101 := by rw [nl101]; decide
theorem o101 : am_oc 101 = 0 := by decide +kernel
theorem th101_15 : am_thk 101 15 10 = true := by decide +kernel
theorem hh100 : am_hh 100 = [] := rfl
theorem hn281 : am_hh 281 ≠ [] := by decide +kernel
theorem hf281_5_10 : am_find 281 5 10 (am_hh 281) = some (17, 13) := by decide +kernel
theorem hr281_17 : am_hret 281 17 = some 2 := by decide +kernel
theorem m13_213 : am_mlk 13 213 0 193 = true := by decide +kernel
theorem na193 : am_na 193 = 2 := by decide +kernel
theorem nl193 : am_nL 193 = 3 := by decide +kernel
theorem pd193 : ∀ a0 a1 a2 : AV, am_pad 193 [a0, a1, a2] = [a0, a1, a2] := by intros; unfold am_pad; rw [nl193]; rfl
theorem ln193 : 3 ≤ am_nL 193 := by rw [nl193]; decide
theorem o193 : am_oc 193 = 9 := by decide +kernel
theorem rt193 : am_rt 193 = some .int := by decide +kernel
theorem gi0_135 : am_gfi 0 135 4 0 = true := by decide +kernel
theorem rt101 : am_rt 101 = none := by decide +kernel
theorem gr0_166 : am_gfr 0 166 4 1 = true := by decide +kernel
theorem rt100 : am_rt 100 = some .int := by decide +kernel
theorem rt281 : am_rt 281 = some .int := by decide +kernel
theorem gr0_162 : am_gfr 0 162 4 2 = true := by decide +kernel
theorem hf281_5_12 : am_find 281 5 12 (am_hh 281) = some (13, 20) := by decide +kernel
theorem hr281_13 : am_hret 281 13 = some 1 := by decide +kernel
theorem m13_224 : am_mlk 13 224 1 285 = true := by decide +kernel
theorem na285 : am_na 285 = 4 := by decide +kernel
theorem nl285 : am_nL 285 = 5 := by decide +kernel
theorem pd285 : ∀ a0 a1 a2 a3 : AV, am_pad 285 [a0, a1, a2, a3] = [a0, a1, a2, a3, aU] := by intros; unfold am_pad; rw [nl285]; rfl
theorem ln285 : 4 ≤ am_nL 285 := by rw [nl285]; decide
theorem o285 : am_oc 285 = 13 := by decide +kernel
theorem m13_36 : am_mlk 13 36 0 109 = true := by decide +kernel
theorem na109 : am_na 109 = 2 := by decide +kernel
theorem nl109 : am_nL 109 = 3 := by decide +kernel
theorem pd109 : ∀ a0 a1 a2 : AV, am_pad 109 [a0, a1, a2] = [a0, a1, a2] := by intros; unfold am_pad; rw [nl109]; rfl
theorem ln109 : 3 ≤ am_nL 109 := by rw [nl109]; decide
theorem o109 : am_oc 109 = 0 := by decide +kernel
theorem hh109 : am_hh 109 = [] := rfl
theorem hn285 : am_hh 285 ≠ [] := by decide +kernel
theorem hf285_5_10 : am_find 285 5 10 (am_hh 285) = some (17, 13) := by decide +kernel
theorem hr285_17 : am_hret 285 17 = some 2 := by decide +kernel
theorem m13_226 : am_mlk 13 226 0 202 = true := by decide +kernel
theorem na202 : am_na 202 = 2 := by decide +kernel
theorem nl202 : am_nL 202 = 3 := by decide +kernel
theorem pd202 : ∀ a0 a1 a2 : AV, am_pad 202 [a0, a1, a2] = [a0, a1, a2] := by intros; unfold am_pad; rw [nl202]; rfl
theorem ln202 : 3 ≤ am_nL 202 := by rw [nl202]; decide
theorem o202 : am_oc 202 = 9 := by decide +kernel
theorem rt202 : am_rt 202 = some .int := by decide +kernel
theorem th109_26 : am_thk 109 26 10 = true := by decide +kernel
theorem gr0_194 : am_gfr 0 194 4 5 = true := by decide +kernel
theorem rt109 : am_rt 109 = some .int := by decide +kernel
theorem rt285 : am_rt 285 = some .int := by decide +kernel
theorem hf285_5_12 : am_find 285 5 12 (am_hh 285) = some (13, 20) := by decide +kernel
theorem hr285_13 : am_hret 285 13 = some 1 := by decide +kernel
theorem m13_300 : am_mlk 13 300 1 310 = true := by decide +kernel
theorem na310 : am_na 310 = 3 := by decide +kernel
theorem nl310 : am_nL 310 = 4 := by decide +kernel
theorem pd310 : ∀ a0 a1 a2 : AV, am_pad 310 [a0, a1, a2] = [a0, a1, a2, aU] := by intros; unfold am_pad; rw [nl310]; rfl
theorem ln310 : 3 ≤ am_nL 310 := by rw [nl310]; decide
theorem o310 : am_oc 310 = 13 := by decide +kernel
theorem m13_113 : am_mlk 13 113 0 135 = true := by decide +kernel
theorem na135 : am_na 135 = 1 := by decide +kernel
theorem nl135 : am_nL 135 = 2 := by decide +kernel
theorem pd135 : ∀ a0 a1 : AV, am_pad 135 [a0, a1] = [a0, a1] := by intros; unfold am_pad; rw [nl135]; rfl
theorem ln135 : 2 ≤ am_nL 135 := by rw [nl135]; decide
theorem o135 : am_oc 135 = 0 := by decide +kernel
theorem hh135 : am_hh 135 = [] := rfl
theorem hn310 : am_hh 310 ≠ [] := by decide +kernel
theorem hf310_4_11 : am_find 310 4 11 (am_hh 310) = some (15, 15) := by decide +kernel
theorem hr310_15 : am_hret 310 15 = some 2 := by decide +kernel
theorem m13_302 : am_mlk 13 302 0 254 = true := by decide +kernel
theorem na254 : am_na 254 = 1 := by decide +kernel
theorem nl254 : am_nL 254 = 2 := by decide +kernel
theorem pd254 : ∀ a0 a1 : AV, am_pad 254 [a0, a1] = [a0, a1] := by intros; unfold am_pad; rw [nl254]; rfl
theorem ln254 : 2 ≤ am_nL 254 := by rw [nl254]; decide
theorem o254 : am_oc 254 = 9 := by decide +kernel
theorem rt254 : am_rt 254 = some .int := by decide +kernel
theorem gr0_265 : am_gfr 0 265 5 9 = true := by decide +kernel
theorem rt135 : am_rt 135 = some .int := by decide +kernel
theorem rt310 : am_rt 310 = some .int := by decide +kernel
theorem hf310_4_12 : am_find 310 4 12 (am_hh 310) = some (12, 20) := by decide +kernel
theorem hr310_12 : am_hret 310 12 = some 1 := by decide +kernel
theorem c2_0 {L n : Nat} {g : AG} {M : AM} {xs : Nat → Int32} {b i : Int} {w6 w7 w8 : AV} {Q : AO → AG → AM → Prop} (hD : HD L n g) (hI : Inv xs b M) (hi : 0 ≤ i ∧ i + 6 ≤ L) (hb : 0 ≤ b ∧ b ≤ 900000) (hl : M 100 6 = 0) (K : KK L n i b xs Q) :
    Ok 10 0 417 [aR 1, aR 100, aR 448, aR 464, aR 465, aI i, w6, w7, w8] [] g M Q := by
  have hI0 := hI
  obtain ⟨hA, hld, hl01, q, hc, ⟨nx, sz, hH, hsz⟩, hS⟩ := hI0
  have hH0 := hH
  obtain ⟨⟨hn1, hn0⟩, ⟨hz2, hz0⟩, h10, hHj⟩ := hH0
  obtain ⟨hw0, ⟨bu, by_, hb1, hb13, hbu, hZ, hU⟩, he3, he4, he5, hId, tx, hT, hUt, htl, htr⟩ := hA
  have hS100 := HD_y hD
  have hS448 := HD_o hD
  refine ok_aloadn (pc' := 418) i0_417 rfl rfl <| ok_cc i0_418 rfl (cl_v o0 m13_191 na90 rfl rfl (bt rfl) (bt rfl) rfl (by rw [ShYard_k0 hS100, o90])) ln90 (pd90 (aR 100)) <| ok_aloadn (pc' := 1) i90_0 rfl rfl <| ok_getfi (v := (M 100 3)) (pc' := 4) i90_1 o90 gi0_111 (ShYard_k0 hS100) rfl rfl <| ok_ireti i90_4 rt90 <| kt_v (pc' := 421) rfl <| ok_aloadn (pc' := 422) i0_421 rfl rfl <| ok_cc i0_422 rfl (cl_v o0 m13_194 na160 rfl rfl (bt rfl) (bt rfl) rfl (by rw [ShModel_k0 hS448, o160])) ln160 (pd160 (aR 448)) <| ?_
  refine ok_aloadn (pc' := 1) i160_0 rfl rfl <| ok_iconst (pc' := 2) i160_1 rfl <| ok_putfj (kk := 0) (pc' := 5) i160_2 o160 pi160_63 (ShModel_k0 hS448) rfl rfl <| ok_aloadn (pc' := 6) i160_5 rfl rfl <| ok_getfi (v := (M 100 3)) (pc' := 9) i160_6 o160 gi9_77 (ShModel_k0 hS448) (rd_ni (by decide) he3.1) rfl <| ok_ireti i160_9 rt160 <| kt_v (pc' := 425) rfl <| ?_
  refine ok_ceq (pc1 := 3329) (pc2 := 428) i0_425 (by omega) rfl rfl (fun h501 => ?_) (fun h9 => by exfalso; omega)
  exact K _ _ _ _ _ _ hD (by omega) (Inv_mono (Inv_same hI (Same.thr Same.rfl)) (by omega))
theorem c2_1 {L n : Nat} {g : AG} {M : AM} {xs : Nat → Int32} {b i : Int} {w6 w7 w8 : AV} {Q : AO → AG → AM → Prop} (hD : HD L n g) (hI : Inv xs b M) (hi : 0 ≤ i ∧ i + 6 ≤ L) (hb : 0 ≤ b ∧ b ≤ 900000) (hl : M 100 6 = 1) (K : KK L n i b xs Q) :
    Ok 10 0 417 [aR 1, aR 100, aR 448, aR 464, aR 465, aI i, w6, w7, w8] [] g M Q := by
  have hI0 := hI
  obtain ⟨hA, hld, hl01, q, hc, ⟨nx, sz, hH, hsz⟩, hS⟩ := hI0
  have hH0 := hH
  obtain ⟨⟨hn1, hn0⟩, ⟨hz2, hz0⟩, h10, hHj⟩ := hH0
  obtain ⟨hw0, ⟨bu, by_, hb1, hb13, hbu, hZ, hU⟩, he3, he4, he5, hId, tx, hT, hUt, htl, htr⟩ := hA
  obtain ⟨s, hP, hRB, hO, hV, hQ, h40⟩ := hc hl
  have ys3 := V_3 hV
  have ys4 := V_4 hV
  have yq0 := Q_0 hQ
  have yq1 := Q_1 hQ
  have hS100 := HD_y hD
  have hS448 := HD_o hD
  refine ok_aloadn (pc' := 418) i0_417 rfl rfl <| ok_cc i0_418 rfl (cl_v o0 m13_191 na90 rfl rfl (bt rfl) (bt rfl) rfl (by rw [ShYard_k0 hS100, o90])) ln90 (pd90 (aR 100)) <| ok_aloadn (pc' := 1) i90_0 rfl rfl <| ok_getfi (v := (M 100 3)) (pc' := 4) i90_1 o90 gi0_111 (ShYard_k0 hS100) rfl rfl <| ok_ireti i90_4 rt90 <| kt_v (pc' := 421) rfl <| ok_aloadn (pc' := 422) i0_421 rfl rfl <| ok_cc i0_422 rfl (cl_v o0 m13_194 na160 rfl rfl (bt rfl) (bt rfl) rfl (by rw [ShModel_k0 hS448, o160])) ln160 (pd160 (aR 448)) <| ?_
  refine ok_aloadn (pc' := 1) i160_0 rfl rfl <| ok_iconst (pc' := 2) i160_1 rfl <| ok_putfj (kk := 0) (pc' := 5) i160_2 o160 pi160_63 (ShModel_k0 hS448) rfl rfl <| ok_aloadn (pc' := 6) i160_5 rfl rfl <| ok_getfi (v := (M 100 3)) (pc' := 9) i160_6 o160 gi9_77 (ShModel_k0 hS448) (rd_ni (by decide) he3.1) rfl <| ok_ireti i160_9 rt160 <| kt_v (pc' := 425) rfl <| ?_
  refine ok_ceq (pc1 := 3329) (pc2 := 428) i0_425 (by omega) rfl rfl (fun h501 => ?_) (fun h9 => by exfalso; omega)
  exact K _ _ _ _ _ _ hD (by omega) (Inv_mono (Inv_same hI (Same.thr Same.rfl)) (by omega))
theorem c3_0 {L n : Nat} {g : AG} {M : AM} {xs : Nat → Int32} {b i : Int} {w6 w7 w8 : AV} {Q : AO → AG → AM → Prop} (hD : HD L n g) (hI : Inv xs b M) (hi : 0 ≤ i ∧ i + 6 ≤ L) (hb : 0 ≤ b ∧ b ≤ 900000) (hl : M 100 6 = 0) (K : KK L n i b xs Q) :
    Ok 10 0 430 [aR 1, aR 100, aR 448, aR 464, aR 465, aI i, w6, w7, w8] [] g M Q := by
  have hI0 := hI
  obtain ⟨hA, hld, hl01, q, hc, ⟨nx, sz, hH, hsz⟩, hS⟩ := hI0
  have hH0 := hH
  obtain ⟨⟨hn1, hn0⟩, ⟨hz2, hz0⟩, h10, hHj⟩ := hH0
  obtain ⟨hw0, ⟨bu, by_, hb1, hb13, hbu, hZ, hU⟩, he3, he4, he5, hId, tx, hT, hUt, htl, htr⟩ := hA
  have hS100 := HD_y hD
  have hS448 := HD_o hD
  refine ok_aloadn (pc' := 431) i0_430 rfl rfl <| ok_cc i0_431 rfl (cl_v o0 m13_195 na91 rfl rfl (bt rfl) (bt rfl) rfl (by rw [ShYard_k0 hS100, o91])) ln91 (pd91 (aR 100)) <| ok_aloadn (pc' := 1) i91_0 rfl rfl <| ok_getfi (v := (M 100 4)) (pc' := 4) i91_1 o91 gi0_22 (ShYard_k0 hS100) rfl rfl <| ok_ireti i91_4 rt91 <| kt_v (pc' := 434) rfl <| ok_aloadn (pc' := 435) i0_434 rfl rfl <| ok_cc i0_435 rfl (cl_v o0 m13_198 na161 rfl rfl (bt rfl) (bt rfl) rfl (by rw [ShModel_k0 hS448, o161])) ln161 (pd161 (aR 448)) <| ?_
  refine ok_aloadn (pc' := 1) i161_0 rfl rfl <| ok_iconst (pc' := 2) i161_1 rfl <| ok_putfj (kk := 0) (pc' := 5) i161_2 o161 pi161_63 (ShModel_k0 hS448) rfl rfl <| ok_aloadn (pc' := 6) i161_5 rfl rfl <| ok_getfi (v := (M 100 4)) (pc' := 9) i161_6 o161 gi9_35 (ShModel_k0 hS448) (rd_ni (by decide) he4.1) rfl <| ok_ireti i161_9 rt161 <| kt_v (pc' := 438) rfl <| ?_
  refine ok_ceq (pc1 := 3329) (pc2 := 441) i0_438 (by omega) rfl rfl (fun h501 => ?_) (fun h9 => by exfalso; omega)
  exact K _ _ _ _ _ _ hD (by omega) (Inv_mono (Inv_same hI (Same.thr Same.rfl)) (by omega))
theorem c3_1 {L n : Nat} {g : AG} {M : AM} {xs : Nat → Int32} {b i : Int} {w6 w7 w8 : AV} {Q : AO → AG → AM → Prop} (hD : HD L n g) (hI : Inv xs b M) (hi : 0 ≤ i ∧ i + 6 ≤ L) (hb : 0 ≤ b ∧ b ≤ 900000) (hl : M 100 6 = 1) (K : KK L n i b xs Q) :
    Ok 10 0 430 [aR 1, aR 100, aR 448, aR 464, aR 465, aI i, w6, w7, w8] [] g M Q := by
  have hI0 := hI
  obtain ⟨hA, hld, hl01, q, hc, ⟨nx, sz, hH, hsz⟩, hS⟩ := hI0
  have hH0 := hH
  obtain ⟨⟨hn1, hn0⟩, ⟨hz2, hz0⟩, h10, hHj⟩ := hH0
  obtain ⟨hw0, ⟨bu, by_, hb1, hb13, hbu, hZ, hU⟩, he3, he4, he5, hId, tx, hT, hUt, htl, htr⟩ := hA
  obtain ⟨s, hP, hRB, hO, hV, hQ, h40⟩ := hc hl
  have ys3 := V_3 hV
  have ys4 := V_4 hV
  have yq0 := Q_0 hQ
  have yq1 := Q_1 hQ
  have hS100 := HD_y hD
  have hS448 := HD_o hD
  refine ok_aloadn (pc' := 431) i0_430 rfl rfl <| ok_cc i0_431 rfl (cl_v o0 m13_195 na91 rfl rfl (bt rfl) (bt rfl) rfl (by rw [ShYard_k0 hS100, o91])) ln91 (pd91 (aR 100)) <| ok_aloadn (pc' := 1) i91_0 rfl rfl <| ok_getfi (v := (M 100 4)) (pc' := 4) i91_1 o91 gi0_22 (ShYard_k0 hS100) rfl rfl <| ok_ireti i91_4 rt91 <| kt_v (pc' := 434) rfl <| ok_aloadn (pc' := 435) i0_434 rfl rfl <| ok_cc i0_435 rfl (cl_v o0 m13_198 na161 rfl rfl (bt rfl) (bt rfl) rfl (by rw [ShModel_k0 hS448, o161])) ln161 (pd161 (aR 448)) <| ?_
  refine ok_aloadn (pc' := 1) i161_0 rfl rfl <| ok_iconst (pc' := 2) i161_1 rfl <| ok_putfj (kk := 0) (pc' := 5) i161_2 o161 pi161_63 (ShModel_k0 hS448) rfl rfl <| ok_aloadn (pc' := 6) i161_5 rfl rfl <| ok_getfi (v := (M 100 4)) (pc' := 9) i161_6 o161 gi9_35 (ShModel_k0 hS448) (rd_ni (by decide) he4.1) rfl <| ok_ireti i161_9 rt161 <| kt_v (pc' := 438) rfl <| ?_
  refine ok_ceq (pc1 := 3329) (pc2 := 441) i0_438 (by omega) rfl rfl (fun h501 => ?_) (fun h9 => by exfalso; omega)
  exact K _ _ _ _ _ _ hD (by omega) (Inv_mono (Inv_same hI (Same.thr Same.rfl)) (by omega))
theorem c4_0 {L n : Nat} {g : AG} {M : AM} {xs : Nat → Int32} {b i : Int} {w6 w7 w8 : AV} {Q : AO → AG → AM → Prop} (hD : HD L n g) (hI : Inv xs b M) (hi : 0 ≤ i ∧ i + 6 ≤ L) (hb : 0 ≤ b ∧ b ≤ 900000) (hl : M 100 6 = 0) (K : KK L n i b xs Q) :
    Ok 10 0 443 [aR 1, aR 100, aR 448, aR 464, aR 465, aI i, w6, w7, w8] [] g M Q := by
  have hI0 := hI
  obtain ⟨hA, hld, hl01, q, hc, ⟨nx, sz, hH, hsz⟩, hS⟩ := hI0
  have hH0 := hH
  obtain ⟨⟨hn1, hn0⟩, ⟨hz2, hz0⟩, h10, hHj⟩ := hH0
  obtain ⟨hw0, ⟨bu, by_, hb1, hb13, hbu, hZ, hU⟩, he3, he4, he5, hId, tx, hT, hUt, htl, htr⟩ := hA
  have hS100 := HD_y hD
  have hS448 := HD_o hD
  refine ok_aloadn (pc' := 444) i0_443 rfl rfl <| ok_cc i0_444 rfl (cl_v o0 m13_199 na92 rfl rfl (bt rfl) (bt rfl) rfl (by rw [ShYard_k0 hS100, o92])) ln92 (pd92 (aR 100)) <| ok_aloadn (pc' := 1) i92_0 rfl rfl <| ok_getfi (v := (M 100 5)) (pc' := 4) i92_1 o92 gi0_26 (ShYard_k0 hS100) rfl rfl <| ok_ireti i92_4 rt92 <| kt_v (pc' := 447) rfl <| ok_aloadn (pc' := 448) i0_447 rfl rfl <| ok_cc i0_448 rfl (cl_v o0 m13_202 na162 rfl rfl (bt rfl) (bt rfl) rfl (by rw [ShModel_k0 hS448, o162])) ln162 (pd162 (aR 448)) <| ?_
  refine ok_aloadn (pc' := 1) i162_0 rfl rfl <| ok_iconst (pc' := 2) i162_1 rfl <| ok_putfj (kk := 0) (pc' := 5) i162_2 o162 pi162_63 (ShModel_k0 hS448) rfl rfl <| ok_aloadn (pc' := 6) i162_5 rfl rfl <| ok_getfi (v := (M 100 5)) (pc' := 9) i162_6 o162 gi9_39 (ShModel_k0 hS448) (rd_ni (by decide) he5.1) rfl <| ok_ireti i162_9 rt162 <| kt_v (pc' := 451) rfl <| ?_
  refine ok_ceq (pc1 := 3329) (pc2 := 454) i0_451 (by omega) rfl rfl (fun h501 => ?_) (fun h9 => by exfalso; omega)
  exact K _ _ _ _ _ _ hD (by omega) (Inv_mono (Inv_same hI (Same.thr Same.rfl)) (by omega))
theorem c4_1 {L n : Nat} {g : AG} {M : AM} {xs : Nat → Int32} {b i : Int} {w6 w7 w8 : AV} {Q : AO → AG → AM → Prop} (hD : HD L n g) (hI : Inv xs b M) (hi : 0 ≤ i ∧ i + 6 ≤ L) (hb : 0 ≤ b ∧ b ≤ 900000) (hl : M 100 6 = 1) (K : KK L n i b xs Q) :
    Ok 10 0 443 [aR 1, aR 100, aR 448, aR 464, aR 465, aI i, w6, w7, w8] [] g M Q := by
  have hI0 := hI
  obtain ⟨hA, hld, hl01, q, hc, ⟨nx, sz, hH, hsz⟩, hS⟩ := hI0
  have hH0 := hH
  obtain ⟨⟨hn1, hn0⟩, ⟨hz2, hz0⟩, h10, hHj⟩ := hH0
  obtain ⟨hw0, ⟨bu, by_, hb1, hb13, hbu, hZ, hU⟩, he3, he4, he5, hId, tx, hT, hUt, htl, htr⟩ := hA
  obtain ⟨s, hP, hRB, hO, hV, hQ, h40⟩ := hc hl
  have ys3 := V_3 hV
  have ys4 := V_4 hV
  have yq0 := Q_0 hQ
  have yq1 := Q_1 hQ
  have hS100 := HD_y hD
  have hS448 := HD_o hD
  refine ok_aloadn (pc' := 444) i0_443 rfl rfl <| ok_cc i0_444 rfl (cl_v o0 m13_199 na92 rfl rfl (bt rfl) (bt rfl) rfl (by rw [ShYard_k0 hS100, o92])) ln92 (pd92 (aR 100)) <| ok_aloadn (pc' := 1) i92_0 rfl rfl <| ok_getfi (v := (M 100 5)) (pc' := 4) i92_1 o92 gi0_26 (ShYard_k0 hS100) rfl rfl <| ok_ireti i92_4 rt92 <| kt_v (pc' := 447) rfl <| ok_aloadn (pc' := 448) i0_447 rfl rfl <| ok_cc i0_448 rfl (cl_v o0 m13_202 na162 rfl rfl (bt rfl) (bt rfl) rfl (by rw [ShModel_k0 hS448, o162])) ln162 (pd162 (aR 448)) <| ?_
  refine ok_aloadn (pc' := 1) i162_0 rfl rfl <| ok_iconst (pc' := 2) i162_1 rfl <| ok_putfj (kk := 0) (pc' := 5) i162_2 o162 pi162_63 (ShModel_k0 hS448) rfl rfl <| ok_aloadn (pc' := 6) i162_5 rfl rfl <| ok_getfi (v := (M 100 5)) (pc' := 9) i162_6 o162 gi9_39 (ShModel_k0 hS448) (rd_ni (by decide) he5.1) rfl <| ok_ireti i162_9 rt162 <| kt_v (pc' := 451) rfl <| ?_
  refine ok_ceq (pc1 := 3329) (pc2 := 454) i0_451 (by omega) rfl rfl (fun h501 => ?_) (fun h9 => by exfalso; omega)
  exact K _ _ _ _ _ _ hD (by omega) (Inv_mono (Inv_same hI (Same.thr Same.rfl)) (by omega))
theorem c5_0 {L n : Nat} {g : AG} {M : AM} {xs : Nat → Int32} {b i : Int} {w6 w7 w8 : AV} {Q : AO → AG → AM → Prop} (hD : HD L n g) (hI : Inv xs b M) (hi : 0 ≤ i ∧ i + 6 ≤ L) (hb : 0 ≤ b ∧ b ≤ 900000) (hl : M 100 6 = 0) (K : KK L n i b xs Q) :
    Ok 10 0 456 [aR 1, aR 100, aR 448, aR 464, aR 465, aI i, w6, w7, w8] [] g M Q := by
  have hI0 := hI
  obtain ⟨hA, hld, hl01, q, hc, ⟨nx, sz, hH, hsz⟩, hS⟩ := hI0
  have hH0 := hH
  obtain ⟨⟨hn1, hn0⟩, ⟨hz2, hz0⟩, h10, hHj⟩ := hH0
  obtain ⟨hw0, ⟨bu, by_, hb1, hb13, hbu, hZ, hU⟩, he3, he4, he5, hId, tx, hT, hUt, htl, htr⟩ := hA
  have hS100 := HD_y hD
  have hS448 := HD_o hD
  refine ok_aloadn (pc' := 457) i0_456 rfl rfl <| ok_cc i0_457 rfl (cl_v o0 m13_203 na93 rfl rfl (bt rfl) (bt rfl) rfl (by rw [ShYard_k0 hS100, o93])) ln93 (pd93 (aR 100)) <| ok_aloadn (pc' := 1) i93_0 rfl rfl <| ok_getfi (v := bu) (pc' := 4) i93_1 o93 gi0_90 (ShYard_k0 hS100) hb1 rfl <| ok_ireti i93_4 rt93 <| kt_v (pc' := 460) rfl <| ok_aloadn (pc' := 461) i0_460 rfl rfl <| ok_cc i0_461 rfl (cl_v o0 m13_206 na159 rfl rfl (bt rfl) (bt rfl) rfl (by rw [ShModel_k0 hS448, o159])) ln159 (pd159 (aR 448)) <| ?_
  refine ok_aloadn (pc' := 1) i159_0 rfl rfl <| ok_iconst (pc' := 2) i159_1 rfl <| ok_putfj (kk := 0) (pc' := 5) i159_2 o159 pi159_63 (ShModel_k0 hS448) rfl rfl <| ok_aloadn (pc' := 6) i159_5 rfl rfl <| ok_getfi (v := bu) (pc' := 9) i159_6 o159 gi9_74 (ShModel_k0 hS448) (rd_ni (by decide) hb13) rfl <| ok_ireti i159_9 rt159 <| kt_v (pc' := 464) rfl <| ?_
  refine ok_ceq (pc1 := 3329) (pc2 := 467) i0_464 (by omega) rfl rfl (fun h501 => ?_) (fun h9 => by exfalso; omega)
  exact K _ _ _ _ _ _ hD (by omega) (Inv_mono (Inv_same hI (Same.thr Same.rfl)) (by omega))
theorem c5_1 {L n : Nat} {g : AG} {M : AM} {xs : Nat → Int32} {b i : Int} {w6 w7 w8 : AV} {Q : AO → AG → AM → Prop} (hD : HD L n g) (hI : Inv xs b M) (hi : 0 ≤ i ∧ i + 6 ≤ L) (hb : 0 ≤ b ∧ b ≤ 900000) (hl : M 100 6 = 1) (K : KK L n i b xs Q) :
    Ok 10 0 456 [aR 1, aR 100, aR 448, aR 464, aR 465, aI i, w6, w7, w8] [] g M Q := by
  have hI0 := hI
  obtain ⟨hA, hld, hl01, q, hc, ⟨nx, sz, hH, hsz⟩, hS⟩ := hI0
  have hH0 := hH
  obtain ⟨⟨hn1, hn0⟩, ⟨hz2, hz0⟩, h10, hHj⟩ := hH0
  obtain ⟨hw0, ⟨bu, by_, hb1, hb13, hbu, hZ, hU⟩, he3, he4, he5, hId, tx, hT, hUt, htl, htr⟩ := hA
  obtain ⟨s, hP, hRB, hO, hV, hQ, h40⟩ := hc hl
  have ys3 := V_3 hV
  have ys4 := V_4 hV
  have yq0 := Q_0 hQ
  have yq1 := Q_1 hQ
  have hS100 := HD_y hD
  have hS448 := HD_o hD
  refine ok_aloadn (pc' := 457) i0_456 rfl rfl <| ok_cc i0_457 rfl (cl_v o0 m13_203 na93 rfl rfl (bt rfl) (bt rfl) rfl (by rw [ShYard_k0 hS100, o93])) ln93 (pd93 (aR 100)) <| ok_aloadn (pc' := 1) i93_0 rfl rfl <| ok_getfi (v := bu) (pc' := 4) i93_1 o93 gi0_90 (ShYard_k0 hS100) hb1 rfl <| ok_ireti i93_4 rt93 <| kt_v (pc' := 460) rfl <| ok_aloadn (pc' := 461) i0_460 rfl rfl <| ok_cc i0_461 rfl (cl_v o0 m13_206 na159 rfl rfl (bt rfl) (bt rfl) rfl (by rw [ShModel_k0 hS448, o159])) ln159 (pd159 (aR 448)) <| ?_
  refine ok_aloadn (pc' := 1) i159_0 rfl rfl <| ok_iconst (pc' := 2) i159_1 rfl <| ok_putfj (kk := 0) (pc' := 5) i159_2 o159 pi159_63 (ShModel_k0 hS448) rfl rfl <| ok_aloadn (pc' := 6) i159_5 rfl rfl <| ok_getfi (v := bu) (pc' := 9) i159_6 o159 gi9_74 (ShModel_k0 hS448) (rd_ni (by decide) hb13) rfl <| ok_ireti i159_9 rt159 <| kt_v (pc' := 464) rfl <| ?_
  refine ok_ceq (pc1 := 3329) (pc2 := 467) i0_464 (by omega) rfl rfl (fun h501 => ?_) (fun h9 => by exfalso; omega)
  exact K _ _ _ _ _ _ hD (by omega) (Inv_mono (Inv_same hI (Same.thr Same.rfl)) (by omega))
theorem c12_1 {L n : Nat} {g : AG} {M : AM} {xs : Nat → Int32} {b i : Int} {w6 w7 w8 : AV} {Q : AO → AG → AM → Prop} (hD : HD L n g) (hI : Inv xs b M) (hi : 0 ≤ i ∧ i + 6 ≤ L) (hb : 0 ≤ b ∧ b ≤ 900000) (hl : M 100 6 = 1) (K : KK L n i b xs Q) :
    Ok 10 0 869 [aR 1, aR 100, aR 448, aR 464, aR 465, aI i, w6, w7, w8] [] g M Q := by
  have hI0 := hI
  obtain ⟨hA, hld, hl01, q, hc, ⟨nx, sz, hH, hsz⟩, hS⟩ := hI0
  have hH0 := hH
  obtain ⟨⟨hn1, hn0⟩, ⟨hz2, hz0⟩, h10, hHj⟩ := hH0
  obtain ⟨hw0, ⟨bu, by_, hb1, hb13, hbu, hZ, hU⟩, he3, he4, he5, hId, tx, hT, hUt, htl, htr⟩ := hA
  obtain ⟨s, hP, hRB, hO, hV, hQ, h40⟩ := hc hl
  have ys3 := V_3 hV
  have ys4 := V_4 hV
  have yq0 := Q_0 hQ
  have yq1 := Q_1 hQ
  obtain ⟨v1, hv1⟩ : ∃ u9 : Int, M 1 (i + 1) = u9 := ⟨_, rfl⟩
  have hr1 : -2147483648 ≤ v1 ∧ v1 < 2147483648 := hv1 ▸ scr_rg hw0 (i + 1)
  have hS1 := HD_s hD
  have hS100 := HD_y hD
  have hS149 := HD_b hD
  have hS448 := HD_o hD
  have hS464 := HD_u hD
  have hS465 := HD_ud hD
  refine ok_aloadn (pc' := 870) i0_869 rfl rfl <| ok_aloadn (pc' := 871) i0_870 rfl rfl <| ok_iload (pc' := 873) i0_871 rfl rfl <| ok_iconst (pc' := 874) i0_873 rfl <| ok_iadd (v := (i + 1)) (pc' := 875) i0_874 rfl rfl <| ok_iaload (v := v1) (pc' := 876) i0_875 (ShScr_k0 hS1) (by decide) (ShScr_l0 hS1) (by omega) hv1 rfl <| ok_aloadn (pc' := 877) i0_876 rfl rfl <| ok_cc i0_877 rfl (cl_s o0 m13_227 na286 rfl rfl (bt rfl) (bt rfl) rfl) ln286 (pd286 (aR 100) (aI v1) (aR 464)) <| ?_
  refine ok_aloadn (pc' := 1) i286_0 rfl rfl <| ok_iconst (pc' := 2) i286_1 rfl <| ok_aloadn (pc' := 3) i286_2 rfl rfl <| ok_iloadn (pc' := 4) i286_3 rfl rfl <| ok_cc i286_4 rfl (cl_v o286 m13_39 na110 rfl rfl (bt rfl) (bt rfl) rfl (by rw [ShYard_k0 hS100, o110])) ln110 (pd110 (aR 100) (aI v1)) <| ok_aloadn (pc' := 1) i110_0 rfl rfl <| ok_cc i110_1 rfl (cl_v o110 m0_132 na99 rfl rfl (bt rfl) (bt rfl) rfl (by rw [ShYard_k0 hS100, o99])) ln99 (pd99 (aR 100)) <| ok_aloadn (pc' := 1) i99_0 rfl rfl <| ?_
  refine ok_getfi (v := 1) (pc' := 4) i99_1 o99 gi0_268 (ShYard_k0 hS100) hl rfl <| ok_kz1 (pc1 := 18) (pc2 := 7) i99_4 (by decide) rfl rfl <| ok_vret i99_18 rt99 <| kt_0 (pc' := 4) rfl <| ok_iloadn (pc' := 5) i110_4 rfl rfl <| ok_iconst (pc' := 6) i110_5 rfl <| ok_iconst (pc' := 7) i110_6 rfl <| ok_cc i110_7 rfl (cl_s o110 m0_172 na104 rfl rfl (bt rfl) (bt rfl) rfl) ln104 (pd104 (aI v1) (aI 0) (aI 1)) <| ?_
  refine ok_iloadn (pc' := 1) i104_0 rfl rfl <| ok_iloadn (pc' := 2) i104_1 rfl rfl <| ?_
  refine ok_clt (pc1 := 10) (pc2 := 5) i104_2 (by omega) rfl rfl (fun h501 => ?_) (fun h501 => ?_)
  · refine ok_throw th104_10 (bt rfl) <| kt_x hh110 <| kt_h hn286 hf286_4_11 hr286_15 <| kt_v (pc' := 880) rfl <| ?_
    refine ok_al hD (fun g hD => ?_)
    have hS448 := HD_o hD
    have hS1 := HD_s hD
    have hS464 := HD_u hD
    have hS465 := HD_ud hD
    refine ok_istore (pc' := 882) (ls' := [aR 1, aR 100, aR 448, aR 464, aR 465, aI i, aI 2, w7, w8]) i0_880 (bt rfl) rfl rfl <| ok_aloadn (pc' := 883) i0_882 rfl rfl <| ok_aloadn (pc' := 884) i0_883 rfl rfl <| ok_iload (pc' := 886) i0_884 rfl rfl <| ok_iconst (pc' := 887) i0_886 rfl <| ok_iadd (v := (i + 1)) (pc' := 888) i0_887 rfl rfl <| ok_iaload (v := v1) (pc' := 889) i0_888 (ShScr_k0 hS1) (by decide) (ShScr_l0 hS1) (by omega) hv1 rfl <| ok_cc i0_889 rfl (cl_v o0 m13_229 na203 rfl rfl (bt rfl) (bt rfl) rfl (by rw [ShModel_k0 hS448, o203])) ln203 (pd203 (aR 448) (aI v1)) <| ?_
    refine ok_aloadn (pc' := 1) i203_0 rfl rfl <| ok_cc i203_1 rfl (cl_v o203 m9_216 na188 rfl rfl (bt rfl) (bt rfl) rfl (by rw [ShModel_k0 hS448, o188])) ln188 (pd188 (aR 448)) <| ok_aloadn (pc' := 1) i188_0 rfl rfl <| ok_iconst (pc' := 2) i188_1 rfl <| ok_putfj (kk := 0) (pc' := 5) i188_2 o188 pi188_63 (ShModel_k0 hS448) rfl rfl <| ok_aloadn (pc' := 6) i188_5 rfl rfl <| ok_aloadn (pc' := 7) i188_6 rfl rfl <| ok_getfi (v := 1) (pc' := 10) i188_7 o188 gi9_66 (ShModel_k0 hS448) (rd_ni (by decide) (hld.trans hl)) rfl <| ?_
    refine ok_kz1 (pc1 := 17) (pc2 := 13) i188_10 (by decide) rfl rfl <| ok_iconst (pc' := 18) i188_17 rfl <| ok_iconst (pc' := 19) i188_18 rfl <| ok_cc i188_19 rfl (cl_v o188 m9_70 na165 rfl rfl (bt rfl) (bt rfl) rfl (by rw [ShModel_k0 hS448, o165])) ln165 (pd165 (aR 448) (aI 0) (aI 1)) <| ok_aloadn (pc' := 1) i165_0 rfl rfl <| ok_getfi (v := 0) (pc' := 4) i165_1 o165 gi9_63 (ShModel_k0 hS448) rd_eq rfl <| ok_kz0 (pc1 := 16) (pc2 := 7) i165_4 (by decide) rfl rfl <| ok_iloadn (pc' := 8) i165_7 rfl rfl <| ?_
    refine ok_kz1 (pc1 := 16) (pc2 := 11) i165_8 (by decide) rfl rfl <| ok_aloadn (pc' := 17) i165_16 rfl rfl <| ok_getfi (v := 0) (pc' := 20) i165_17 o165 gi9_63 (ShModel_k0 hS448) rd_eq rfl <| ok_kz1 (pc1 := 27) (pc2 := 23) i165_20 (by decide) rfl rfl <| ok_iconst (pc' := 28) i165_27 rfl <| ok_iretz i165_28 rt165 (by decide) <| kt_v (pc' := 22) rfl <| ok_iretz i188_22 rt188 (by decide) <| ?_
    refine kt_v (pc' := 4) rfl <| ok_kz0 (pc1 := 29) (pc2 := 7) i203_4 (by decide) rfl rfl <| ok_aloadn (pc' := 8) i203_7 rfl rfl <| ok_iloadn (pc' := 9) i203_8 rfl rfl <| ok_iconst (pc' := 10) i203_9 rfl <| ok_iconst (pc' := 11) i203_10 rfl <| ok_cc i203_11 rfl (cl_s o203 m9_140 na164 rfl rfl (bt rfl) (bt rfl) rfl) ln164 (pd164 (aI v1) (aI 0) (aI 1)) <| ok_iloadn (pc' := 1) i164_0 rfl rfl <| ?_
    refine ok_iloadn (pc' := 2) i164_1 rfl rfl <| ?_
    refine ok_clt (pc1 := 14) (pc2 := 5) i164_2 (by omega) rfl rfl (fun h502 => ?_) (fun h9 => by exfalso; omega)
    refine ok_iconst (pc' := 15) i164_14 rfl <| ok_iretz i164_15 rt164 (by decide) <| kt_v (pc' := 14) rfl <| ok_kz0 (pc1 := 21) (pc2 := 17) i203_14 (by decide) rfl rfl <| ok_iconst (pc' := 18) i203_17 rfl <| ok_goto (pc' := 22) i203_18 rfl <| ok_iconst (pc' := 23) i203_22 rfl <| ok_cc i203_23 rfl (cl_v o203 m9_70 na165 rfl rfl (bt rfl) (bt rfl) rfl (by rw [ShModel_k0 hS448, o165])) ln165 (pd165 (aR 448) (aI 1) (aI 2)) <| ?_
    refine ok_aloadn (pc' := 1) i165_0 rfl rfl <| ok_getfi (v := 0) (pc' := 4) i165_1 o165 gi9_63 (ShModel_k0 hS448) rd_eq rfl <| ok_kz0 (pc1 := 16) (pc2 := 7) i165_4 (by decide) rfl rfl <| ok_iloadn (pc' := 8) i165_7 rfl rfl <| ok_kz0 (pc1 := 16) (pc2 := 11) i165_8 (by decide) rfl rfl <| ok_aloadn (pc' := 12) i165_11 rfl rfl <| ok_iloadn (pc' := 13) i165_12 rfl rfl <| ok_putfj (kk := 0) (pc' := 16) i165_13 o165 pi165_63 (ShModel_k0 hS448) rfl rfl <| ?_
    refine ok_aloadn (pc' := 17) i165_16 rfl rfl <| ok_getfi (v := 2) (pc' := 20) i165_17 o165 gi9_63 (ShModel_k0 hS448) rd_eq rfl <| ok_kz0 (pc1 := 27) (pc2 := 23) i165_20 (by decide) rfl rfl <| ok_iconst (pc' := 24) i165_23 rfl <| ok_goto (pc' := 28) i165_24 rfl <| ok_iretz i165_28 rt165 (by decide) <| kt_v (pc' := 26) rfl <| ok_kz0 (pc1 := 33) (pc2 := 29) i203_26 (by decide) rfl rfl <| ?_
    refine ok_iconst (pc' := 30) i203_29 rfl <| ok_goto (pc' := 41) i203_30 rfl <| ok_ireti i203_41 rt203 <| kt_v (pc' := 892) rfl <| ok_istore (pc' := 894) (ls' := [aR 1, aR 100, aR 448, aR 464, aR 465, aI i, aI 2, aI 0, w8]) i0_892 (bt rfl) rfl rfl <| ok_aloadn (pc' := 895) i0_894 rfl rfl <| ok_cc i0_895 rfl (cl_v o0 m13_188 na157 rfl rfl (bt rfl) (bt rfl) rfl (by rw [ShModel_k0 hS448, o157])) ln157 (pd157 (aR 448)) <| ok_aloadn (pc' := 1) i157_0 rfl rfl <| ?_
    refine ok_getfi (v := 2) (pc' := 4) i157_1 o157 gi9_63 (ShModel_k0 hS448) rd_eq rfl <| ok_ireti i157_4 rt157 <| kt_v (pc' := 898) rfl <| ok_iload (pc' := 900) i0_898 rfl rfl <| ok_kc1 (pc1 := 905) (pc2 := 903) i0_900 (by decide) rfl rfl <| ok_iload (pc' := 907) i0_905 rfl rfl <| ok_kz1 (pc1 := 922) (pc2 := 910) i0_907 (by decide) rfl rfl <| ok_goto (pc' := 3329) i0_922 rfl <| ?_
    exact K _ _ _ _ _ _ hD (by omega) (Inv_mono (Inv_same hI (Same.thr (Same.thr Same.rfl))) (by omega))
  · refine ok_iloadn (pc' := 6) i104_5 rfl rfl <| ok_iloadn (pc' := 7) i104_6 rfl rfl <| ?_
    refine ok_cle (pc1 := 21) (pc2 := 10) i104_7 (by omega) rfl rfl (fun h503 => ?_) (fun h503 => ?_)
    · refine ok_vret i104_21 rt104 <| kt_0 (pc' := 10) rfl <| ok_aloadn (pc' := 11) i110_10 rfl rfl <| ok_getfr (r := 149) (pc' := 14) i110_11 o110 gr0_39 (ShYard_k0 hS100) (ShYard_r8 hS100) rfl <| ok_getfr (r := (149 + 1)) (pc' := 17) i110_14 o110 gr0_197 (ShState_k0 hS149) (ShState_r1 hS149) rfl <| ok_iloadn (pc' := 18) i110_17 rfl rfl <| ok_iaload (v := (s (1 + v1))) (pc' := 19) i110_18 (ShState_k1 hS149) (by decide) (ShState_l1 hS149) (by omega) (RepS_1 hRB (by omega) (by omega)) rfl <| ok_ireti i110_19 rt110 <| ?_
      refine kt_v (pc' := 7) rfl <| ok_i2l (v := (wr (s (1 + v1)))) (pc' := 8) i286_7 rfl rfl <| ok_lastore (pc' := 9) i286_8 (ShOut_k0 hS464) (ShOut_l0 hS464) (by decide) rfl <| ok_goto (pc' := 18) i286_9 rfl <| ok_iconst (pc' := 19) i286_18 rfl <| ok_ireti i286_19 rt286 <| kt_v (pc' := 880) rfl <| ok_istore (pc' := 882) (ls' := [aR 1, aR 100, aR 448, aR 464, aR 465, aI i, aI 0, w7, w8]) i0_880 (bt rfl) rfl rfl <| ?_
      refine ok_aloadn (pc' := 883) i0_882 rfl rfl <| ok_aloadn (pc' := 884) i0_883 rfl rfl <| ok_iload (pc' := 886) i0_884 rfl rfl <| ok_iconst (pc' := 887) i0_886 rfl <| ok_iadd (v := (i + 1)) (pc' := 888) i0_887 rfl rfl <| ok_iaload (v := v1) (pc' := 889) i0_888 (ShScr_k0 hS1) (by decide) (ShScr_l0 hS1) (by omega) (rd_na (by omega) hv1) rfl <| ok_cc i0_889 rfl (cl_v o0 m13_229 na203 rfl rfl (bt rfl) (bt rfl) rfl (by rw [ShModel_k0 hS448, o203])) ln203 (pd203 (aR 448) (aI v1)) <| ok_aloadn (pc' := 1) i203_0 rfl rfl <| ?_
      refine ok_cc i203_1 rfl (cl_v o203 m9_216 na188 rfl rfl (bt rfl) (bt rfl) rfl (by rw [ShModel_k0 hS448, o188])) ln188 (pd188 (aR 448)) <| ok_aloadn (pc' := 1) i188_0 rfl rfl <| ok_iconst (pc' := 2) i188_1 rfl <| ok_putfj (kk := 0) (pc' := 5) i188_2 o188 pi188_63 (ShModel_k0 hS448) rfl rfl <| ok_aloadn (pc' := 6) i188_5 rfl rfl <| ok_aloadn (pc' := 7) i188_6 rfl rfl <| ok_getfi (v := 1) (pc' := 10) i188_7 o188 gi9_66 (ShModel_k0 hS448) (rd_ni (by decide) (rd_na (by omega) (hld.trans hl))) rfl <| ok_kz1 (pc1 := 17) (pc2 := 13) i188_10 (by decide) rfl rfl <| ?_
      refine ok_iconst (pc' := 18) i188_17 rfl <| ok_iconst (pc' := 19) i188_18 rfl <| ok_cc i188_19 rfl (cl_v o188 m9_70 na165 rfl rfl (bt rfl) (bt rfl) rfl (by rw [ShModel_k0 hS448, o165])) ln165 (pd165 (aR 448) (aI 0) (aI 1)) <| ok_aloadn (pc' := 1) i165_0 rfl rfl <| ok_getfi (v := 0) (pc' := 4) i165_1 o165 gi9_63 (ShModel_k0 hS448) rd_eq rfl <| ok_kz0 (pc1 := 16) (pc2 := 7) i165_4 (by decide) rfl rfl <| ok_iloadn (pc' := 8) i165_7 rfl rfl <| ok_kz1 (pc1 := 16) (pc2 := 11) i165_8 (by decide) rfl rfl <| ?_
      refine ok_aloadn (pc' := 17) i165_16 rfl rfl <| ok_getfi (v := 0) (pc' := 20) i165_17 o165 gi9_63 (ShModel_k0 hS448) rd_eq rfl <| ok_kz1 (pc1 := 27) (pc2 := 23) i165_20 (by decide) rfl rfl <| ok_iconst (pc' := 28) i165_27 rfl <| ok_iretz i165_28 rt165 (by decide) <| kt_v (pc' := 22) rfl <| ok_iretz i188_22 rt188 (by decide) <| kt_v (pc' := 4) rfl <| ?_
      refine ok_kz0 (pc1 := 29) (pc2 := 7) i203_4 (by decide) rfl rfl <| ok_aloadn (pc' := 8) i203_7 rfl rfl <| ok_iloadn (pc' := 9) i203_8 rfl rfl <| ok_iconst (pc' := 10) i203_9 rfl <| ok_iconst (pc' := 11) i203_10 rfl <| ok_cc i203_11 rfl (cl_s o203 m9_140 na164 rfl rfl (bt rfl) (bt rfl) rfl) ln164 (pd164 (aI v1) (aI 0) (aI 1)) <| ok_iloadn (pc' := 1) i164_0 rfl rfl <| ok_iloadn (pc' := 2) i164_1 rfl rfl <| ?_
      refine ok_clt (pc1 := 14) (pc2 := 5) i164_2 (by omega) rfl rfl (fun h9 => by exfalso; omega) (fun h504 => ?_)
      refine ok_iloadn (pc' := 6) i164_5 rfl rfl <| ok_iloadn (pc' := 7) i164_6 rfl rfl <| ?_
      refine ok_cgt (pc1 := 14) (pc2 := 10) i164_7 (by omega) rfl rfl (fun h9 => by exfalso; omega) (fun h505 => ?_)
      refine ok_iconst (pc' := 11) i164_10 rfl <| ok_goto (pc' := 15) i164_11 rfl <| ok_iretz i164_15 rt164 (by decide) <| kt_v (pc' := 14) rfl <| ok_kz1 (pc1 := 21) (pc2 := 17) i203_14 (by decide) rfl rfl <| ok_iconst (pc' := 22) i203_21 rfl <| ok_iconst (pc' := 23) i203_22 rfl <| ok_cc i203_23 rfl (cl_v o203 m9_70 na165 rfl rfl (bt rfl) (bt rfl) rfl (by rw [ShModel_k0 hS448, o165])) ln165 (pd165 (aR 448) (aI 0) (aI 2)) <| ?_
      refine ok_aloadn (pc' := 1) i165_0 rfl rfl <| ok_getfi (v := 0) (pc' := 4) i165_1 o165 gi9_63 (ShModel_k0 hS448) rd_eq rfl <| ok_kz0 (pc1 := 16) (pc2 := 7) i165_4 (by decide) rfl rfl <| ok_iloadn (pc' := 8) i165_7 rfl rfl <| ok_kz1 (pc1 := 16) (pc2 := 11) i165_8 (by decide) rfl rfl <| ok_aloadn (pc' := 17) i165_16 rfl rfl <| ok_getfi (v := 0) (pc' := 20) i165_17 o165 gi9_63 (ShModel_k0 hS448) rd_eq rfl <| ok_kz1 (pc1 := 27) (pc2 := 23) i165_20 (by decide) rfl rfl <| ?_
      refine ok_iconst (pc' := 28) i165_27 rfl <| ok_iretz i165_28 rt165 (by decide) <| kt_v (pc' := 26) rfl <| ok_kz1 (pc1 := 33) (pc2 := 29) i203_26 (by decide) rfl rfl <| ok_aloadn (pc' := 34) i203_33 rfl rfl <| ok_getfr (r := (448 + 5)) (pc' := 37) i203_34 o203 gr9_22 (ShModel_k0 hS448) (ShModel_r8 hS448) rfl <| ok_iconst (pc' := 38) i203_37 rfl <| ok_iloadn (pc' := 39) i203_38 rfl rfl <| ?_
      refine ok_iadd (v := (1 + v1)) (pc' := 40) i203_39 rfl rfl <| ok_iaload (v := (s (1 + v1))) (pc' := 41) i203_40 (ShModel_k5 hS448) (by decide) (ShModel_l5 hS448) (by omega) (rd_na (by omega) (rd_na (by omega) (RepO_s hO))) rfl <| ok_ireti i203_41 rt203 <| kt_v (pc' := 892) rfl <| ok_istore (pc' := 894) (ls' := [aR 1, aR 100, aR 448, aR 464, aR 465, aI i, aI 0, aI (s (1 + v1)), w8]) i0_892 (bt rfl) rfl rfl <| ok_aloadn (pc' := 895) i0_894 rfl rfl <| ok_cc i0_895 rfl (cl_v o0 m13_188 na157 rfl rfl (bt rfl) (bt rfl) rfl (by rw [ShModel_k0 hS448, o157])) ln157 (pd157 (aR 448)) <| ok_aloadn (pc' := 1) i157_0 rfl rfl <| ?_
      refine ok_getfi (v := 0) (pc' := 4) i157_1 o157 gi9_63 (ShModel_k0 hS448) rd_eq rfl <| ok_ireti i157_4 rt157 <| kt_v (pc' := 898) rfl <| ok_iload (pc' := 900) i0_898 rfl rfl <| ok_kc1 (pc1 := 905) (pc2 := 903) i0_900 (by decide) rfl rfl <| ok_iload (pc' := 907) i0_905 rfl rfl <| ok_kz0 (pc1 := 922) (pc2 := 910) i0_907 (by decide) rfl rfl <| ok_aloadn (pc' := 911) i0_910 rfl rfl <| ?_
      refine ok_iconst (pc' := 912) i0_911 rfl <| ok_laload (v := (wr (s (1 + v1)))) (pc' := 913) i0_912 (ShOut_k0 hS464) (ShOut_l0 hS464) (by decide) (rd_na (by omega) rd_eq) rfl <| ok_iload (pc' := 915) i0_913 rfl rfl <| ok_i2l (v := (wr (s (1 + v1)))) (pc' := 916) i0_915 rfl rfl <| ok_lcmp0 (pc' := 917) i0_916 rfl <| ok_kz1 (pc1 := 922) (pc2 := 920) i0_917 (by decide) rfl rfl <| ok_goto (pc' := 3329) i0_922 rfl <| ?_
      exact K _ _ _ _ _ _ hD (by omega) (Inv_mono (Inv_same hI (Same.thr (Same.out Same.rfl))) (by omega))
    · refine ok_throw th104_10 (bt rfl) <| kt_x hh110 <| kt_h hn286 hf286_4_11 hr286_15 <| kt_v (pc' := 880) rfl <| ?_
      refine ok_al hD (fun g hD => ?_)
      have hS448 := HD_o hD
      have hS1 := HD_s hD
      have hS464 := HD_u hD
      have hS465 := HD_ud hD
      refine ok_istore (pc' := 882) (ls' := [aR 1, aR 100, aR 448, aR 464, aR 465, aI i, aI 2, w7, w8]) i0_880 (bt rfl) rfl rfl <| ok_aloadn (pc' := 883) i0_882 rfl rfl <| ok_aloadn (pc' := 884) i0_883 rfl rfl <| ok_iload (pc' := 886) i0_884 rfl rfl <| ok_iconst (pc' := 887) i0_886 rfl <| ok_iadd (v := (i + 1)) (pc' := 888) i0_887 rfl rfl <| ok_iaload (v := v1) (pc' := 889) i0_888 (ShScr_k0 hS1) (by decide) (ShScr_l0 hS1) (by omega) hv1 rfl <| ok_cc i0_889 rfl (cl_v o0 m13_229 na203 rfl rfl (bt rfl) (bt rfl) rfl (by rw [ShModel_k0 hS448, o203])) ln203 (pd203 (aR 448) (aI v1)) <| ?_
      refine ok_aloadn (pc' := 1) i203_0 rfl rfl <| ok_cc i203_1 rfl (cl_v o203 m9_216 na188 rfl rfl (bt rfl) (bt rfl) rfl (by rw [ShModel_k0 hS448, o188])) ln188 (pd188 (aR 448)) <| ok_aloadn (pc' := 1) i188_0 rfl rfl <| ok_iconst (pc' := 2) i188_1 rfl <| ok_putfj (kk := 0) (pc' := 5) i188_2 o188 pi188_63 (ShModel_k0 hS448) rfl rfl <| ok_aloadn (pc' := 6) i188_5 rfl rfl <| ok_aloadn (pc' := 7) i188_6 rfl rfl <| ok_getfi (v := 1) (pc' := 10) i188_7 o188 gi9_66 (ShModel_k0 hS448) (rd_ni (by decide) (hld.trans hl)) rfl <| ?_
      refine ok_kz1 (pc1 := 17) (pc2 := 13) i188_10 (by decide) rfl rfl <| ok_iconst (pc' := 18) i188_17 rfl <| ok_iconst (pc' := 19) i188_18 rfl <| ok_cc i188_19 rfl (cl_v o188 m9_70 na165 rfl rfl (bt rfl) (bt rfl) rfl (by rw [ShModel_k0 hS448, o165])) ln165 (pd165 (aR 448) (aI 0) (aI 1)) <| ok_aloadn (pc' := 1) i165_0 rfl rfl <| ok_getfi (v := 0) (pc' := 4) i165_1 o165 gi9_63 (ShModel_k0 hS448) rd_eq rfl <| ok_kz0 (pc1 := 16) (pc2 := 7) i165_4 (by decide) rfl rfl <| ok_iloadn (pc' := 8) i165_7 rfl rfl <| ?_
      refine ok_kz1 (pc1 := 16) (pc2 := 11) i165_8 (by decide) rfl rfl <| ok_aloadn (pc' := 17) i165_16 rfl rfl <| ok_getfi (v := 0) (pc' := 20) i165_17 o165 gi9_63 (ShModel_k0 hS448) rd_eq rfl <| ok_kz1 (pc1 := 27) (pc2 := 23) i165_20 (by decide) rfl rfl <| ok_iconst (pc' := 28) i165_27 rfl <| ok_iretz i165_28 rt165 (by decide) <| kt_v (pc' := 22) rfl <| ok_iretz i188_22 rt188 (by decide) <| ?_
      refine kt_v (pc' := 4) rfl <| ok_kz0 (pc1 := 29) (pc2 := 7) i203_4 (by decide) rfl rfl <| ok_aloadn (pc' := 8) i203_7 rfl rfl <| ok_iloadn (pc' := 9) i203_8 rfl rfl <| ok_iconst (pc' := 10) i203_9 rfl <| ok_iconst (pc' := 11) i203_10 rfl <| ok_cc i203_11 rfl (cl_s o203 m9_140 na164 rfl rfl (bt rfl) (bt rfl) rfl) ln164 (pd164 (aI v1) (aI 0) (aI 1)) <| ok_iloadn (pc' := 1) i164_0 rfl rfl <| ?_
      refine ok_iloadn (pc' := 2) i164_1 rfl rfl <| ?_
      refine ok_clt (pc1 := 14) (pc2 := 5) i164_2 (by omega) rfl rfl (fun h9 => by exfalso; omega) (fun h506 => ?_)
      refine ok_iloadn (pc' := 6) i164_5 rfl rfl <| ok_iloadn (pc' := 7) i164_6 rfl rfl <| ?_
      refine ok_cgt (pc1 := 14) (pc2 := 10) i164_7 (by omega) rfl rfl (fun h507 => ?_) (fun h9 => by exfalso; omega)
      refine ok_iconst (pc' := 15) i164_14 rfl <| ok_iretz i164_15 rt164 (by decide) <| kt_v (pc' := 14) rfl <| ok_kz0 (pc1 := 21) (pc2 := 17) i203_14 (by decide) rfl rfl <| ok_iconst (pc' := 18) i203_17 rfl <| ok_goto (pc' := 22) i203_18 rfl <| ok_iconst (pc' := 23) i203_22 rfl <| ok_cc i203_23 rfl (cl_v o203 m9_70 na165 rfl rfl (bt rfl) (bt rfl) rfl (by rw [ShModel_k0 hS448, o165])) ln165 (pd165 (aR 448) (aI 1) (aI 2)) <| ?_
      refine ok_aloadn (pc' := 1) i165_0 rfl rfl <| ok_getfi (v := 0) (pc' := 4) i165_1 o165 gi9_63 (ShModel_k0 hS448) rd_eq rfl <| ok_kz0 (pc1 := 16) (pc2 := 7) i165_4 (by decide) rfl rfl <| ok_iloadn (pc' := 8) i165_7 rfl rfl <| ok_kz0 (pc1 := 16) (pc2 := 11) i165_8 (by decide) rfl rfl <| ok_aloadn (pc' := 12) i165_11 rfl rfl <| ok_iloadn (pc' := 13) i165_12 rfl rfl <| ok_putfj (kk := 0) (pc' := 16) i165_13 o165 pi165_63 (ShModel_k0 hS448) rfl rfl <| ?_
      refine ok_aloadn (pc' := 17) i165_16 rfl rfl <| ok_getfi (v := 2) (pc' := 20) i165_17 o165 gi9_63 (ShModel_k0 hS448) rd_eq rfl <| ok_kz0 (pc1 := 27) (pc2 := 23) i165_20 (by decide) rfl rfl <| ok_iconst (pc' := 24) i165_23 rfl <| ok_goto (pc' := 28) i165_24 rfl <| ok_iretz i165_28 rt165 (by decide) <| kt_v (pc' := 26) rfl <| ok_kz0 (pc1 := 33) (pc2 := 29) i203_26 (by decide) rfl rfl <| ?_
      refine ok_iconst (pc' := 30) i203_29 rfl <| ok_goto (pc' := 41) i203_30 rfl <| ok_ireti i203_41 rt203 <| kt_v (pc' := 892) rfl <| ok_istore (pc' := 894) (ls' := [aR 1, aR 100, aR 448, aR 464, aR 465, aI i, aI 2, aI 0, w8]) i0_892 (bt rfl) rfl rfl <| ok_aloadn (pc' := 895) i0_894 rfl rfl <| ok_cc i0_895 rfl (cl_v o0 m13_188 na157 rfl rfl (bt rfl) (bt rfl) rfl (by rw [ShModel_k0 hS448, o157])) ln157 (pd157 (aR 448)) <| ok_aloadn (pc' := 1) i157_0 rfl rfl <| ?_
      refine ok_getfi (v := 2) (pc' := 4) i157_1 o157 gi9_63 (ShModel_k0 hS448) rd_eq rfl <| ok_ireti i157_4 rt157 <| kt_v (pc' := 898) rfl <| ok_iload (pc' := 900) i0_898 rfl rfl <| ok_kc1 (pc1 := 905) (pc2 := 903) i0_900 (by decide) rfl rfl <| ok_iload (pc' := 907) i0_905 rfl rfl <| ok_kz1 (pc1 := 922) (pc2 := 910) i0_907 (by decide) rfl rfl <| ok_goto (pc' := 3329) i0_922 rfl <| ?_
      exact K _ _ _ _ _ _ hD (by omega) (Inv_mono (Inv_same hI (Same.thr (Same.thr Same.rfl))) (by omega))
theorem c12_0 {L n : Nat} {g : AG} {M : AM} {xs : Nat → Int32} {b i : Int} {w6 w7 w8 : AV} {Q : AO → AG → AM → Prop} (hD : HD L n g) (hI : Inv xs b M) (hi : 0 ≤ i ∧ i + 6 ≤ L) (hb : 0 ≤ b ∧ b ≤ 900000) (hl : M 100 6 = 0) (K : KK L n i b xs Q) :
    Ok 10 0 869 [aR 1, aR 100, aR 448, aR 464, aR 465, aI i, w6, w7, w8] [] g M Q := by
  have hI0 := hI
  obtain ⟨hA, hld, hl01, q, hc, ⟨nx, sz, hH, hsz⟩, hS⟩ := hI0
  have hH0 := hH
  obtain ⟨⟨hn1, hn0⟩, ⟨hz2, hz0⟩, h10, hHj⟩ := hH0
  obtain ⟨hw0, ⟨bu, by_, hb1, hb13, hbu, hZ, hU⟩, he3, he4, he5, hId, tx, hT, hUt, htl, htr⟩ := hA
  obtain ⟨v1, hv1⟩ : ∃ u9 : Int, M 1 (i + 1) = u9 := ⟨_, rfl⟩
  have hr1 : -2147483648 ≤ v1 ∧ v1 < 2147483648 := hv1 ▸ scr_rg hw0 (i + 1)
  have hS1 := HD_s hD
  have hS100 := HD_y hD
  have hS448 := HD_o hD
  have hS464 := HD_u hD
  have hS465 := HD_ud hD
  refine ok_aloadn (pc' := 870) i0_869 rfl rfl <| ok_aloadn (pc' := 871) i0_870 rfl rfl <| ok_iload (pc' := 873) i0_871 rfl rfl <| ok_iconst (pc' := 874) i0_873 rfl <| ok_iadd (v := (i + 1)) (pc' := 875) i0_874 rfl rfl <| ok_iaload (v := v1) (pc' := 876) i0_875 (ShScr_k0 hS1) (by decide) (ShScr_l0 hS1) (by omega) hv1 rfl <| ok_aloadn (pc' := 877) i0_876 rfl rfl <| ok_cc i0_877 rfl (cl_s o0 m13_227 na286 rfl rfl (bt rfl) (bt rfl) rfl) ln286 (pd286 (aR 100) (aI v1) (aR 464)) <| ?_
  refine ok_aloadn (pc' := 1) i286_0 rfl rfl <| ok_iconst (pc' := 2) i286_1 rfl <| ok_aloadn (pc' := 3) i286_2 rfl rfl <| ok_iloadn (pc' := 4) i286_3 rfl rfl <| ok_cc i286_4 rfl (cl_v o286 m13_39 na110 rfl rfl (bt rfl) (bt rfl) rfl (by rw [ShYard_k0 hS100, o110])) ln110 (pd110 (aR 100) (aI v1)) <| ok_aloadn (pc' := 1) i110_0 rfl rfl <| ok_cc i110_1 rfl (cl_v o110 m0_132 na99 rfl rfl (bt rfl) (bt rfl) rfl (by rw [ShYard_k0 hS100, o99])) ln99 (pd99 (aR 100)) <| ok_aloadn (pc' := 1) i99_0 rfl rfl <| ?_
  refine ok_getfi (v := 0) (pc' := 4) i99_1 o99 gi0_268 (ShYard_k0 hS100) hl rfl <| ok_kz0 (pc1 := 18) (pc2 := 7) i99_4 (by decide) rfl rfl <| ok_throw th99_7 (bt rfl) <| kt_x hh110 <| kt_h hn286 hf286_4_12 hr286_12 <| kt_v (pc' := 880) rfl <| ?_
  refine ok_al hD (fun g hD => ?_)
  have hS448 := HD_o hD
  have hS1 := HD_s hD
  have hS464 := HD_u hD
  have hS465 := HD_ud hD
  refine ok_istore (pc' := 882) (ls' := [aR 1, aR 100, aR 448, aR 464, aR 465, aI i, aI 1, w7, w8]) i0_880 (bt rfl) rfl rfl <| ok_aloadn (pc' := 883) i0_882 rfl rfl <| ok_aloadn (pc' := 884) i0_883 rfl rfl <| ok_iload (pc' := 886) i0_884 rfl rfl <| ok_iconst (pc' := 887) i0_886 rfl <| ok_iadd (v := (i + 1)) (pc' := 888) i0_887 rfl rfl <| ok_iaload (v := v1) (pc' := 889) i0_888 (ShScr_k0 hS1) (by decide) (ShScr_l0 hS1) (by omega) hv1 rfl <| ok_cc i0_889 rfl (cl_v o0 m13_229 na203 rfl rfl (bt rfl) (bt rfl) rfl (by rw [ShModel_k0 hS448, o203])) ln203 (pd203 (aR 448) (aI v1)) <| ?_
  refine ok_aloadn (pc' := 1) i203_0 rfl rfl <| ok_cc i203_1 rfl (cl_v o203 m9_216 na188 rfl rfl (bt rfl) (bt rfl) rfl (by rw [ShModel_k0 hS448, o188])) ln188 (pd188 (aR 448)) <| ok_aloadn (pc' := 1) i188_0 rfl rfl <| ok_iconst (pc' := 2) i188_1 rfl <| ok_putfj (kk := 0) (pc' := 5) i188_2 o188 pi188_63 (ShModel_k0 hS448) rfl rfl <| ok_aloadn (pc' := 6) i188_5 rfl rfl <| ok_aloadn (pc' := 7) i188_6 rfl rfl <| ok_getfi (v := 0) (pc' := 10) i188_7 o188 gi9_66 (ShModel_k0 hS448) (rd_ni (by decide) (hld.trans hl)) rfl <| ?_
  refine ok_kz0 (pc1 := 17) (pc2 := 13) i188_10 (by decide) rfl rfl <| ok_iconst (pc' := 14) i188_13 rfl <| ok_goto (pc' := 18) i188_14 rfl <| ok_iconst (pc' := 19) i188_18 rfl <| ok_cc i188_19 rfl (cl_v o188 m9_70 na165 rfl rfl (bt rfl) (bt rfl) rfl (by rw [ShModel_k0 hS448, o165])) ln165 (pd165 (aR 448) (aI 1) (aI 1)) <| ok_aloadn (pc' := 1) i165_0 rfl rfl <| ok_getfi (v := 0) (pc' := 4) i165_1 o165 gi9_63 (ShModel_k0 hS448) rd_eq rfl <| ok_kz0 (pc1 := 16) (pc2 := 7) i165_4 (by decide) rfl rfl <| ?_
  refine ok_iloadn (pc' := 8) i165_7 rfl rfl <| ok_kz0 (pc1 := 16) (pc2 := 11) i165_8 (by decide) rfl rfl <| ok_aloadn (pc' := 12) i165_11 rfl rfl <| ok_iloadn (pc' := 13) i165_12 rfl rfl <| ok_putfj (kk := 0) (pc' := 16) i165_13 o165 pi165_63 (ShModel_k0 hS448) rfl rfl <| ok_aloadn (pc' := 17) i165_16 rfl rfl <| ok_getfi (v := 1) (pc' := 20) i165_17 o165 gi9_63 (ShModel_k0 hS448) rd_eq rfl <| ok_kz0 (pc1 := 27) (pc2 := 23) i165_20 (by decide) rfl rfl <| ?_
  refine ok_iconst (pc' := 24) i165_23 rfl <| ok_goto (pc' := 28) i165_24 rfl <| ok_iretz i165_28 rt165 (by decide) <| kt_v (pc' := 22) rfl <| ok_iretz i188_22 rt188 (by decide) <| kt_v (pc' := 4) rfl <| ok_kz1 (pc1 := 29) (pc2 := 7) i203_4 (by decide) rfl rfl <| ok_iconst (pc' := 30) i203_29 rfl <| ?_
  refine ok_goto (pc' := 41) i203_30 rfl <| ok_ireti i203_41 rt203 <| kt_v (pc' := 892) rfl <| ok_istore (pc' := 894) (ls' := [aR 1, aR 100, aR 448, aR 464, aR 465, aI i, aI 1, aI 0, w8]) i0_892 (bt rfl) rfl rfl <| ok_aloadn (pc' := 895) i0_894 rfl rfl <| ok_cc i0_895 rfl (cl_v o0 m13_188 na157 rfl rfl (bt rfl) (bt rfl) rfl (by rw [ShModel_k0 hS448, o157])) ln157 (pd157 (aR 448)) <| ok_aloadn (pc' := 1) i157_0 rfl rfl <| ok_getfi (v := 1) (pc' := 4) i157_1 o157 gi9_63 (ShModel_k0 hS448) rd_eq rfl <| ?_
  refine ok_ireti i157_4 rt157 <| kt_v (pc' := 898) rfl <| ok_iload (pc' := 900) i0_898 rfl rfl <| ok_kc1 (pc1 := 905) (pc2 := 903) i0_900 (by decide) rfl rfl <| ok_iload (pc' := 907) i0_905 rfl rfl <| ok_kz1 (pc1 := 922) (pc2 := 910) i0_907 (by decide) rfl rfl <| ok_goto (pc' := 3329) i0_922 rfl <| ?_
  exact K _ _ _ _ _ _ hD (by omega) (Inv_mono (Inv_same hI (Same.thr (Same.thr Same.rfl))) (by omega))
theorem c13_1 {L n : Nat} {g : AG} {M : AM} {xs : Nat → Int32} {b i : Int} {w6 w7 w8 : AV} {Q : AO → AG → AM → Prop} (hD : HD L n g) (hI : Inv xs b M) (hi : 0 ≤ i ∧ i + 6 ≤ L) (hb : 0 ≤ b ∧ b ≤ 900000) (hl : M 100 6 = 1) (K : KK L n i b xs Q) :
    Ok 10 0 925 [aR 1, aR 100, aR 448, aR 464, aR 465, aI i, w6, w7, w8] [] g M Q := by
  have hI0 := hI
  obtain ⟨hA, hld, hl01, q, hc, ⟨nx, sz, hH, hsz⟩, hS⟩ := hI0
  have hH0 := hH
  obtain ⟨⟨hn1, hn0⟩, ⟨hz2, hz0⟩, h10, hHj⟩ := hH0
  obtain ⟨hw0, ⟨bu, by_, hb1, hb13, hbu, hZ, hU⟩, he3, he4, he5, hId, tx, hT, hUt, htl, htr⟩ := hA
  obtain ⟨s, hP, hRB, hO, hV, hQ, h40⟩ := hc hl
  have ys3 := V_3 hV
  have ys4 := V_4 hV
  have yq0 := Q_0 hQ
  have yq1 := Q_1 hQ
  have hS100 := HD_y hD
  have hS149 := HD_b hD
  have hS448 := HD_o hD
  have hS464 := HD_u hD
  refine ok_aloadn (pc' := 926) i0_925 rfl rfl <| ok_aloadn (pc' := 927) i0_926 rfl rfl <| ok_cc i0_927 rfl (cl_s o0 m13_230 na287 rfl rfl (bt rfl) (bt rfl) rfl) ln287 (pd287 (aR 100) (aR 464)) <| ok_aloadn (pc' := 1) i287_0 rfl rfl <| ok_iconst (pc' := 2) i287_1 rfl <| ok_aloadn (pc' := 3) i287_2 rfl rfl <| ok_cc i287_3 rfl (cl_v o287 m13_42 na111 rfl rfl (bt rfl) (bt rfl) rfl (by rw [ShYard_k0 hS100, o111])) ln111 (pd111 (aR 100)) <| ok_aloadn (pc' := 1) i111_0 rfl rfl <| ?_
  refine ok_cc i111_1 rfl (cl_v o111 m0_132 na99 rfl rfl (bt rfl) (bt rfl) rfl (by rw [ShYard_k0 hS100, o99])) ln99 (pd99 (aR 100)) <| ok_aloadn (pc' := 1) i99_0 rfl rfl <| ok_getfi (v := 1) (pc' := 4) i99_1 o99 gi0_268 (ShYard_k0 hS100) hl rfl <| ok_kz1 (pc1 := 18) (pc2 := 7) i99_4 (by decide) rfl rfl <| ok_vret i99_18 rt99 <| kt_0 (pc' := 4) rfl <| ok_aloadn (pc' := 5) i111_4 rfl rfl <| ok_getfr (r := 149) (pc' := 8) i111_5 o111 gr0_39 (ShYard_k0 hS100) (ShYard_r8 hS100) rfl <| ?_
  have z301 : 0 ≤ s 0 ∧ s 0 ≤ 1000000 := V_0 hV
  refine ok_getfi (v := (s 0)) (pc' := 11) i111_8 o111 gi0_200 (ShState_k0 hS149) (RepS_f0 hRB) rfl <| ok_ireti i111_11 rt111 <| kt_v (pc' := 6) rfl <| ok_i2l (v := (wr (s 0))) (pc' := 7) i287_6 rfl rfl <| ok_lastore (pc' := 8) i287_7 (ShOut_k0 hS464) (ShOut_l0 hS464) (by decide) rfl <| ok_goto (pc' := 14) i287_8 rfl <| ok_iconst (pc' := 15) i287_14 rfl <| ok_ireti i287_15 rt287 <| ?_
  refine kt_v (pc' := 930) rfl <| ok_istore (pc' := 932) (ls' := [aR 1, aR 100, aR 448, aR 464, aR 465, aI i, aI 0, w7, w8]) i0_930 (bt rfl) rfl rfl <| ok_aloadn (pc' := 933) i0_932 rfl rfl <| ok_cc i0_933 rfl (cl_v o0 m13_233 na204 rfl rfl (bt rfl) (bt rfl) rfl (by rw [ShModel_k0 hS448, o204])) ln204 (pd204 (aR 448)) <| ok_aloadn (pc' := 1) i204_0 rfl rfl <| ok_cc i204_1 rfl (cl_v o204 m9_216 na188 rfl rfl (bt rfl) (bt rfl) rfl (by rw [ShModel_k0 hS448, o188])) ln188 (pd188 (aR 448)) <| ok_aloadn (pc' := 1) i188_0 rfl rfl <| ok_iconst (pc' := 2) i188_1 rfl <| ?_
  refine ok_putfj (kk := 0) (pc' := 5) i188_2 o188 pi188_63 (ShModel_k0 hS448) rfl rfl <| ok_aloadn (pc' := 6) i188_5 rfl rfl <| ok_aloadn (pc' := 7) i188_6 rfl rfl <| ok_getfi (v := 1) (pc' := 10) i188_7 o188 gi9_66 (ShModel_k0 hS448) (rd_ni (by decide) (rd_na (by omega) (hld.trans hl))) rfl <| ok_kz1 (pc1 := 17) (pc2 := 13) i188_10 (by decide) rfl rfl <| ok_iconst (pc' := 18) i188_17 rfl <| ok_iconst (pc' := 19) i188_18 rfl <| ok_cc i188_19 rfl (cl_v o188 m9_70 na165 rfl rfl (bt rfl) (bt rfl) rfl (by rw [ShModel_k0 hS448, o165])) ln165 (pd165 (aR 448) (aI 0) (aI 1)) <| ?_
  refine ok_aloadn (pc' := 1) i165_0 rfl rfl <| ok_getfi (v := 0) (pc' := 4) i165_1 o165 gi9_63 (ShModel_k0 hS448) rd_eq rfl <| ok_kz0 (pc1 := 16) (pc2 := 7) i165_4 (by decide) rfl rfl <| ok_iloadn (pc' := 8) i165_7 rfl rfl <| ok_kz1 (pc1 := 16) (pc2 := 11) i165_8 (by decide) rfl rfl <| ok_aloadn (pc' := 17) i165_16 rfl rfl <| ok_getfi (v := 0) (pc' := 20) i165_17 o165 gi9_63 (ShModel_k0 hS448) rd_eq rfl <| ok_kz1 (pc1 := 27) (pc2 := 23) i165_20 (by decide) rfl rfl <| ?_
  refine ok_iconst (pc' := 28) i165_27 rfl <| ok_iretz i165_28 rt165 (by decide) <| kt_v (pc' := 22) rfl <| ok_iretz i188_22 rt188 (by decide) <| kt_v (pc' := 4) rfl <| ok_kz1 (pc1 := 11) (pc2 := 7) i204_4 (by decide) rfl rfl <| ok_aloadn (pc' := 12) i204_11 rfl rfl <| ok_getfr (r := (448 + 5)) (pc' := 15) i204_12 o204 gr9_22 (ShModel_k0 hS448) (ShModel_r8 hS448) rfl <| ?_
  refine ok_iconst (pc' := 16) i204_15 rfl <| ok_iaload (v := (s 0)) (pc' := 17) i204_16 (ShModel_k5 hS448) (by decide) (ShModel_l5 hS448) (by decide) (rd_na (by omega) (rd_na (by omega) (RepO_s hO))) rfl <| ok_ireti i204_17 rt204 <| kt_v (pc' := 936) rfl <| ok_istore (pc' := 938) (ls' := [aR 1, aR 100, aR 448, aR 464, aR 465, aI i, aI 0, aI (s 0), w8]) i0_936 (bt rfl) rfl rfl <| ok_aloadn (pc' := 939) i0_938 rfl rfl <| ok_cc i0_939 rfl (cl_v o0 m13_188 na157 rfl rfl (bt rfl) (bt rfl) rfl (by rw [ShModel_k0 hS448, o157])) ln157 (pd157 (aR 448)) <| ok_aloadn (pc' := 1) i157_0 rfl rfl <| ?_
  refine ok_getfi (v := 0) (pc' := 4) i157_1 o157 gi9_63 (ShModel_k0 hS448) rd_eq rfl <| ok_ireti i157_4 rt157 <| kt_v (pc' := 942) rfl <| ok_iload (pc' := 944) i0_942 rfl rfl <| ok_kc1 (pc1 := 949) (pc2 := 947) i0_944 (by decide) rfl rfl <| ok_iload (pc' := 951) i0_949 rfl rfl <| ok_kz0 (pc1 := 966) (pc2 := 954) i0_951 (by decide) rfl rfl <| ok_aloadn (pc' := 955) i0_954 rfl rfl <| ?_
  refine ok_iconst (pc' := 956) i0_955 rfl <| ok_laload (v := (wr (s 0))) (pc' := 957) i0_956 (ShOut_k0 hS464) (ShOut_l0 hS464) (by decide) (rd_na (by omega) rd_eq) rfl <| ok_iload (pc' := 959) i0_957 rfl rfl <| ok_i2l (v := (wr (s 0))) (pc' := 960) i0_959 rfl rfl <| ok_lcmp0 (pc' := 961) i0_960 rfl <| ok_kz1 (pc1 := 966) (pc2 := 964) i0_961 (by decide) rfl rfl <| ok_goto (pc' := 3329) i0_966 rfl <| ?_
  exact K _ _ _ _ _ _ hD (by omega) (Inv_mono (Inv_same hI (Same.thr (Same.out Same.rfl))) (by omega))
theorem c13_0 {L n : Nat} {g : AG} {M : AM} {xs : Nat → Int32} {b i : Int} {w6 w7 w8 : AV} {Q : AO → AG → AM → Prop} (hD : HD L n g) (hI : Inv xs b M) (hi : 0 ≤ i ∧ i + 6 ≤ L) (hb : 0 ≤ b ∧ b ≤ 900000) (hl : M 100 6 = 0) (K : KK L n i b xs Q) :
    Ok 10 0 925 [aR 1, aR 100, aR 448, aR 464, aR 465, aI i, w6, w7, w8] [] g M Q := by
  have hI0 := hI
  obtain ⟨hA, hld, hl01, q, hc, ⟨nx, sz, hH, hsz⟩, hS⟩ := hI0
  have hH0 := hH
  obtain ⟨⟨hn1, hn0⟩, ⟨hz2, hz0⟩, h10, hHj⟩ := hH0
  obtain ⟨hw0, ⟨bu, by_, hb1, hb13, hbu, hZ, hU⟩, he3, he4, he5, hId, tx, hT, hUt, htl, htr⟩ := hA
  have hS1 := HD_s hD
  have hS100 := HD_y hD
  have hS448 := HD_o hD
  have hS464 := HD_u hD
  have hS465 := HD_ud hD
  refine ok_aloadn (pc' := 926) i0_925 rfl rfl <| ok_aloadn (pc' := 927) i0_926 rfl rfl <| ok_cc i0_927 rfl (cl_s o0 m13_230 na287 rfl rfl (bt rfl) (bt rfl) rfl) ln287 (pd287 (aR 100) (aR 464)) <| ok_aloadn (pc' := 1) i287_0 rfl rfl <| ok_iconst (pc' := 2) i287_1 rfl <| ok_aloadn (pc' := 3) i287_2 rfl rfl <| ok_cc i287_3 rfl (cl_v o287 m13_42 na111 rfl rfl (bt rfl) (bt rfl) rfl (by rw [ShYard_k0 hS100, o111])) ln111 (pd111 (aR 100)) <| ok_aloadn (pc' := 1) i111_0 rfl rfl <| ?_
  refine ok_cc i111_1 rfl (cl_v o111 m0_132 na99 rfl rfl (bt rfl) (bt rfl) rfl (by rw [ShYard_k0 hS100, o99])) ln99 (pd99 (aR 100)) <| ok_aloadn (pc' := 1) i99_0 rfl rfl <| ok_getfi (v := 0) (pc' := 4) i99_1 o99 gi0_268 (ShYard_k0 hS100) hl rfl <| ok_kz0 (pc1 := 18) (pc2 := 7) i99_4 (by decide) rfl rfl <| ok_throw th99_7 (bt rfl) <| kt_x hh111 <| kt_h hn287 hf287_3_12 hr287_11 <| kt_v (pc' := 930) rfl <| ?_
  refine ok_al hD (fun g hD => ?_)
  have hS448 := HD_o hD
  have hS1 := HD_s hD
  have hS464 := HD_u hD
  have hS465 := HD_ud hD
  refine ok_istore (pc' := 932) (ls' := [aR 1, aR 100, aR 448, aR 464, aR 465, aI i, aI 1, w7, w8]) i0_930 (bt rfl) rfl rfl <| ok_aloadn (pc' := 933) i0_932 rfl rfl <| ok_cc i0_933 rfl (cl_v o0 m13_233 na204 rfl rfl (bt rfl) (bt rfl) rfl (by rw [ShModel_k0 hS448, o204])) ln204 (pd204 (aR 448)) <| ok_aloadn (pc' := 1) i204_0 rfl rfl <| ok_cc i204_1 rfl (cl_v o204 m9_216 na188 rfl rfl (bt rfl) (bt rfl) rfl (by rw [ShModel_k0 hS448, o188])) ln188 (pd188 (aR 448)) <| ok_aloadn (pc' := 1) i188_0 rfl rfl <| ok_iconst (pc' := 2) i188_1 rfl <| ok_putfj (kk := 0) (pc' := 5) i188_2 o188 pi188_63 (ShModel_k0 hS448) rfl rfl <| ?_
  refine ok_aloadn (pc' := 6) i188_5 rfl rfl <| ok_aloadn (pc' := 7) i188_6 rfl rfl <| ok_getfi (v := 0) (pc' := 10) i188_7 o188 gi9_66 (ShModel_k0 hS448) (rd_ni (by decide) (hld.trans hl)) rfl <| ok_kz0 (pc1 := 17) (pc2 := 13) i188_10 (by decide) rfl rfl <| ok_iconst (pc' := 14) i188_13 rfl <| ok_goto (pc' := 18) i188_14 rfl <| ok_iconst (pc' := 19) i188_18 rfl <| ok_cc i188_19 rfl (cl_v o188 m9_70 na165 rfl rfl (bt rfl) (bt rfl) rfl (by rw [ShModel_k0 hS448, o165])) ln165 (pd165 (aR 448) (aI 1) (aI 1)) <| ?_
  refine ok_aloadn (pc' := 1) i165_0 rfl rfl <| ok_getfi (v := 0) (pc' := 4) i165_1 o165 gi9_63 (ShModel_k0 hS448) rd_eq rfl <| ok_kz0 (pc1 := 16) (pc2 := 7) i165_4 (by decide) rfl rfl <| ok_iloadn (pc' := 8) i165_7 rfl rfl <| ok_kz0 (pc1 := 16) (pc2 := 11) i165_8 (by decide) rfl rfl <| ok_aloadn (pc' := 12) i165_11 rfl rfl <| ok_iloadn (pc' := 13) i165_12 rfl rfl <| ok_putfj (kk := 0) (pc' := 16) i165_13 o165 pi165_63 (ShModel_k0 hS448) rfl rfl <| ?_
  refine ok_aloadn (pc' := 17) i165_16 rfl rfl <| ok_getfi (v := 1) (pc' := 20) i165_17 o165 gi9_63 (ShModel_k0 hS448) rd_eq rfl <| ok_kz0 (pc1 := 27) (pc2 := 23) i165_20 (by decide) rfl rfl <| ok_iconst (pc' := 24) i165_23 rfl <| ok_goto (pc' := 28) i165_24 rfl <| ok_iretz i165_28 rt165 (by decide) <| kt_v (pc' := 22) rfl <| ok_iretz i188_22 rt188 (by decide) <| ?_
  refine kt_v (pc' := 4) rfl <| ok_kz0 (pc1 := 11) (pc2 := 7) i204_4 (by decide) rfl rfl <| ok_iconst (pc' := 8) i204_7 rfl <| ok_goto (pc' := 17) i204_8 rfl <| ok_ireti i204_17 rt204 <| kt_v (pc' := 936) rfl <| ok_istore (pc' := 938) (ls' := [aR 1, aR 100, aR 448, aR 464, aR 465, aI i, aI 1, aI 0, w8]) i0_936 (bt rfl) rfl rfl <| ok_aloadn (pc' := 939) i0_938 rfl rfl <| ?_
  refine ok_cc i0_939 rfl (cl_v o0 m13_188 na157 rfl rfl (bt rfl) (bt rfl) rfl (by rw [ShModel_k0 hS448, o157])) ln157 (pd157 (aR 448)) <| ok_aloadn (pc' := 1) i157_0 rfl rfl <| ok_getfi (v := 1) (pc' := 4) i157_1 o157 gi9_63 (ShModel_k0 hS448) rd_eq rfl <| ok_ireti i157_4 rt157 <| kt_v (pc' := 942) rfl <| ok_iload (pc' := 944) i0_942 rfl rfl <| ok_kc1 (pc1 := 949) (pc2 := 947) i0_944 (by decide) rfl rfl <| ok_iload (pc' := 951) i0_949 rfl rfl <| ?_
  refine ok_kz1 (pc1 := 966) (pc2 := 954) i0_951 (by decide) rfl rfl <| ok_goto (pc' := 3329) i0_966 rfl <| ?_
  exact K _ _ _ _ _ _ hD (by omega) (Inv_mono (Inv_same hI (Same.thr (Same.thr Same.rfl))) (by omega))
theorem c10_1 {L n : Nat} {g : AG} {M : AM} {xs : Nat → Int32} {b i : Int} {w6 w7 w8 : AV} {Q : AO → AG → AM → Prop} (hD : HD L n g) (hI : Inv xs b M) (hi : 0 ≤ i ∧ i + 6 ≤ L) (hb : 0 ≤ b ∧ b ≤ 900000) (hl : M 100 6 = 1) (K : KK L n i b xs Q) :
    Ok 10 0 745 [aR 1, aR 100, aR 448, aR 464, aR 465, aI i, w6, w7, w8] [] g M Q := by
  have hI0 := hI
  obtain ⟨hA, hld, hl01, q, hc, ⟨nx, sz, hH, hsz⟩, hS⟩ := hI0
  have hH0 := hH
  obtain ⟨⟨hn1, hn0⟩, ⟨hz2, hz0⟩, h10, hHj⟩ := hH0
  obtain ⟨hw0, ⟨bu, by_, hb1, hb13, hbu, hZ, hU⟩, he3, he4, he5, hId, tx, hT, hUt, htl, htr⟩ := hA
  obtain ⟨s, hP, hRB, hO, hV, hQ, h40⟩ := hc hl
  have ys3 := V_3 hV
  have ys4 := V_4 hV
  have yq0 := Q_0 hQ
  have yq1 := Q_1 hQ
  obtain ⟨v1, hv1⟩ : ∃ u9 : Int, M 1 (i + 1) = u9 := ⟨_, rfl⟩
  have hr1 : -2147483648 ≤ v1 ∧ v1 < 2147483648 := hv1 ▸ scr_rg hw0 (i + 1)
  have hS1 := HD_s hD
  have hS100 := HD_y hD
  have hS138 := HD_p hD
  have hS448 := HD_o hD
  have hS464 := HD_u hD
  have hS465 := HD_ud hD
  refine ok_aloadn (pc' := 746) i0_745 rfl rfl <| ok_aloadn (pc' := 747) i0_746 rfl rfl <| ok_iload (pc' := 749) i0_747 rfl rfl <| ok_iconst (pc' := 750) i0_749 rfl <| ok_iadd (v := (i + 1)) (pc' := 751) i0_750 rfl rfl <| ok_iaload (v := v1) (pc' := 752) i0_751 (ShScr_k0 hS1) (by decide) (ShScr_l0 hS1) (by omega) hv1 rfl <| ok_aloadn (pc' := 753) i0_752 rfl rfl <| ok_cc i0_753 rfl (cl_s o0 m13_221 na284 rfl rfl (bt rfl) (bt rfl) rfl) ln284 (pd284 (aR 100) (aI v1) (aR 464)) <| ?_
  refine ok_aloadn (pc' := 1) i284_0 rfl rfl <| ok_iconst (pc' := 2) i284_1 rfl <| ok_aloadn (pc' := 3) i284_2 rfl rfl <| ok_iloadn (pc' := 4) i284_3 rfl rfl <| ok_cc i284_4 rfl (cl_v o284 m13_33 na107 rfl rfl (bt rfl) (bt rfl) rfl (by rw [ShYard_k0 hS100, o107])) ln107 (pd107 (aR 100) (aI v1)) <| ok_aloadn (pc' := 1) i107_0 rfl rfl <| ok_cc i107_1 rfl (cl_v o107 m0_132 na99 rfl rfl (bt rfl) (bt rfl) rfl (by rw [ShYard_k0 hS100, o99])) ln99 (pd99 (aR 100)) <| ok_aloadn (pc' := 1) i99_0 rfl rfl <| ?_
  refine ok_getfi (v := 1) (pc' := 4) i99_1 o99 gi0_268 (ShYard_k0 hS100) hl rfl <| ok_kz1 (pc1 := 18) (pc2 := 7) i99_4 (by decide) rfl rfl <| ok_vret i99_18 rt99 <| kt_0 (pc' := 4) rfl <| ok_aloadn (pc' := 5) i107_4 rfl rfl <| ok_iloadn (pc' := 6) i107_5 rfl rfl <| ok_cc i107_6 rfl (cl_v o107 m0_186 na108 rfl rfl (bt rfl) (bt rfl) rfl (by rw [ShYard_k0 hS100, o108])) ln108 (pd108 (aR 100) (aI v1)) <| ok_iloadn (pc' := 1) i108_0 rfl rfl <| ?_
  refine ok_zlt (pc1 := 15) (pc2 := 4) i108_1 (by omega) rfl rfl (fun h501 => ?_) (fun h501 => ?_)
  · refine ok_throw th108_15 (bt rfl) <| kt_x hh107 <| kt_h hn284 hf284_4_10 hr284_15 <| kt_v (pc' := 756) rfl <| ?_
    refine ok_al hD (fun g hD => ?_)
    have hS448 := HD_o hD
    have hS1 := HD_s hD
    have hS464 := HD_u hD
    have hS465 := HD_ud hD
    refine ok_istore (pc' := 758) (ls' := [aR 1, aR 100, aR 448, aR 464, aR 465, aI i, aI 2, w7, w8]) i0_756 (bt rfl) rfl rfl <| ok_aloadn (pc' := 759) i0_758 rfl rfl <| ok_aloadn (pc' := 760) i0_759 rfl rfl <| ok_iload (pc' := 762) i0_760 rfl rfl <| ok_iconst (pc' := 763) i0_762 rfl <| ok_iadd (v := (i + 1)) (pc' := 764) i0_763 rfl rfl <| ok_iaload (v := v1) (pc' := 765) i0_764 (ShScr_k0 hS1) (by decide) (ShScr_l0 hS1) (by omega) hv1 rfl <| ok_cc i0_765 rfl (cl_v o0 m13_223 na200 rfl rfl (bt rfl) (bt rfl) rfl (by rw [ShModel_k0 hS448, o200])) ln200 (pd200 (aR 448) (aI v1)) <| ?_
    refine ok_aloadn (pc' := 1) i200_0 rfl rfl <| ok_iloadn (pc' := 2) i200_1 rfl rfl <| ok_cc i200_2 rfl (cl_v o200 m9_223 na201 rfl rfl (bt rfl) (bt rfl) rfl (by rw [ShModel_k0 hS448, o201])) ln201 (pd201 (aR 448) (aI v1)) <| ok_aloadn (pc' := 1) i201_0 rfl rfl <| ok_cc i201_1 rfl (cl_v o201 m9_216 na188 rfl rfl (bt rfl) (bt rfl) rfl (by rw [ShModel_k0 hS448, o188])) ln188 (pd188 (aR 448)) <| ok_aloadn (pc' := 1) i188_0 rfl rfl <| ok_iconst (pc' := 2) i188_1 rfl <| ok_putfj (kk := 0) (pc' := 5) i188_2 o188 pi188_63 (ShModel_k0 hS448) rfl rfl <| ?_
    refine ok_aloadn (pc' := 6) i188_5 rfl rfl <| ok_aloadn (pc' := 7) i188_6 rfl rfl <| ok_getfi (v := 1) (pc' := 10) i188_7 o188 gi9_66 (ShModel_k0 hS448) (rd_ni (by decide) (hld.trans hl)) rfl <| ok_kz1 (pc1 := 17) (pc2 := 13) i188_10 (by decide) rfl rfl <| ok_iconst (pc' := 18) i188_17 rfl <| ok_iconst (pc' := 19) i188_18 rfl <| ok_cc i188_19 rfl (cl_v o188 m9_70 na165 rfl rfl (bt rfl) (bt rfl) rfl (by rw [ShModel_k0 hS448, o165])) ln165 (pd165 (aR 448) (aI 0) (aI 1)) <| ok_aloadn (pc' := 1) i165_0 rfl rfl <| ?_
    refine ok_getfi (v := 0) (pc' := 4) i165_1 o165 gi9_63 (ShModel_k0 hS448) rd_eq rfl <| ok_kz0 (pc1 := 16) (pc2 := 7) i165_4 (by decide) rfl rfl <| ok_iloadn (pc' := 8) i165_7 rfl rfl <| ok_kz1 (pc1 := 16) (pc2 := 11) i165_8 (by decide) rfl rfl <| ok_aloadn (pc' := 17) i165_16 rfl rfl <| ok_getfi (v := 0) (pc' := 20) i165_17 o165 gi9_63 (ShModel_k0 hS448) rd_eq rfl <| ok_kz1 (pc1 := 27) (pc2 := 23) i165_20 (by decide) rfl rfl <| ok_iconst (pc' := 28) i165_27 rfl <| ?_
    refine ok_iretz i165_28 rt165 (by decide) <| kt_v (pc' := 22) rfl <| ok_iretz i188_22 rt188 (by decide) <| kt_v (pc' := 4) rfl <| ok_kz0 (pc1 := 34) (pc2 := 7) i201_4 (by decide) rfl rfl <| ok_aloadn (pc' := 8) i201_7 rfl rfl <| ok_iloadn (pc' := 9) i201_8 rfl rfl <| ok_iconst (pc' := 10) i201_9 rfl <| ?_
    refine ok_aloadn (pc' := 11) i201_10 rfl rfl <| ok_getfi (v := (q 1)) (pc' := 14) i201_11 o201 gi9_206 (ShModel_k0 hS448) (rd_ni (by decide) (RepO_f3 hO)) rfl <| ok_iconst (pc' := 15) i201_14 rfl <| ok_isub (v := ((q 1) - 1)) (pc' := 16) i201_15 rfl rfl <| ok_cc i201_16 rfl (cl_s o201 m9_140 na164 rfl rfl (bt rfl) (bt rfl) rfl) ln164 (pd164 (aI v1) (aI 0) (aI ((q 1) - 1))) <| ok_iloadn (pc' := 1) i164_0 rfl rfl <| ok_iloadn (pc' := 2) i164_1 rfl rfl <| ?_
    refine ok_clt (pc1 := 14) (pc2 := 5) i164_2 (by omega) rfl rfl (fun h502 => ?_) (fun h9 => by exfalso; omega)
    refine ok_iconst (pc' := 15) i164_14 rfl <| ok_iretz i164_15 rt164 (by decide) <| kt_v (pc' := 19) rfl <| ok_kz0 (pc1 := 26) (pc2 := 22) i201_19 (by decide) rfl rfl <| ok_iconst (pc' := 23) i201_22 rfl <| ok_goto (pc' := 27) i201_23 rfl <| ok_iconst (pc' := 28) i201_27 rfl <| ok_cc i201_28 rfl (cl_v o201 m9_70 na165 rfl rfl (bt rfl) (bt rfl) rfl (by rw [ShModel_k0 hS448, o165])) ln165 (pd165 (aR 448) (aI 1) (aI 2)) <| ?_
    refine ok_aloadn (pc' := 1) i165_0 rfl rfl <| ok_getfi (v := 0) (pc' := 4) i165_1 o165 gi9_63 (ShModel_k0 hS448) rd_eq rfl <| ok_kz0 (pc1 := 16) (pc2 := 7) i165_4 (by decide) rfl rfl <| ok_iloadn (pc' := 8) i165_7 rfl rfl <| ok_kz0 (pc1 := 16) (pc2 := 11) i165_8 (by decide) rfl rfl <| ok_aloadn (pc' := 12) i165_11 rfl rfl <| ok_iloadn (pc' := 13) i165_12 rfl rfl <| ok_putfj (kk := 0) (pc' := 16) i165_13 o165 pi165_63 (ShModel_k0 hS448) rfl rfl <| ?_
    refine ok_aloadn (pc' := 17) i165_16 rfl rfl <| ok_getfi (v := 2) (pc' := 20) i165_17 o165 gi9_63 (ShModel_k0 hS448) rd_eq rfl <| ok_kz0 (pc1 := 27) (pc2 := 23) i165_20 (by decide) rfl rfl <| ok_iconst (pc' := 24) i165_23 rfl <| ok_goto (pc' := 28) i165_24 rfl <| ok_iretz i165_28 rt165 (by decide) <| kt_v (pc' := 31) rfl <| ok_kz0 (pc1 := 38) (pc2 := 34) i201_31 (by decide) rfl rfl <| ?_
    refine ok_iconst (pc' := 35) i201_34 rfl <| ok_goto (pc' := 39) i201_35 rfl <| ok_iretz i201_39 rt201 (by decide) <| kt_v (pc' := 5) rfl <| ok_kz0 (pc1 := 12) (pc2 := 8) i200_5 (by decide) rfl rfl <| ok_iconst (pc' := 9) i200_8 rfl <| ok_goto (pc' := 18) i200_9 rfl <| ok_ireti i200_18 rt200 <| ?_
    refine kt_v (pc' := 768) rfl <| ok_istore (pc' := 770) (ls' := [aR 1, aR 100, aR 448, aR 464, aR 465, aI i, aI 2, aI 0, w8]) i0_768 (bt rfl) rfl rfl <| ok_aloadn (pc' := 771) i0_770 rfl rfl <| ok_cc i0_771 rfl (cl_v o0 m13_188 na157 rfl rfl (bt rfl) (bt rfl) rfl (by rw [ShModel_k0 hS448, o157])) ln157 (pd157 (aR 448)) <| ok_aloadn (pc' := 1) i157_0 rfl rfl <| ok_getfi (v := 2) (pc' := 4) i157_1 o157 gi9_63 (ShModel_k0 hS448) rd_eq rfl <| ok_ireti i157_4 rt157 <| kt_v (pc' := 774) rfl <| ?_
    refine ok_iload (pc' := 776) i0_774 rfl rfl <| ok_kc1 (pc1 := 781) (pc2 := 779) i0_776 (by decide) rfl rfl <| ok_iload (pc' := 783) i0_781 rfl rfl <| ok_kz1 (pc1 := 798) (pc2 := 786) i0_783 (by decide) rfl rfl <| ok_goto (pc' := 3329) i0_798 rfl <| ?_
    exact K _ _ _ _ _ _ hD (by omega) (Inv_mono (Inv_same hI (Same.thr (Same.thr Same.rfl))) (by omega))
  · refine ok_iloadn (pc' := 5) i108_4 rfl rfl <| ok_aloadn (pc' := 6) i108_5 rfl rfl <| ok_getfr (r := 138) (pc' := 9) i108_6 o108 gr0_32 (ShYard_k0 hS100) (ShYard_r7 hS100) rfl <| ok_getfi (v := (q 1)) (pc' := 12) i108_9 o108 gi0_141 (ShPlan_k0 hS138) (RepP_f3 hP) rfl <| ?_
    refine ok_clt (pc1 := 26) (pc2 := 15) i108_12 (by omega) rfl rfl (fun h503 => ?_) (fun h503 => ?_)
    · refine ok_vret i108_26 rt108 <| kt_0 (pc' := 9) rfl <| ok_aloadn (pc' := 10) i107_9 rfl rfl <| ok_getfr (r := 138) (pc' := 13) i107_10 o107 gr0_32 (ShYard_k0 hS100) (ShYard_r7 hS100) rfl <| ok_getfr (r := (138 + 3)) (pc' := 16) i107_13 o107 gr0_189 (ShPlan_k0 hS138) (ShPlan_r4 hS138) rfl <| ok_iloadn (pc' := 17) i107_16 rfl rfl <| ?_
      have z301 : 1 ≤ q (10 + v1) ∧ q (10 + v1) ≤ 6 := Q_10 hQ (i := v1) (by omega) (by omega)
      refine ok_iaload (v := (q (10 + v1))) (pc' := 18) i107_17 (ShPlan_k3 hS138) (by decide) (ShPlan_l3 hS138) (by omega) (RepP_3 hP (by omega) (by omega)) rfl <| ok_ireti i107_18 rt107 <| kt_v (pc' := 7) rfl <| ok_i2l (v := (wr (q (10 + v1)))) (pc' := 8) i284_7 rfl rfl <| ok_lastore (pc' := 9) i284_8 (ShOut_k0 hS464) (ShOut_l0 hS464) (by decide) rfl <| ok_goto (pc' := 18) i284_9 rfl <| ok_iconst (pc' := 19) i284_18 rfl <| ok_ireti i284_19 rt284 <| ?_
      refine kt_v (pc' := 756) rfl <| ok_istore (pc' := 758) (ls' := [aR 1, aR 100, aR 448, aR 464, aR 465, aI i, aI 0, w7, w8]) i0_756 (bt rfl) rfl rfl <| ok_aloadn (pc' := 759) i0_758 rfl rfl <| ok_aloadn (pc' := 760) i0_759 rfl rfl <| ok_iload (pc' := 762) i0_760 rfl rfl <| ok_iconst (pc' := 763) i0_762 rfl <| ok_iadd (v := (i + 1)) (pc' := 764) i0_763 rfl rfl <| ok_iaload (v := v1) (pc' := 765) i0_764 (ShScr_k0 hS1) (by decide) (ShScr_l0 hS1) (by omega) (rd_na (by omega) hv1) rfl <| ?_
      refine ok_cc i0_765 rfl (cl_v o0 m13_223 na200 rfl rfl (bt rfl) (bt rfl) rfl (by rw [ShModel_k0 hS448, o200])) ln200 (pd200 (aR 448) (aI v1)) <| ok_aloadn (pc' := 1) i200_0 rfl rfl <| ok_iloadn (pc' := 2) i200_1 rfl rfl <| ok_cc i200_2 rfl (cl_v o200 m9_223 na201 rfl rfl (bt rfl) (bt rfl) rfl (by rw [ShModel_k0 hS448, o201])) ln201 (pd201 (aR 448) (aI v1)) <| ok_aloadn (pc' := 1) i201_0 rfl rfl <| ok_cc i201_1 rfl (cl_v o201 m9_216 na188 rfl rfl (bt rfl) (bt rfl) rfl (by rw [ShModel_k0 hS448, o188])) ln188 (pd188 (aR 448)) <| ok_aloadn (pc' := 1) i188_0 rfl rfl <| ok_iconst (pc' := 2) i188_1 rfl <| ?_
      refine ok_putfj (kk := 0) (pc' := 5) i188_2 o188 pi188_63 (ShModel_k0 hS448) rfl rfl <| ok_aloadn (pc' := 6) i188_5 rfl rfl <| ok_aloadn (pc' := 7) i188_6 rfl rfl <| ok_getfi (v := 1) (pc' := 10) i188_7 o188 gi9_66 (ShModel_k0 hS448) (rd_ni (by decide) (rd_na (by omega) (hld.trans hl))) rfl <| ok_kz1 (pc1 := 17) (pc2 := 13) i188_10 (by decide) rfl rfl <| ok_iconst (pc' := 18) i188_17 rfl <| ok_iconst (pc' := 19) i188_18 rfl <| ok_cc i188_19 rfl (cl_v o188 m9_70 na165 rfl rfl (bt rfl) (bt rfl) rfl (by rw [ShModel_k0 hS448, o165])) ln165 (pd165 (aR 448) (aI 0) (aI 1)) <| ?_
      refine ok_aloadn (pc' := 1) i165_0 rfl rfl <| ok_getfi (v := 0) (pc' := 4) i165_1 o165 gi9_63 (ShModel_k0 hS448) rd_eq rfl <| ok_kz0 (pc1 := 16) (pc2 := 7) i165_4 (by decide) rfl rfl <| ok_iloadn (pc' := 8) i165_7 rfl rfl <| ok_kz1 (pc1 := 16) (pc2 := 11) i165_8 (by decide) rfl rfl <| ok_aloadn (pc' := 17) i165_16 rfl rfl <| ok_getfi (v := 0) (pc' := 20) i165_17 o165 gi9_63 (ShModel_k0 hS448) rd_eq rfl <| ok_kz1 (pc1 := 27) (pc2 := 23) i165_20 (by decide) rfl rfl <| ?_
      refine ok_iconst (pc' := 28) i165_27 rfl <| ok_iretz i165_28 rt165 (by decide) <| kt_v (pc' := 22) rfl <| ok_iretz i188_22 rt188 (by decide) <| kt_v (pc' := 4) rfl <| ok_kz0 (pc1 := 34) (pc2 := 7) i201_4 (by decide) rfl rfl <| ok_aloadn (pc' := 8) i201_7 rfl rfl <| ok_iloadn (pc' := 9) i201_8 rfl rfl <| ?_
      refine ok_iconst (pc' := 10) i201_9 rfl <| ok_aloadn (pc' := 11) i201_10 rfl rfl <| ok_getfi (v := (q 1)) (pc' := 14) i201_11 o201 gi9_206 (ShModel_k0 hS448) (rd_ni (by decide) (rd_na (by omega) (RepO_f3 hO))) rfl <| ok_iconst (pc' := 15) i201_14 rfl <| ok_isub (v := ((q 1) - 1)) (pc' := 16) i201_15 rfl rfl <| ok_cc i201_16 rfl (cl_s o201 m9_140 na164 rfl rfl (bt rfl) (bt rfl) rfl) ln164 (pd164 (aI v1) (aI 0) (aI ((q 1) - 1))) <| ok_iloadn (pc' := 1) i164_0 rfl rfl <| ok_iloadn (pc' := 2) i164_1 rfl rfl <| ?_
      refine ok_clt (pc1 := 14) (pc2 := 5) i164_2 (by omega) rfl rfl (fun h9 => by exfalso; omega) (fun h504 => ?_)
      refine ok_iloadn (pc' := 6) i164_5 rfl rfl <| ok_iloadn (pc' := 7) i164_6 rfl rfl <| ?_
      refine ok_cgt (pc1 := 14) (pc2 := 10) i164_7 (by omega) rfl rfl (fun h9 => by exfalso; omega) (fun h505 => ?_)
      refine ok_iconst (pc' := 11) i164_10 rfl <| ok_goto (pc' := 15) i164_11 rfl <| ok_iretz i164_15 rt164 (by decide) <| kt_v (pc' := 19) rfl <| ok_kz1 (pc1 := 26) (pc2 := 22) i201_19 (by decide) rfl rfl <| ok_iconst (pc' := 27) i201_26 rfl <| ok_iconst (pc' := 28) i201_27 rfl <| ok_cc i201_28 rfl (cl_v o201 m9_70 na165 rfl rfl (bt rfl) (bt rfl) rfl (by rw [ShModel_k0 hS448, o165])) ln165 (pd165 (aR 448) (aI 0) (aI 2)) <| ?_
      refine ok_aloadn (pc' := 1) i165_0 rfl rfl <| ok_getfi (v := 0) (pc' := 4) i165_1 o165 gi9_63 (ShModel_k0 hS448) rd_eq rfl <| ok_kz0 (pc1 := 16) (pc2 := 7) i165_4 (by decide) rfl rfl <| ok_iloadn (pc' := 8) i165_7 rfl rfl <| ok_kz1 (pc1 := 16) (pc2 := 11) i165_8 (by decide) rfl rfl <| ok_aloadn (pc' := 17) i165_16 rfl rfl <| ok_getfi (v := 0) (pc' := 20) i165_17 o165 gi9_63 (ShModel_k0 hS448) rd_eq rfl <| ok_kz1 (pc1 := 27) (pc2 := 23) i165_20 (by decide) rfl rfl <| ?_
      refine ok_iconst (pc' := 28) i165_27 rfl <| ok_iretz i165_28 rt165 (by decide) <| kt_v (pc' := 31) rfl <| ok_kz1 (pc1 := 38) (pc2 := 34) i201_31 (by decide) rfl rfl <| ok_iconst (pc' := 39) i201_38 rfl <| ok_iretz i201_39 rt201 (by decide) <| kt_v (pc' := 5) rfl <| ok_kz1 (pc1 := 12) (pc2 := 8) i200_5 (by decide) rfl rfl <| ?_
      refine ok_aloadn (pc' := 13) i200_12 rfl rfl <| ok_getfr (r := (448 + 3)) (pc' := 16) i200_13 o200 gr9_16 (ShModel_k0 hS448) (ShModel_r6 hS448) rfl <| ok_iloadn (pc' := 17) i200_16 rfl rfl <| ok_iaload (v := (q (10 + v1))) (pc' := 18) i200_17 (ShModel_k3 hS448) (by decide) (ShModel_l3 hS448) (by omega) (rd_na (by omega) (rd_na (by omega) (RepO_3 hO (by omega) (by omega)))) rfl <| ok_ireti i200_18 rt200 <| kt_v (pc' := 768) rfl <| ok_istore (pc' := 770) (ls' := [aR 1, aR 100, aR 448, aR 464, aR 465, aI i, aI 0, aI (q (10 + v1)), w8]) i0_768 (bt rfl) rfl rfl <| ok_aloadn (pc' := 771) i0_770 rfl rfl <| ?_
      refine ok_cc i0_771 rfl (cl_v o0 m13_188 na157 rfl rfl (bt rfl) (bt rfl) rfl (by rw [ShModel_k0 hS448, o157])) ln157 (pd157 (aR 448)) <| ok_aloadn (pc' := 1) i157_0 rfl rfl <| ok_getfi (v := 0) (pc' := 4) i157_1 o157 gi9_63 (ShModel_k0 hS448) rd_eq rfl <| ok_ireti i157_4 rt157 <| kt_v (pc' := 774) rfl <| ok_iload (pc' := 776) i0_774 rfl rfl <| ok_kc1 (pc1 := 781) (pc2 := 779) i0_776 (by decide) rfl rfl <| ok_iload (pc' := 783) i0_781 rfl rfl <| ?_
      refine ok_kz0 (pc1 := 798) (pc2 := 786) i0_783 (by decide) rfl rfl <| ok_aloadn (pc' := 787) i0_786 rfl rfl <| ok_iconst (pc' := 788) i0_787 rfl <| ok_laload (v := (wr (q (10 + v1)))) (pc' := 789) i0_788 (ShOut_k0 hS464) (ShOut_l0 hS464) (by decide) (rd_na (by omega) rd_eq) rfl <| ok_iload (pc' := 791) i0_789 rfl rfl <| ok_i2l (v := (wr (q (10 + v1)))) (pc' := 792) i0_791 rfl rfl <| ok_lcmp0 (pc' := 793) i0_792 rfl <| ok_kz1 (pc1 := 798) (pc2 := 796) i0_793 (by decide) rfl rfl <| ?_
      refine ok_goto (pc' := 3329) i0_798 rfl <| ?_
      exact K _ _ _ _ _ _ hD (by omega) (Inv_mono (Inv_same hI (Same.thr (Same.out Same.rfl))) (by omega))
    · refine ok_throw th108_15 (bt rfl) <| kt_x hh107 <| kt_h hn284 hf284_4_10 hr284_15 <| kt_v (pc' := 756) rfl <| ?_
      refine ok_al hD (fun g hD => ?_)
      have hS448 := HD_o hD
      have hS1 := HD_s hD
      have hS464 := HD_u hD
      have hS465 := HD_ud hD
      refine ok_istore (pc' := 758) (ls' := [aR 1, aR 100, aR 448, aR 464, aR 465, aI i, aI 2, w7, w8]) i0_756 (bt rfl) rfl rfl <| ok_aloadn (pc' := 759) i0_758 rfl rfl <| ok_aloadn (pc' := 760) i0_759 rfl rfl <| ok_iload (pc' := 762) i0_760 rfl rfl <| ok_iconst (pc' := 763) i0_762 rfl <| ok_iadd (v := (i + 1)) (pc' := 764) i0_763 rfl rfl <| ok_iaload (v := v1) (pc' := 765) i0_764 (ShScr_k0 hS1) (by decide) (ShScr_l0 hS1) (by omega) hv1 rfl <| ok_cc i0_765 rfl (cl_v o0 m13_223 na200 rfl rfl (bt rfl) (bt rfl) rfl (by rw [ShModel_k0 hS448, o200])) ln200 (pd200 (aR 448) (aI v1)) <| ?_
      refine ok_aloadn (pc' := 1) i200_0 rfl rfl <| ok_iloadn (pc' := 2) i200_1 rfl rfl <| ok_cc i200_2 rfl (cl_v o200 m9_223 na201 rfl rfl (bt rfl) (bt rfl) rfl (by rw [ShModel_k0 hS448, o201])) ln201 (pd201 (aR 448) (aI v1)) <| ok_aloadn (pc' := 1) i201_0 rfl rfl <| ok_cc i201_1 rfl (cl_v o201 m9_216 na188 rfl rfl (bt rfl) (bt rfl) rfl (by rw [ShModel_k0 hS448, o188])) ln188 (pd188 (aR 448)) <| ok_aloadn (pc' := 1) i188_0 rfl rfl <| ok_iconst (pc' := 2) i188_1 rfl <| ok_putfj (kk := 0) (pc' := 5) i188_2 o188 pi188_63 (ShModel_k0 hS448) rfl rfl <| ?_
      refine ok_aloadn (pc' := 6) i188_5 rfl rfl <| ok_aloadn (pc' := 7) i188_6 rfl rfl <| ok_getfi (v := 1) (pc' := 10) i188_7 o188 gi9_66 (ShModel_k0 hS448) (rd_ni (by decide) (hld.trans hl)) rfl <| ok_kz1 (pc1 := 17) (pc2 := 13) i188_10 (by decide) rfl rfl <| ok_iconst (pc' := 18) i188_17 rfl <| ok_iconst (pc' := 19) i188_18 rfl <| ok_cc i188_19 rfl (cl_v o188 m9_70 na165 rfl rfl (bt rfl) (bt rfl) rfl (by rw [ShModel_k0 hS448, o165])) ln165 (pd165 (aR 448) (aI 0) (aI 1)) <| ok_aloadn (pc' := 1) i165_0 rfl rfl <| ?_
      refine ok_getfi (v := 0) (pc' := 4) i165_1 o165 gi9_63 (ShModel_k0 hS448) rd_eq rfl <| ok_kz0 (pc1 := 16) (pc2 := 7) i165_4 (by decide) rfl rfl <| ok_iloadn (pc' := 8) i165_7 rfl rfl <| ok_kz1 (pc1 := 16) (pc2 := 11) i165_8 (by decide) rfl rfl <| ok_aloadn (pc' := 17) i165_16 rfl rfl <| ok_getfi (v := 0) (pc' := 20) i165_17 o165 gi9_63 (ShModel_k0 hS448) rd_eq rfl <| ok_kz1 (pc1 := 27) (pc2 := 23) i165_20 (by decide) rfl rfl <| ok_iconst (pc' := 28) i165_27 rfl <| ?_
      refine ok_iretz i165_28 rt165 (by decide) <| kt_v (pc' := 22) rfl <| ok_iretz i188_22 rt188 (by decide) <| kt_v (pc' := 4) rfl <| ok_kz0 (pc1 := 34) (pc2 := 7) i201_4 (by decide) rfl rfl <| ok_aloadn (pc' := 8) i201_7 rfl rfl <| ok_iloadn (pc' := 9) i201_8 rfl rfl <| ok_iconst (pc' := 10) i201_9 rfl <| ?_
      refine ok_aloadn (pc' := 11) i201_10 rfl rfl <| ok_getfi (v := (q 1)) (pc' := 14) i201_11 o201 gi9_206 (ShModel_k0 hS448) (rd_ni (by decide) (RepO_f3 hO)) rfl <| ok_iconst (pc' := 15) i201_14 rfl <| ok_isub (v := ((q 1) - 1)) (pc' := 16) i201_15 rfl rfl <| ok_cc i201_16 rfl (cl_s o201 m9_140 na164 rfl rfl (bt rfl) (bt rfl) rfl) ln164 (pd164 (aI v1) (aI 0) (aI ((q 1) - 1))) <| ok_iloadn (pc' := 1) i164_0 rfl rfl <| ok_iloadn (pc' := 2) i164_1 rfl rfl <| ?_
      refine ok_clt (pc1 := 14) (pc2 := 5) i164_2 (by omega) rfl rfl (fun h9 => by exfalso; omega) (fun h506 => ?_)
      refine ok_iloadn (pc' := 6) i164_5 rfl rfl <| ok_iloadn (pc' := 7) i164_6 rfl rfl <| ?_
      refine ok_cgt (pc1 := 14) (pc2 := 10) i164_7 (by omega) rfl rfl (fun h507 => ?_) (fun h9 => by exfalso; omega)
      refine ok_iconst (pc' := 15) i164_14 rfl <| ok_iretz i164_15 rt164 (by decide) <| kt_v (pc' := 19) rfl <| ok_kz0 (pc1 := 26) (pc2 := 22) i201_19 (by decide) rfl rfl <| ok_iconst (pc' := 23) i201_22 rfl <| ok_goto (pc' := 27) i201_23 rfl <| ok_iconst (pc' := 28) i201_27 rfl <| ok_cc i201_28 rfl (cl_v o201 m9_70 na165 rfl rfl (bt rfl) (bt rfl) rfl (by rw [ShModel_k0 hS448, o165])) ln165 (pd165 (aR 448) (aI 1) (aI 2)) <| ?_
      refine ok_aloadn (pc' := 1) i165_0 rfl rfl <| ok_getfi (v := 0) (pc' := 4) i165_1 o165 gi9_63 (ShModel_k0 hS448) rd_eq rfl <| ok_kz0 (pc1 := 16) (pc2 := 7) i165_4 (by decide) rfl rfl <| ok_iloadn (pc' := 8) i165_7 rfl rfl <| ok_kz0 (pc1 := 16) (pc2 := 11) i165_8 (by decide) rfl rfl <| ok_aloadn (pc' := 12) i165_11 rfl rfl <| ok_iloadn (pc' := 13) i165_12 rfl rfl <| ok_putfj (kk := 0) (pc' := 16) i165_13 o165 pi165_63 (ShModel_k0 hS448) rfl rfl <| ?_
      refine ok_aloadn (pc' := 17) i165_16 rfl rfl <| ok_getfi (v := 2) (pc' := 20) i165_17 o165 gi9_63 (ShModel_k0 hS448) rd_eq rfl <| ok_kz0 (pc1 := 27) (pc2 := 23) i165_20 (by decide) rfl rfl <| ok_iconst (pc' := 24) i165_23 rfl <| ok_goto (pc' := 28) i165_24 rfl <| ok_iretz i165_28 rt165 (by decide) <| kt_v (pc' := 31) rfl <| ok_kz0 (pc1 := 38) (pc2 := 34) i201_31 (by decide) rfl rfl <| ?_
      refine ok_iconst (pc' := 35) i201_34 rfl <| ok_goto (pc' := 39) i201_35 rfl <| ok_iretz i201_39 rt201 (by decide) <| kt_v (pc' := 5) rfl <| ok_kz0 (pc1 := 12) (pc2 := 8) i200_5 (by decide) rfl rfl <| ok_iconst (pc' := 9) i200_8 rfl <| ok_goto (pc' := 18) i200_9 rfl <| ok_ireti i200_18 rt200 <| ?_
      refine kt_v (pc' := 768) rfl <| ok_istore (pc' := 770) (ls' := [aR 1, aR 100, aR 448, aR 464, aR 465, aI i, aI 2, aI 0, w8]) i0_768 (bt rfl) rfl rfl <| ok_aloadn (pc' := 771) i0_770 rfl rfl <| ok_cc i0_771 rfl (cl_v o0 m13_188 na157 rfl rfl (bt rfl) (bt rfl) rfl (by rw [ShModel_k0 hS448, o157])) ln157 (pd157 (aR 448)) <| ok_aloadn (pc' := 1) i157_0 rfl rfl <| ok_getfi (v := 2) (pc' := 4) i157_1 o157 gi9_63 (ShModel_k0 hS448) rd_eq rfl <| ok_ireti i157_4 rt157 <| kt_v (pc' := 774) rfl <| ?_
      refine ok_iload (pc' := 776) i0_774 rfl rfl <| ok_kc1 (pc1 := 781) (pc2 := 779) i0_776 (by decide) rfl rfl <| ok_iload (pc' := 783) i0_781 rfl rfl <| ok_kz1 (pc1 := 798) (pc2 := 786) i0_783 (by decide) rfl rfl <| ok_goto (pc' := 3329) i0_798 rfl <| ?_
      exact K _ _ _ _ _ _ hD (by omega) (Inv_mono (Inv_same hI (Same.thr (Same.thr Same.rfl))) (by omega))
theorem c10_0 {L n : Nat} {g : AG} {M : AM} {xs : Nat → Int32} {b i : Int} {w6 w7 w8 : AV} {Q : AO → AG → AM → Prop} (hD : HD L n g) (hI : Inv xs b M) (hi : 0 ≤ i ∧ i + 6 ≤ L) (hb : 0 ≤ b ∧ b ≤ 900000) (hl : M 100 6 = 0) (K : KK L n i b xs Q) :
    Ok 10 0 745 [aR 1, aR 100, aR 448, aR 464, aR 465, aI i, w6, w7, w8] [] g M Q := by
  have hI0 := hI
  obtain ⟨hA, hld, hl01, q, hc, ⟨nx, sz, hH, hsz⟩, hS⟩ := hI0
  have hH0 := hH
  obtain ⟨⟨hn1, hn0⟩, ⟨hz2, hz0⟩, h10, hHj⟩ := hH0
  obtain ⟨hw0, ⟨bu, by_, hb1, hb13, hbu, hZ, hU⟩, he3, he4, he5, hId, tx, hT, hUt, htl, htr⟩ := hA
  obtain ⟨v1, hv1⟩ : ∃ u9 : Int, M 1 (i + 1) = u9 := ⟨_, rfl⟩
  have hr1 : -2147483648 ≤ v1 ∧ v1 < 2147483648 := hv1 ▸ scr_rg hw0 (i + 1)
  have hS1 := HD_s hD
  have hS100 := HD_y hD
  have hS448 := HD_o hD
  have hS464 := HD_u hD
  have hS465 := HD_ud hD
  refine ok_aloadn (pc' := 746) i0_745 rfl rfl <| ok_aloadn (pc' := 747) i0_746 rfl rfl <| ok_iload (pc' := 749) i0_747 rfl rfl <| ok_iconst (pc' := 750) i0_749 rfl <| ok_iadd (v := (i + 1)) (pc' := 751) i0_750 rfl rfl <| ok_iaload (v := v1) (pc' := 752) i0_751 (ShScr_k0 hS1) (by decide) (ShScr_l0 hS1) (by omega) hv1 rfl <| ok_aloadn (pc' := 753) i0_752 rfl rfl <| ok_cc i0_753 rfl (cl_s o0 m13_221 na284 rfl rfl (bt rfl) (bt rfl) rfl) ln284 (pd284 (aR 100) (aI v1) (aR 464)) <| ?_
  refine ok_aloadn (pc' := 1) i284_0 rfl rfl <| ok_iconst (pc' := 2) i284_1 rfl <| ok_aloadn (pc' := 3) i284_2 rfl rfl <| ok_iloadn (pc' := 4) i284_3 rfl rfl <| ok_cc i284_4 rfl (cl_v o284 m13_33 na107 rfl rfl (bt rfl) (bt rfl) rfl (by rw [ShYard_k0 hS100, o107])) ln107 (pd107 (aR 100) (aI v1)) <| ok_aloadn (pc' := 1) i107_0 rfl rfl <| ok_cc i107_1 rfl (cl_v o107 m0_132 na99 rfl rfl (bt rfl) (bt rfl) rfl (by rw [ShYard_k0 hS100, o99])) ln99 (pd99 (aR 100)) <| ok_aloadn (pc' := 1) i99_0 rfl rfl <| ?_
  refine ok_getfi (v := 0) (pc' := 4) i99_1 o99 gi0_268 (ShYard_k0 hS100) hl rfl <| ok_kz0 (pc1 := 18) (pc2 := 7) i99_4 (by decide) rfl rfl <| ok_throw th99_7 (bt rfl) <| kt_x hh107 <| kt_h hn284 hf284_4_12 hr284_12 <| kt_v (pc' := 756) rfl <| ?_
  refine ok_al hD (fun g hD => ?_)
  have hS448 := HD_o hD
  have hS1 := HD_s hD
  have hS464 := HD_u hD
  have hS465 := HD_ud hD
  refine ok_istore (pc' := 758) (ls' := [aR 1, aR 100, aR 448, aR 464, aR 465, aI i, aI 1, w7, w8]) i0_756 (bt rfl) rfl rfl <| ok_aloadn (pc' := 759) i0_758 rfl rfl <| ok_aloadn (pc' := 760) i0_759 rfl rfl <| ok_iload (pc' := 762) i0_760 rfl rfl <| ok_iconst (pc' := 763) i0_762 rfl <| ok_iadd (v := (i + 1)) (pc' := 764) i0_763 rfl rfl <| ok_iaload (v := v1) (pc' := 765) i0_764 (ShScr_k0 hS1) (by decide) (ShScr_l0 hS1) (by omega) hv1 rfl <| ok_cc i0_765 rfl (cl_v o0 m13_223 na200 rfl rfl (bt rfl) (bt rfl) rfl (by rw [ShModel_k0 hS448, o200])) ln200 (pd200 (aR 448) (aI v1)) <| ?_
  refine ok_aloadn (pc' := 1) i200_0 rfl rfl <| ok_iloadn (pc' := 2) i200_1 rfl rfl <| ok_cc i200_2 rfl (cl_v o200 m9_223 na201 rfl rfl (bt rfl) (bt rfl) rfl (by rw [ShModel_k0 hS448, o201])) ln201 (pd201 (aR 448) (aI v1)) <| ok_aloadn (pc' := 1) i201_0 rfl rfl <| ok_cc i201_1 rfl (cl_v o201 m9_216 na188 rfl rfl (bt rfl) (bt rfl) rfl (by rw [ShModel_k0 hS448, o188])) ln188 (pd188 (aR 448)) <| ok_aloadn (pc' := 1) i188_0 rfl rfl <| ok_iconst (pc' := 2) i188_1 rfl <| ok_putfj (kk := 0) (pc' := 5) i188_2 o188 pi188_63 (ShModel_k0 hS448) rfl rfl <| ?_
  refine ok_aloadn (pc' := 6) i188_5 rfl rfl <| ok_aloadn (pc' := 7) i188_6 rfl rfl <| ok_getfi (v := 0) (pc' := 10) i188_7 o188 gi9_66 (ShModel_k0 hS448) (rd_ni (by decide) (hld.trans hl)) rfl <| ok_kz0 (pc1 := 17) (pc2 := 13) i188_10 (by decide) rfl rfl <| ok_iconst (pc' := 14) i188_13 rfl <| ok_goto (pc' := 18) i188_14 rfl <| ok_iconst (pc' := 19) i188_18 rfl <| ok_cc i188_19 rfl (cl_v o188 m9_70 na165 rfl rfl (bt rfl) (bt rfl) rfl (by rw [ShModel_k0 hS448, o165])) ln165 (pd165 (aR 448) (aI 1) (aI 1)) <| ?_
  refine ok_aloadn (pc' := 1) i165_0 rfl rfl <| ok_getfi (v := 0) (pc' := 4) i165_1 o165 gi9_63 (ShModel_k0 hS448) rd_eq rfl <| ok_kz0 (pc1 := 16) (pc2 := 7) i165_4 (by decide) rfl rfl <| ok_iloadn (pc' := 8) i165_7 rfl rfl <| ok_kz0 (pc1 := 16) (pc2 := 11) i165_8 (by decide) rfl rfl <| ok_aloadn (pc' := 12) i165_11 rfl rfl <| ok_iloadn (pc' := 13) i165_12 rfl rfl <| ok_putfj (kk := 0) (pc' := 16) i165_13 o165 pi165_63 (ShModel_k0 hS448) rfl rfl <| ?_
  refine ok_aloadn (pc' := 17) i165_16 rfl rfl <| ok_getfi (v := 1) (pc' := 20) i165_17 o165 gi9_63 (ShModel_k0 hS448) rd_eq rfl <| ok_kz0 (pc1 := 27) (pc2 := 23) i165_20 (by decide) rfl rfl <| ok_iconst (pc' := 24) i165_23 rfl <| ok_goto (pc' := 28) i165_24 rfl <| ok_iretz i165_28 rt165 (by decide) <| kt_v (pc' := 22) rfl <| ok_iretz i188_22 rt188 (by decide) <| ?_
  refine kt_v (pc' := 4) rfl <| ok_kz1 (pc1 := 34) (pc2 := 7) i201_4 (by decide) rfl rfl <| ok_iconst (pc' := 35) i201_34 rfl <| ok_goto (pc' := 39) i201_35 rfl <| ok_iretz i201_39 rt201 (by decide) <| kt_v (pc' := 5) rfl <| ok_kz0 (pc1 := 12) (pc2 := 8) i200_5 (by decide) rfl rfl <| ok_iconst (pc' := 9) i200_8 rfl <| ?_
  refine ok_goto (pc' := 18) i200_9 rfl <| ok_ireti i200_18 rt200 <| kt_v (pc' := 768) rfl <| ok_istore (pc' := 770) (ls' := [aR 1, aR 100, aR 448, aR 464, aR 465, aI i, aI 1, aI 0, w8]) i0_768 (bt rfl) rfl rfl <| ok_aloadn (pc' := 771) i0_770 rfl rfl <| ok_cc i0_771 rfl (cl_v o0 m13_188 na157 rfl rfl (bt rfl) (bt rfl) rfl (by rw [ShModel_k0 hS448, o157])) ln157 (pd157 (aR 448)) <| ok_aloadn (pc' := 1) i157_0 rfl rfl <| ok_getfi (v := 1) (pc' := 4) i157_1 o157 gi9_63 (ShModel_k0 hS448) rd_eq rfl <| ?_
  refine ok_ireti i157_4 rt157 <| kt_v (pc' := 774) rfl <| ok_iload (pc' := 776) i0_774 rfl rfl <| ok_kc1 (pc1 := 781) (pc2 := 779) i0_776 (by decide) rfl rfl <| ok_iload (pc' := 783) i0_781 rfl rfl <| ok_kz1 (pc1 := 798) (pc2 := 786) i0_783 (by decide) rfl rfl <| ok_goto (pc' := 3329) i0_798 rfl <| ?_
  exact K _ _ _ _ _ _ hD (by omega) (Inv_mono (Inv_same hI (Same.thr (Same.thr Same.rfl))) (by omega))
theorem c8_1 {L n : Nat} {g : AG} {M : AM} {xs : Nat → Int32} {b i : Int} {w6 w7 w8 : AV} {Q : AO → AG → AM → Prop} (hD : HD L n g) (hI : Inv xs b M) (hi : 0 ≤ i ∧ i + 6 ≤ L) (hb : 0 ≤ b ∧ b ≤ 900000) (hl : M 100 6 = 1) (K : KK L n i b xs Q) :
    Ok 10 0 609 [aR 1, aR 100, aR 448, aR 464, aR 465, aI i, w6, w7, w8] [] g M Q := by
  have hI0 := hI
  obtain ⟨hA, hld, hl01, q, hc, ⟨nx, sz, hH, hsz⟩, hS⟩ := hI0
  have hH0 := hH
  obtain ⟨⟨hn1, hn0⟩, ⟨hz2, hz0⟩, h10, hHj⟩ := hH0
  obtain ⟨hw0, ⟨bu, by_, hb1, hb13, hbu, hZ, hU⟩, he3, he4, he5, hId, tx, hT, hUt, htl, htr⟩ := hA
  obtain ⟨s, hP, hRB, hO, hV, hQ, h40⟩ := hc hl
  have ys3 := V_3 hV
  have ys4 := V_4 hV
  have yq0 := Q_0 hQ
  have yq1 := Q_1 hQ
  obtain ⟨v1, hv1⟩ : ∃ u9 : Int, M 1 (i + 1) = u9 := ⟨_, rfl⟩
  have hr1 : -2147483648 ≤ v1 ∧ v1 < 2147483648 := hv1 ▸ scr_rg hw0 (i + 1)
  obtain ⟨v2, hv2⟩ : ∃ u9 : Int, M 1 (i + 2) = u9 := ⟨_, rfl⟩
  have hr2 : -2147483648 ≤ v2 ∧ v2 < 2147483648 := hv2 ▸ scr_rg hw0 (i + 2)
  have hS1 := HD_s hD
  have hS100 := HD_y hD
  have hS149 := HD_b hD
  have hS448 := HD_o hD
  have hS464 := HD_u hD
  have hS465 := HD_ud hD
  refine ok_aloadn (pc' := 610) i0_609 rfl rfl <| ok_aloadn (pc' := 611) i0_610 rfl rfl <| ok_iload (pc' := 613) i0_611 rfl rfl <| ok_iconst (pc' := 614) i0_613 rfl <| ok_iadd (v := (i + 1)) (pc' := 615) i0_614 rfl rfl <| ok_iaload (v := v1) (pc' := 616) i0_615 (ShScr_k0 hS1) (by decide) (ShScr_l0 hS1) (by omega) hv1 rfl <| ok_aloadn (pc' := 617) i0_616 rfl rfl <| ok_iload (pc' := 619) i0_617 rfl rfl <| ?_
  refine ok_iconst (pc' := 620) i0_619 rfl <| ok_iadd (v := (i + 2)) (pc' := 621) i0_620 rfl rfl <| ok_iaload (v := v2) (pc' := 622) i0_621 (ShScr_k0 hS1) (by decide) (ShScr_l0 hS1) (by omega) hv2 rfl <| ok_aloadn (pc' := 623) i0_622 rfl rfl <| ok_cc i0_623 rfl (cl_s o0 m13_214 na282 rfl rfl (bt rfl) (bt rfl) rfl) ln282 (pd282 (aR 100) (aI v1) (aI v2) (aR 464)) <| ok_aloadn (pc' := 1) i282_0 rfl rfl <| ok_iconst (pc' := 2) i282_1 rfl <| ok_aloadn (pc' := 3) i282_2 rfl rfl <| ?_
  refine ok_iloadn (pc' := 4) i282_3 rfl rfl <| ok_iloadn (pc' := 5) i282_4 rfl rfl <| ok_cc i282_5 rfl (cl_v o282 m13_26 na102 rfl rfl (bt rfl) (bt rfl) rfl (by rw [ShYard_k0 hS100, o102])) ln102 (pd102 (aR 100) (aI v1) (aI v2)) <| ok_aloadn (pc' := 1) i102_0 rfl rfl <| ok_cc i102_1 rfl (cl_v o102 m0_132 na99 rfl rfl (bt rfl) (bt rfl) rfl (by rw [ShYard_k0 hS100, o99])) ln99 (pd99 (aR 100)) <| ok_aloadn (pc' := 1) i99_0 rfl rfl <| ok_getfi (v := 1) (pc' := 4) i99_1 o99 gi0_268 (ShYard_k0 hS100) hl rfl <| ok_kz1 (pc1 := 18) (pc2 := 7) i99_4 (by decide) rfl rfl <| ?_
  refine ok_vret i99_18 rt99 <| kt_0 (pc' := 4) rfl <| ok_aloadn (pc' := 5) i102_4 rfl rfl <| ok_iloadn (pc' := 6) i102_5 rfl rfl <| ok_cc i102_6 rfl (cl_v o102 m0_169 na103 rfl rfl (bt rfl) (bt rfl) rfl (by rw [ShYard_k0 hS100, o103])) ln103 (pd103 (aR 100) (aI v1)) <| ok_iloadn (pc' := 1) i103_0 rfl rfl <| ?_
  refine ok_zlt (pc1 := 15) (pc2 := 4) i103_1 (by omega) rfl rfl (fun h501 => ?_) (fun h501 => ?_)
  · refine ok_throw th103_15 (bt rfl) <| kt_x hh102 <| kt_h hn282 hf282_5_10 hr282_17 <| kt_v (pc' := 626) rfl <| ?_
    refine ok_al hD (fun g hD => ?_)
    have hS448 := HD_o hD
    have hS1 := HD_s hD
    have hS464 := HD_u hD
    have hS465 := HD_ud hD
    refine ok_istore (pc' := 628) (ls' := [aR 1, aR 100, aR 448, aR 464, aR 465, aI i, aI 2, w7, w8]) i0_626 (bt rfl) rfl rfl <| ok_aloadn (pc' := 629) i0_628 rfl rfl <| ok_aloadn (pc' := 630) i0_629 rfl rfl <| ok_iload (pc' := 632) i0_630 rfl rfl <| ok_iconst (pc' := 633) i0_632 rfl <| ok_iadd (v := (i + 1)) (pc' := 634) i0_633 rfl rfl <| ok_iaload (v := v1) (pc' := 635) i0_634 (ShScr_k0 hS1) (by decide) (ShScr_l0 hS1) (by omega) hv1 rfl <| ok_aloadn (pc' := 636) i0_635 rfl rfl <| ?_
    refine ok_iload (pc' := 638) i0_636 rfl rfl <| ok_iconst (pc' := 639) i0_638 rfl <| ok_iadd (v := (i + 2)) (pc' := 640) i0_639 rfl rfl <| ok_iaload (v := v2) (pc' := 641) i0_640 (ShScr_k0 hS1) (by decide) (ShScr_l0 hS1) (by omega) hv2 rfl <| ok_cc i0_641 rfl (cl_v o0 m13_217 na195 rfl rfl (bt rfl) (bt rfl) rfl (by rw [ShModel_k0 hS448, o195])) ln195 (pd195 (aR 448) (aI v1) (aI v2)) <| ok_aloadn (pc' := 1) i195_0 rfl rfl <| ok_iloadn (pc' := 2) i195_1 rfl rfl <| ok_cc i195_2 rfl (cl_v o195 m9_241 na196 rfl rfl (bt rfl) (bt rfl) rfl (by rw [ShModel_k0 hS448, o196])) ln196 (pd196 (aR 448) (aI v1)) <| ?_
    refine ok_aloadn (pc' := 1) i196_0 rfl rfl <| ok_cc i196_1 rfl (cl_v o196 m9_216 na188 rfl rfl (bt rfl) (bt rfl) rfl (by rw [ShModel_k0 hS448, o188])) ln188 (pd188 (aR 448)) <| ok_aloadn (pc' := 1) i188_0 rfl rfl <| ok_iconst (pc' := 2) i188_1 rfl <| ok_putfj (kk := 0) (pc' := 5) i188_2 o188 pi188_63 (ShModel_k0 hS448) rfl rfl <| ok_aloadn (pc' := 6) i188_5 rfl rfl <| ok_aloadn (pc' := 7) i188_6 rfl rfl <| ok_getfi (v := 1) (pc' := 10) i188_7 o188 gi9_66 (ShModel_k0 hS448) (rd_ni (by decide) (hld.trans hl)) rfl <| ?_
    refine ok_kz1 (pc1 := 17) (pc2 := 13) i188_10 (by decide) rfl rfl <| ok_iconst (pc' := 18) i188_17 rfl <| ok_iconst (pc' := 19) i188_18 rfl <| ok_cc i188_19 rfl (cl_v o188 m9_70 na165 rfl rfl (bt rfl) (bt rfl) rfl (by rw [ShModel_k0 hS448, o165])) ln165 (pd165 (aR 448) (aI 0) (aI 1)) <| ok_aloadn (pc' := 1) i165_0 rfl rfl <| ok_getfi (v := 0) (pc' := 4) i165_1 o165 gi9_63 (ShModel_k0 hS448) rd_eq rfl <| ok_kz0 (pc1 := 16) (pc2 := 7) i165_4 (by decide) rfl rfl <| ok_iloadn (pc' := 8) i165_7 rfl rfl <| ?_
    refine ok_kz1 (pc1 := 16) (pc2 := 11) i165_8 (by decide) rfl rfl <| ok_aloadn (pc' := 17) i165_16 rfl rfl <| ok_getfi (v := 0) (pc' := 20) i165_17 o165 gi9_63 (ShModel_k0 hS448) rd_eq rfl <| ok_kz1 (pc1 := 27) (pc2 := 23) i165_20 (by decide) rfl rfl <| ok_iconst (pc' := 28) i165_27 rfl <| ok_iretz i165_28 rt165 (by decide) <| kt_v (pc' := 22) rfl <| ok_iretz i188_22 rt188 (by decide) <| ?_
    refine kt_v (pc' := 4) rfl <| ok_kz0 (pc1 := 28) (pc2 := 7) i196_4 (by decide) rfl rfl <| ok_aloadn (pc' := 8) i196_7 rfl rfl <| ok_aloadn (pc' := 9) i196_8 rfl rfl <| ok_iloadn (pc' := 10) i196_9 rfl rfl <| ok_cc i196_10 rfl (cl_v o196 m9_220 na197 rfl rfl (bt rfl) (bt rfl) rfl (by rw [ShModel_k0 hS448, o197])) ln197 (pd197 (aR 448) (aI v1)) <| ok_iloadn (pc' := 1) i197_0 rfl rfl <| ok_iconst (pc' := 2) i197_1 rfl <| ?_
    refine ok_aloadn (pc' := 3) i197_2 rfl rfl <| ok_getfr (r := (448 + 5)) (pc' := 6) i197_3 o197 gr9_22 (ShModel_k0 hS448) (ShModel_r8 hS448) rfl <| ok_iconst (pc' := 7) i197_6 rfl <| ok_iaload (v := (s 3)) (pc' := 8) i197_7 (ShModel_k5 hS448) (by decide) (ShModel_l5 hS448) (by decide) (rd_na (by omega) (RepO_s hO)) rfl <| ok_iconst (pc' := 9) i197_8 rfl <| ok_isub (v := ((s 3) - 1)) (pc' := 10) i197_9 rfl rfl <| ok_cc i197_10 rfl (cl_s o197 m9_140 na164 rfl rfl (bt rfl) (bt rfl) rfl) ln164 (pd164 (aI v1) (aI 0) (aI ((s 3) - 1))) <| ok_iloadn (pc' := 1) i164_0 rfl rfl <| ?_
    refine ok_iloadn (pc' := 2) i164_1 rfl rfl <| ?_
    refine ok_clt (pc1 := 14) (pc2 := 5) i164_2 (by omega) rfl rfl (fun h502 => ?_) (fun h9 => by exfalso; omega)
    refine ok_iconst (pc' := 15) i164_14 rfl <| ok_iretz i164_15 rt164 (by decide) <| kt_v (pc' := 13) rfl <| ok_iretz i197_13 rt197 (by decide) <| kt_v (pc' := 13) rfl <| ok_kz0 (pc1 := 20) (pc2 := 16) i196_13 (by decide) rfl rfl <| ok_iconst (pc' := 17) i196_16 rfl <| ok_goto (pc' := 21) i196_17 rfl <| ?_
    refine ok_iconst (pc' := 22) i196_21 rfl <| ok_cc i196_22 rfl (cl_v o196 m9_70 na165 rfl rfl (bt rfl) (bt rfl) rfl (by rw [ShModel_k0 hS448, o165])) ln165 (pd165 (aR 448) (aI 1) (aI 2)) <| ok_aloadn (pc' := 1) i165_0 rfl rfl <| ok_getfi (v := 0) (pc' := 4) i165_1 o165 gi9_63 (ShModel_k0 hS448) rd_eq rfl <| ok_kz0 (pc1 := 16) (pc2 := 7) i165_4 (by decide) rfl rfl <| ok_iloadn (pc' := 8) i165_7 rfl rfl <| ok_kz0 (pc1 := 16) (pc2 := 11) i165_8 (by decide) rfl rfl <| ok_aloadn (pc' := 12) i165_11 rfl rfl <| ?_
    refine ok_iloadn (pc' := 13) i165_12 rfl rfl <| ok_putfj (kk := 0) (pc' := 16) i165_13 o165 pi165_63 (ShModel_k0 hS448) rfl rfl <| ok_aloadn (pc' := 17) i165_16 rfl rfl <| ok_getfi (v := 2) (pc' := 20) i165_17 o165 gi9_63 (ShModel_k0 hS448) rd_eq rfl <| ok_kz0 (pc1 := 27) (pc2 := 23) i165_20 (by decide) rfl rfl <| ok_iconst (pc' := 24) i165_23 rfl <| ok_goto (pc' := 28) i165_24 rfl <| ok_iretz i165_28 rt165 (by decide) <| ?_
    refine kt_v (pc' := 25) rfl <| ok_kz0 (pc1 := 32) (pc2 := 28) i196_25 (by decide) rfl rfl <| ok_iconst (pc' := 29) i196_28 rfl <| ok_goto (pc' := 33) i196_29 rfl <| ok_iretz i196_33 rt196 (by decide) <| kt_v (pc' := 5) rfl <| ok_kz1 (pc1 := 30) (pc2 := 8) i195_5 (by decide) rfl rfl <| ok_iconst (pc' := 31) i195_30 rfl <| ?_
    refine ok_goto (pc' := 48) i195_31 rfl <| ok_ireti i195_48 rt195 <| kt_v (pc' := 644) rfl <| ok_istore (pc' := 646) (ls' := [aR 1, aR 100, aR 448, aR 464, aR 465, aI i, aI 2, aI 0, w8]) i0_644 (bt rfl) rfl rfl <| ok_aloadn (pc' := 647) i0_646 rfl rfl <| ok_cc i0_647 rfl (cl_v o0 m13_188 na157 rfl rfl (bt rfl) (bt rfl) rfl (by rw [ShModel_k0 hS448, o157])) ln157 (pd157 (aR 448)) <| ok_aloadn (pc' := 1) i157_0 rfl rfl <| ok_getfi (v := 2) (pc' := 4) i157_1 o157 gi9_63 (ShModel_k0 hS448) rd_eq rfl <| ?_
    refine ok_ireti i157_4 rt157 <| kt_v (pc' := 650) rfl <| ok_iload (pc' := 652) i0_650 rfl rfl <| ok_kc1 (pc1 := 657) (pc2 := 655) i0_652 (by decide) rfl rfl <| ok_iload (pc' := 659) i0_657 rfl rfl <| ok_kz1 (pc1 := 674) (pc2 := 662) i0_659 (by decide) rfl rfl <| ok_goto (pc' := 3329) i0_674 rfl <| ?_
    exact K _ _ _ _ _ _ hD (by omega) (Inv_mono (Inv_same hI (Same.thr (Same.thr Same.rfl))) (by omega))
  · refine ok_iloadn (pc' := 5) i103_4 rfl rfl <| ok_aloadn (pc' := 6) i103_5 rfl rfl <| ok_getfr (r := 149) (pc' := 9) i103_6 o103 gr0_39 (ShYard_k0 hS100) (ShYard_r8 hS100) rfl <| ok_getfi (v := (s 3)) (pc' := 12) i103_9 o103 gi0_129 (ShState_k0 hS149) (RepS_f2 hRB) rfl <| ?_
    refine ok_clt (pc1 := 26) (pc2 := 15) i103_12 (by omega) rfl rfl (fun h503 => ?_) (fun h503 => ?_)
    · refine ok_vret i103_26 rt103 <| kt_0 (pc' := 9) rfl <| ok_iloadn (pc' := 10) i102_9 rfl rfl <| ok_iconst (pc' := 11) i102_10 rfl <| ok_iconst (pc' := 12) i102_11 rfl <| ok_cc i102_12 rfl (cl_s o102 m0_172 na104 rfl rfl (bt rfl) (bt rfl) rfl) ln104 (pd104 (aI v2) (aI 0) (aI 4)) <| ok_iloadn (pc' := 1) i104_0 rfl rfl <| ok_iloadn (pc' := 2) i104_1 rfl rfl <| ?_
      refine ok_clt (pc1 := 10) (pc2 := 5) i104_2 (by omega) rfl rfl (fun h504 => ?_) (fun h504 => ?_)
      · refine ok_throw th104_10 (bt rfl) <| kt_x hh102 <| kt_h hn282 hf282_5_11 hr282_21 <| kt_v (pc' := 626) rfl <| ?_
        refine ok_al hD (fun g hD => ?_)
        have hS448 := HD_o hD
        have hS1 := HD_s hD
        have hS464 := HD_u hD
        have hS465 := HD_ud hD
        refine ok_istore (pc' := 628) (ls' := [aR 1, aR 100, aR 448, aR 464, aR 465, aI i, aI 3, w7, w8]) i0_626 (bt rfl) rfl rfl <| ok_aloadn (pc' := 629) i0_628 rfl rfl <| ok_aloadn (pc' := 630) i0_629 rfl rfl <| ok_iload (pc' := 632) i0_630 rfl rfl <| ok_iconst (pc' := 633) i0_632 rfl <| ok_iadd (v := (i + 1)) (pc' := 634) i0_633 rfl rfl <| ok_iaload (v := v1) (pc' := 635) i0_634 (ShScr_k0 hS1) (by decide) (ShScr_l0 hS1) (by omega) hv1 rfl <| ok_aloadn (pc' := 636) i0_635 rfl rfl <| ?_
        refine ok_iload (pc' := 638) i0_636 rfl rfl <| ok_iconst (pc' := 639) i0_638 rfl <| ok_iadd (v := (i + 2)) (pc' := 640) i0_639 rfl rfl <| ok_iaload (v := v2) (pc' := 641) i0_640 (ShScr_k0 hS1) (by decide) (ShScr_l0 hS1) (by omega) hv2 rfl <| ok_cc i0_641 rfl (cl_v o0 m13_217 na195 rfl rfl (bt rfl) (bt rfl) rfl (by rw [ShModel_k0 hS448, o195])) ln195 (pd195 (aR 448) (aI v1) (aI v2)) <| ok_aloadn (pc' := 1) i195_0 rfl rfl <| ok_iloadn (pc' := 2) i195_1 rfl rfl <| ok_cc i195_2 rfl (cl_v o195 m9_241 na196 rfl rfl (bt rfl) (bt rfl) rfl (by rw [ShModel_k0 hS448, o196])) ln196 (pd196 (aR 448) (aI v1)) <| ?_
        refine ok_aloadn (pc' := 1) i196_0 rfl rfl <| ok_cc i196_1 rfl (cl_v o196 m9_216 na188 rfl rfl (bt rfl) (bt rfl) rfl (by rw [ShModel_k0 hS448, o188])) ln188 (pd188 (aR 448)) <| ok_aloadn (pc' := 1) i188_0 rfl rfl <| ok_iconst (pc' := 2) i188_1 rfl <| ok_putfj (kk := 0) (pc' := 5) i188_2 o188 pi188_63 (ShModel_k0 hS448) rfl rfl <| ok_aloadn (pc' := 6) i188_5 rfl rfl <| ok_aloadn (pc' := 7) i188_6 rfl rfl <| ok_getfi (v := 1) (pc' := 10) i188_7 o188 gi9_66 (ShModel_k0 hS448) (rd_ni (by decide) (hld.trans hl)) rfl <| ?_
        refine ok_kz1 (pc1 := 17) (pc2 := 13) i188_10 (by decide) rfl rfl <| ok_iconst (pc' := 18) i188_17 rfl <| ok_iconst (pc' := 19) i188_18 rfl <| ok_cc i188_19 rfl (cl_v o188 m9_70 na165 rfl rfl (bt rfl) (bt rfl) rfl (by rw [ShModel_k0 hS448, o165])) ln165 (pd165 (aR 448) (aI 0) (aI 1)) <| ok_aloadn (pc' := 1) i165_0 rfl rfl <| ok_getfi (v := 0) (pc' := 4) i165_1 o165 gi9_63 (ShModel_k0 hS448) rd_eq rfl <| ok_kz0 (pc1 := 16) (pc2 := 7) i165_4 (by decide) rfl rfl <| ok_iloadn (pc' := 8) i165_7 rfl rfl <| ?_
        refine ok_kz1 (pc1 := 16) (pc2 := 11) i165_8 (by decide) rfl rfl <| ok_aloadn (pc' := 17) i165_16 rfl rfl <| ok_getfi (v := 0) (pc' := 20) i165_17 o165 gi9_63 (ShModel_k0 hS448) rd_eq rfl <| ok_kz1 (pc1 := 27) (pc2 := 23) i165_20 (by decide) rfl rfl <| ok_iconst (pc' := 28) i165_27 rfl <| ok_iretz i165_28 rt165 (by decide) <| kt_v (pc' := 22) rfl <| ok_iretz i188_22 rt188 (by decide) <| ?_
        refine kt_v (pc' := 4) rfl <| ok_kz0 (pc1 := 28) (pc2 := 7) i196_4 (by decide) rfl rfl <| ok_aloadn (pc' := 8) i196_7 rfl rfl <| ok_aloadn (pc' := 9) i196_8 rfl rfl <| ok_iloadn (pc' := 10) i196_9 rfl rfl <| ok_cc i196_10 rfl (cl_v o196 m9_220 na197 rfl rfl (bt rfl) (bt rfl) rfl (by rw [ShModel_k0 hS448, o197])) ln197 (pd197 (aR 448) (aI v1)) <| ok_iloadn (pc' := 1) i197_0 rfl rfl <| ok_iconst (pc' := 2) i197_1 rfl <| ?_
        refine ok_aloadn (pc' := 3) i197_2 rfl rfl <| ok_getfr (r := (448 + 5)) (pc' := 6) i197_3 o197 gr9_22 (ShModel_k0 hS448) (ShModel_r8 hS448) rfl <| ok_iconst (pc' := 7) i197_6 rfl <| ok_iaload (v := (s 3)) (pc' := 8) i197_7 (ShModel_k5 hS448) (by decide) (ShModel_l5 hS448) (by decide) (rd_na (by omega) (RepO_s hO)) rfl <| ok_iconst (pc' := 9) i197_8 rfl <| ok_isub (v := ((s 3) - 1)) (pc' := 10) i197_9 rfl rfl <| ok_cc i197_10 rfl (cl_s o197 m9_140 na164 rfl rfl (bt rfl) (bt rfl) rfl) ln164 (pd164 (aI v1) (aI 0) (aI ((s 3) - 1))) <| ok_iloadn (pc' := 1) i164_0 rfl rfl <| ?_
        refine ok_iloadn (pc' := 2) i164_1 rfl rfl <| ?_
        refine ok_clt (pc1 := 14) (pc2 := 5) i164_2 (by omega) rfl rfl (fun h9 => by exfalso; omega) (fun h505 => ?_)
        refine ok_iloadn (pc' := 6) i164_5 rfl rfl <| ok_iloadn (pc' := 7) i164_6 rfl rfl <| ?_
        refine ok_cgt (pc1 := 14) (pc2 := 10) i164_7 (by omega) rfl rfl (fun h9 => by exfalso; omega) (fun h506 => ?_)
        refine ok_iconst (pc' := 11) i164_10 rfl <| ok_goto (pc' := 15) i164_11 rfl <| ok_iretz i164_15 rt164 (by decide) <| kt_v (pc' := 13) rfl <| ok_iretz i197_13 rt197 (by decide) <| kt_v (pc' := 13) rfl <| ok_kz1 (pc1 := 20) (pc2 := 16) i196_13 (by decide) rfl rfl <| ok_iconst (pc' := 21) i196_20 rfl <| ?_
        refine ok_iconst (pc' := 22) i196_21 rfl <| ok_cc i196_22 rfl (cl_v o196 m9_70 na165 rfl rfl (bt rfl) (bt rfl) rfl (by rw [ShModel_k0 hS448, o165])) ln165 (pd165 (aR 448) (aI 0) (aI 2)) <| ok_aloadn (pc' := 1) i165_0 rfl rfl <| ok_getfi (v := 0) (pc' := 4) i165_1 o165 gi9_63 (ShModel_k0 hS448) rd_eq rfl <| ok_kz0 (pc1 := 16) (pc2 := 7) i165_4 (by decide) rfl rfl <| ok_iloadn (pc' := 8) i165_7 rfl rfl <| ok_kz1 (pc1 := 16) (pc2 := 11) i165_8 (by decide) rfl rfl <| ok_aloadn (pc' := 17) i165_16 rfl rfl <| ?_
        refine ok_getfi (v := 0) (pc' := 20) i165_17 o165 gi9_63 (ShModel_k0 hS448) rd_eq rfl <| ok_kz1 (pc1 := 27) (pc2 := 23) i165_20 (by decide) rfl rfl <| ok_iconst (pc' := 28) i165_27 rfl <| ok_iretz i165_28 rt165 (by decide) <| kt_v (pc' := 25) rfl <| ok_kz1 (pc1 := 32) (pc2 := 28) i196_25 (by decide) rfl rfl <| ok_iconst (pc' := 33) i196_32 rfl <| ok_iretz i196_33 rt196 (by decide) <| ?_
        refine kt_v (pc' := 5) rfl <| ok_kz0 (pc1 := 30) (pc2 := 8) i195_5 (by decide) rfl rfl <| ok_aloadn (pc' := 9) i195_8 rfl rfl <| ok_iloadn (pc' := 10) i195_9 rfl rfl <| ok_iconst (pc' := 11) i195_10 rfl <| ok_iconst (pc' := 12) i195_11 rfl <| ok_cc i195_12 rfl (cl_s o195 m9_140 na164 rfl rfl (bt rfl) (bt rfl) rfl) ln164 (pd164 (aI v2) (aI 0) (aI 4)) <| ok_iloadn (pc' := 1) i164_0 rfl rfl <| ?_
        refine ok_iloadn (pc' := 2) i164_1 rfl rfl <| ?_
        refine ok_clt (pc1 := 14) (pc2 := 5) i164_2 (by omega) rfl rfl (fun h507 => ?_) (fun h9 => by exfalso; omega)
        refine ok_iconst (pc' := 15) i164_14 rfl <| ok_iretz i164_15 rt164 (by decide) <| kt_v (pc' := 15) rfl <| ok_kz0 (pc1 := 22) (pc2 := 18) i195_15 (by decide) rfl rfl <| ok_iconst (pc' := 19) i195_18 rfl <| ok_goto (pc' := 23) i195_19 rfl <| ok_iconst (pc' := 24) i195_23 rfl <| ok_cc i195_24 rfl (cl_v o195 m9_70 na165 rfl rfl (bt rfl) (bt rfl) rfl (by rw [ShModel_k0 hS448, o165])) ln165 (pd165 (aR 448) (aI 1) (aI 3)) <| ?_
        refine ok_aloadn (pc' := 1) i165_0 rfl rfl <| ok_getfi (v := 0) (pc' := 4) i165_1 o165 gi9_63 (ShModel_k0 hS448) rd_eq rfl <| ok_kz0 (pc1 := 16) (pc2 := 7) i165_4 (by decide) rfl rfl <| ok_iloadn (pc' := 8) i165_7 rfl rfl <| ok_kz0 (pc1 := 16) (pc2 := 11) i165_8 (by decide) rfl rfl <| ok_aloadn (pc' := 12) i165_11 rfl rfl <| ok_iloadn (pc' := 13) i165_12 rfl rfl <| ok_putfj (kk := 0) (pc' := 16) i165_13 o165 pi165_63 (ShModel_k0 hS448) rfl rfl <| ?_
        refine ok_aloadn (pc' := 17) i165_16 rfl rfl <| ok_getfi (v := 3) (pc' := 20) i165_17 o165 gi9_63 (ShModel_k0 hS448) rd_eq rfl <| ok_kz0 (pc1 := 27) (pc2 := 23) i165_20 (by decide) rfl rfl <| ok_iconst (pc' := 24) i165_23 rfl <| ok_goto (pc' := 28) i165_24 rfl <| ok_iretz i165_28 rt165 (by decide) <| kt_v (pc' := 27) rfl <| ok_kz0 (pc1 := 34) (pc2 := 30) i195_27 (by decide) rfl rfl <| ?_
        refine ok_iconst (pc' := 31) i195_30 rfl <| ok_goto (pc' := 48) i195_31 rfl <| ok_ireti i195_48 rt195 <| kt_v (pc' := 644) rfl <| ok_istore (pc' := 646) (ls' := [aR 1, aR 100, aR 448, aR 464, aR 465, aI i, aI 3, aI 0, w8]) i0_644 (bt rfl) rfl rfl <| ok_aloadn (pc' := 647) i0_646 rfl rfl <| ok_cc i0_647 rfl (cl_v o0 m13_188 na157 rfl rfl (bt rfl) (bt rfl) rfl (by rw [ShModel_k0 hS448, o157])) ln157 (pd157 (aR 448)) <| ok_aloadn (pc' := 1) i157_0 rfl rfl <| ?_
        refine ok_getfi (v := 3) (pc' := 4) i157_1 o157 gi9_63 (ShModel_k0 hS448) rd_eq rfl <| ok_ireti i157_4 rt157 <| kt_v (pc' := 650) rfl <| ok_iload (pc' := 652) i0_650 rfl rfl <| ok_kc1 (pc1 := 657) (pc2 := 655) i0_652 (by decide) rfl rfl <| ok_iload (pc' := 659) i0_657 rfl rfl <| ok_kz1 (pc1 := 674) (pc2 := 662) i0_659 (by decide) rfl rfl <| ok_goto (pc' := 3329) i0_674 rfl <| ?_
        exact K _ _ _ _ _ _ hD (by omega) (Inv_mono (Inv_same hI (Same.thr (Same.thr Same.rfl))) (by omega))
      · refine ok_iloadn (pc' := 6) i104_5 rfl rfl <| ok_iloadn (pc' := 7) i104_6 rfl rfl <| ?_
        refine ok_cle (pc1 := 21) (pc2 := 10) i104_7 (by omega) rfl rfl (fun h508 => ?_) (fun h508 => ?_)
        · refine ok_vret i104_21 rt104 <| kt_0 (pc' := 15) rfl <| ok_aloadn (pc' := 16) i102_15 rfl rfl <| ok_getfr (r := 149) (pc' := 19) i102_16 o102 gr0_39 (ShYard_k0 hS100) (ShYard_r8 hS100) rfl <| ok_getfr (r := (149 + 2)) (pc' := 22) i102_19 o102 gr0_176 (ShState_k0 hS149) (ShState_r3 hS149) rfl <| ok_iloadn (pc' := 23) i102_22 rfl rfl <| ok_aaload (r := (149 + 3 + v2.toNat)) (pc' := 24) i102_23 (ShState_k2 hS149) (by decide) (ShState_l2 hS149) (by omega) (ShState_ev2 hS149 (by omega) (by omega)) rfl <| ok_iloadn (pc' := 25) i102_24 rfl rfl <| ?_
          refine ok_iaload (v := (s ((14 + (80 * v2)) + v1))) (pc' := 26) i102_25 (ShState_kv2 hS149 (by omega) (by omega)) (by decide) (ShState_lv2 hS149 (by omega) (by omega)) (by omega) (RepS_rv hRB (by omega) (by omega) (by omega) (by omega)) rfl <| ok_ireti i102_26 rt102 <| kt_v (pc' := 8) rfl <| ok_i2l (v := (wr (s ((14 + (80 * v2)) + v1)))) (pc' := 9) i282_8 rfl rfl <| ok_lastore (pc' := 10) i282_9 (ShOut_k0 hS464) (ShOut_l0 hS464) (by decide) rfl <| ok_goto (pc' := 25) i282_10 rfl <| ok_iconst (pc' := 26) i282_25 rfl <| ok_ireti i282_26 rt282 <| ?_
          refine kt_v (pc' := 626) rfl <| ok_istore (pc' := 628) (ls' := [aR 1, aR 100, aR 448, aR 464, aR 465, aI i, aI 0, w7, w8]) i0_626 (bt rfl) rfl rfl <| ok_aloadn (pc' := 629) i0_628 rfl rfl <| ok_aloadn (pc' := 630) i0_629 rfl rfl <| ok_iload (pc' := 632) i0_630 rfl rfl <| ok_iconst (pc' := 633) i0_632 rfl <| ok_iadd (v := (i + 1)) (pc' := 634) i0_633 rfl rfl <| ok_iaload (v := v1) (pc' := 635) i0_634 (ShScr_k0 hS1) (by decide) (ShScr_l0 hS1) (by omega) (rd_na (by omega) hv1) rfl <| ?_
          refine ok_aloadn (pc' := 636) i0_635 rfl rfl <| ok_iload (pc' := 638) i0_636 rfl rfl <| ok_iconst (pc' := 639) i0_638 rfl <| ok_iadd (v := (i + 2)) (pc' := 640) i0_639 rfl rfl <| ok_iaload (v := v2) (pc' := 641) i0_640 (ShScr_k0 hS1) (by decide) (ShScr_l0 hS1) (by omega) (rd_na (by omega) hv2) rfl <| ok_cc i0_641 rfl (cl_v o0 m13_217 na195 rfl rfl (bt rfl) (bt rfl) rfl (by rw [ShModel_k0 hS448, o195])) ln195 (pd195 (aR 448) (aI v1) (aI v2)) <| ok_aloadn (pc' := 1) i195_0 rfl rfl <| ok_iloadn (pc' := 2) i195_1 rfl rfl <| ?_
          refine ok_cc i195_2 rfl (cl_v o195 m9_241 na196 rfl rfl (bt rfl) (bt rfl) rfl (by rw [ShModel_k0 hS448, o196])) ln196 (pd196 (aR 448) (aI v1)) <| ok_aloadn (pc' := 1) i196_0 rfl rfl <| ok_cc i196_1 rfl (cl_v o196 m9_216 na188 rfl rfl (bt rfl) (bt rfl) rfl (by rw [ShModel_k0 hS448, o188])) ln188 (pd188 (aR 448)) <| ok_aloadn (pc' := 1) i188_0 rfl rfl <| ok_iconst (pc' := 2) i188_1 rfl <| ok_putfj (kk := 0) (pc' := 5) i188_2 o188 pi188_63 (ShModel_k0 hS448) rfl rfl <| ok_aloadn (pc' := 6) i188_5 rfl rfl <| ok_aloadn (pc' := 7) i188_6 rfl rfl <| ?_
          refine ok_getfi (v := 1) (pc' := 10) i188_7 o188 gi9_66 (ShModel_k0 hS448) (rd_ni (by decide) (rd_na (by omega) (hld.trans hl))) rfl <| ok_kz1 (pc1 := 17) (pc2 := 13) i188_10 (by decide) rfl rfl <| ok_iconst (pc' := 18) i188_17 rfl <| ok_iconst (pc' := 19) i188_18 rfl <| ok_cc i188_19 rfl (cl_v o188 m9_70 na165 rfl rfl (bt rfl) (bt rfl) rfl (by rw [ShModel_k0 hS448, o165])) ln165 (pd165 (aR 448) (aI 0) (aI 1)) <| ok_aloadn (pc' := 1) i165_0 rfl rfl <| ok_getfi (v := 0) (pc' := 4) i165_1 o165 gi9_63 (ShModel_k0 hS448) rd_eq rfl <| ok_kz0 (pc1 := 16) (pc2 := 7) i165_4 (by decide) rfl rfl <| ?_
          refine ok_iloadn (pc' := 8) i165_7 rfl rfl <| ok_kz1 (pc1 := 16) (pc2 := 11) i165_8 (by decide) rfl rfl <| ok_aloadn (pc' := 17) i165_16 rfl rfl <| ok_getfi (v := 0) (pc' := 20) i165_17 o165 gi9_63 (ShModel_k0 hS448) rd_eq rfl <| ok_kz1 (pc1 := 27) (pc2 := 23) i165_20 (by decide) rfl rfl <| ok_iconst (pc' := 28) i165_27 rfl <| ok_iretz i165_28 rt165 (by decide) <| kt_v (pc' := 22) rfl <| ?_
          refine ok_iretz i188_22 rt188 (by decide) <| kt_v (pc' := 4) rfl <| ok_kz0 (pc1 := 28) (pc2 := 7) i196_4 (by decide) rfl rfl <| ok_aloadn (pc' := 8) i196_7 rfl rfl <| ok_aloadn (pc' := 9) i196_8 rfl rfl <| ok_iloadn (pc' := 10) i196_9 rfl rfl <| ok_cc i196_10 rfl (cl_v o196 m9_220 na197 rfl rfl (bt rfl) (bt rfl) rfl (by rw [ShModel_k0 hS448, o197])) ln197 (pd197 (aR 448) (aI v1)) <| ok_iloadn (pc' := 1) i197_0 rfl rfl <| ?_
          refine ok_iconst (pc' := 2) i197_1 rfl <| ok_aloadn (pc' := 3) i197_2 rfl rfl <| ok_getfr (r := (448 + 5)) (pc' := 6) i197_3 o197 gr9_22 (ShModel_k0 hS448) (ShModel_r8 hS448) rfl <| ok_iconst (pc' := 7) i197_6 rfl <| ok_iaload (v := (s 3)) (pc' := 8) i197_7 (ShModel_k5 hS448) (by decide) (ShModel_l5 hS448) (by decide) (rd_na (by omega) (rd_na (by omega) (RepO_s hO))) rfl <| ok_iconst (pc' := 9) i197_8 rfl <| ok_isub (v := ((s 3) - 1)) (pc' := 10) i197_9 rfl rfl <| ok_cc i197_10 rfl (cl_s o197 m9_140 na164 rfl rfl (bt rfl) (bt rfl) rfl) ln164 (pd164 (aI v1) (aI 0) (aI ((s 3) - 1))) <| ?_
          refine ok_iloadn (pc' := 1) i164_0 rfl rfl <| ok_iloadn (pc' := 2) i164_1 rfl rfl <| ?_
          refine ok_clt (pc1 := 14) (pc2 := 5) i164_2 (by omega) rfl rfl (fun h9 => by exfalso; omega) (fun h509 => ?_)
          refine ok_iloadn (pc' := 6) i164_5 rfl rfl <| ok_iloadn (pc' := 7) i164_6 rfl rfl <| ?_
          refine ok_cgt (pc1 := 14) (pc2 := 10) i164_7 (by omega) rfl rfl (fun h9 => by exfalso; omega) (fun h510 => ?_)
          refine ok_iconst (pc' := 11) i164_10 rfl <| ok_goto (pc' := 15) i164_11 rfl <| ok_iretz i164_15 rt164 (by decide) <| kt_v (pc' := 13) rfl <| ok_iretz i197_13 rt197 (by decide) <| kt_v (pc' := 13) rfl <| ok_kz1 (pc1 := 20) (pc2 := 16) i196_13 (by decide) rfl rfl <| ok_iconst (pc' := 21) i196_20 rfl <| ?_
          refine ok_iconst (pc' := 22) i196_21 rfl <| ok_cc i196_22 rfl (cl_v o196 m9_70 na165 rfl rfl (bt rfl) (bt rfl) rfl (by rw [ShModel_k0 hS448, o165])) ln165 (pd165 (aR 448) (aI 0) (aI 2)) <| ok_aloadn (pc' := 1) i165_0 rfl rfl <| ok_getfi (v := 0) (pc' := 4) i165_1 o165 gi9_63 (ShModel_k0 hS448) rd_eq rfl <| ok_kz0 (pc1 := 16) (pc2 := 7) i165_4 (by decide) rfl rfl <| ok_iloadn (pc' := 8) i165_7 rfl rfl <| ok_kz1 (pc1 := 16) (pc2 := 11) i165_8 (by decide) rfl rfl <| ok_aloadn (pc' := 17) i165_16 rfl rfl <| ?_
          refine ok_getfi (v := 0) (pc' := 20) i165_17 o165 gi9_63 (ShModel_k0 hS448) rd_eq rfl <| ok_kz1 (pc1 := 27) (pc2 := 23) i165_20 (by decide) rfl rfl <| ok_iconst (pc' := 28) i165_27 rfl <| ok_iretz i165_28 rt165 (by decide) <| kt_v (pc' := 25) rfl <| ok_kz1 (pc1 := 32) (pc2 := 28) i196_25 (by decide) rfl rfl <| ok_iconst (pc' := 33) i196_32 rfl <| ok_iretz i196_33 rt196 (by decide) <| ?_
          refine kt_v (pc' := 5) rfl <| ok_kz0 (pc1 := 30) (pc2 := 8) i195_5 (by decide) rfl rfl <| ok_aloadn (pc' := 9) i195_8 rfl rfl <| ok_iloadn (pc' := 10) i195_9 rfl rfl <| ok_iconst (pc' := 11) i195_10 rfl <| ok_iconst (pc' := 12) i195_11 rfl <| ok_cc i195_12 rfl (cl_s o195 m9_140 na164 rfl rfl (bt rfl) (bt rfl) rfl) ln164 (pd164 (aI v2) (aI 0) (aI 4)) <| ok_iloadn (pc' := 1) i164_0 rfl rfl <| ?_
          refine ok_iloadn (pc' := 2) i164_1 rfl rfl <| ?_
          refine ok_clt (pc1 := 14) (pc2 := 5) i164_2 (by omega) rfl rfl (fun h9 => by exfalso; omega) (fun h511 => ?_)
          refine ok_iloadn (pc' := 6) i164_5 rfl rfl <| ok_iloadn (pc' := 7) i164_6 rfl rfl <| ?_
          refine ok_cgt (pc1 := 14) (pc2 := 10) i164_7 (by omega) rfl rfl (fun h9 => by exfalso; omega) (fun h512 => ?_)
          refine ok_iconst (pc' := 11) i164_10 rfl <| ok_goto (pc' := 15) i164_11 rfl <| ok_iretz i164_15 rt164 (by decide) <| kt_v (pc' := 15) rfl <| ok_kz1 (pc1 := 22) (pc2 := 18) i195_15 (by decide) rfl rfl <| ok_iconst (pc' := 23) i195_22 rfl <| ok_iconst (pc' := 24) i195_23 rfl <| ok_cc i195_24 rfl (cl_v o195 m9_70 na165 rfl rfl (bt rfl) (bt rfl) rfl (by rw [ShModel_k0 hS448, o165])) ln165 (pd165 (aR 448) (aI 0) (aI 3)) <| ?_
          refine ok_aloadn (pc' := 1) i165_0 rfl rfl <| ok_getfi (v := 0) (pc' := 4) i165_1 o165 gi9_63 (ShModel_k0 hS448) rd_eq rfl <| ok_kz0 (pc1 := 16) (pc2 := 7) i165_4 (by decide) rfl rfl <| ok_iloadn (pc' := 8) i165_7 rfl rfl <| ok_kz1 (pc1 := 16) (pc2 := 11) i165_8 (by decide) rfl rfl <| ok_aloadn (pc' := 17) i165_16 rfl rfl <| ok_getfi (v := 0) (pc' := 20) i165_17 o165 gi9_63 (ShModel_k0 hS448) rd_eq rfl <| ok_kz1 (pc1 := 27) (pc2 := 23) i165_20 (by decide) rfl rfl <| ?_
          refine ok_iconst (pc' := 28) i165_27 rfl <| ok_iretz i165_28 rt165 (by decide) <| kt_v (pc' := 27) rfl <| ok_kz1 (pc1 := 34) (pc2 := 30) i195_27 (by decide) rfl rfl <| ok_aloadn (pc' := 35) i195_34 rfl rfl <| ok_getfr (r := (448 + 5)) (pc' := 38) i195_35 o195 gr9_22 (ShModel_k0 hS448) (ShModel_r8 hS448) rfl <| ok_bipush (v := 14) (pc' := 40) i195_38 rfl rfl <| ok_bipush (v := 80) (pc' := 42) i195_40 rfl rfl <| ?_
          refine ok_iloadn (pc' := 43) i195_42 rfl rfl <| ok_imul (v := (80 * v2)) (pc' := 44) i195_43 rfl rfl <| ok_iadd (v := (14 + (80 * v2))) (pc' := 45) i195_44 rfl rfl <| ok_iloadn (pc' := 46) i195_45 rfl rfl <| ok_iadd (v := ((14 + (80 * v2)) + v1)) (pc' := 47) i195_46 rfl rfl <| ok_iaload (v := (s ((14 + (80 * v2)) + v1))) (pc' := 48) i195_47 (ShModel_k5 hS448) (by decide) (ShModel_l5 hS448) (by omega) (rd_na (by omega) (rd_na (by omega) (RepO_s hO))) rfl <| ok_ireti i195_48 rt195 <| kt_v (pc' := 644) rfl <| ?_
          refine ok_istore (pc' := 646) (ls' := [aR 1, aR 100, aR 448, aR 464, aR 465, aI i, aI 0, aI (s ((14 + (80 * v2)) + v1)), w8]) i0_644 (bt rfl) rfl rfl <| ok_aloadn (pc' := 647) i0_646 rfl rfl <| ok_cc i0_647 rfl (cl_v o0 m13_188 na157 rfl rfl (bt rfl) (bt rfl) rfl (by rw [ShModel_k0 hS448, o157])) ln157 (pd157 (aR 448)) <| ok_aloadn (pc' := 1) i157_0 rfl rfl <| ok_getfi (v := 0) (pc' := 4) i157_1 o157 gi9_63 (ShModel_k0 hS448) rd_eq rfl <| ok_ireti i157_4 rt157 <| kt_v (pc' := 650) rfl <| ok_iload (pc' := 652) i0_650 rfl rfl <| ?_
          refine ok_kc1 (pc1 := 657) (pc2 := 655) i0_652 (by decide) rfl rfl <| ok_iload (pc' := 659) i0_657 rfl rfl <| ok_kz0 (pc1 := 674) (pc2 := 662) i0_659 (by decide) rfl rfl <| ok_aloadn (pc' := 663) i0_662 rfl rfl <| ok_iconst (pc' := 664) i0_663 rfl <| ok_laload (v := (wr (s ((14 + (80 * v2)) + v1)))) (pc' := 665) i0_664 (ShOut_k0 hS464) (ShOut_l0 hS464) (by decide) (rd_na (by omega) rd_eq) rfl <| ok_iload (pc' := 667) i0_665 rfl rfl <| ok_i2l (v := (wr (s ((14 + (80 * v2)) + v1)))) (pc' := 668) i0_667 rfl rfl <| ?_
          refine ok_lcmp0 (pc' := 669) i0_668 rfl <| ok_kz1 (pc1 := 674) (pc2 := 672) i0_669 (by decide) rfl rfl <| ok_goto (pc' := 3329) i0_674 rfl <| ?_
          exact K _ _ _ _ _ _ hD (by omega) (Inv_mono (Inv_same hI (Same.thr (Same.out Same.rfl))) (by omega))
        · refine ok_throw th104_10 (bt rfl) <| kt_x hh102 <| kt_h hn282 hf282_5_11 hr282_21 <| kt_v (pc' := 626) rfl <| ?_
          refine ok_al hD (fun g hD => ?_)
          have hS448 := HD_o hD
          have hS1 := HD_s hD
          have hS464 := HD_u hD
          have hS465 := HD_ud hD
          refine ok_istore (pc' := 628) (ls' := [aR 1, aR 100, aR 448, aR 464, aR 465, aI i, aI 3, w7, w8]) i0_626 (bt rfl) rfl rfl <| ok_aloadn (pc' := 629) i0_628 rfl rfl <| ok_aloadn (pc' := 630) i0_629 rfl rfl <| ok_iload (pc' := 632) i0_630 rfl rfl <| ok_iconst (pc' := 633) i0_632 rfl <| ok_iadd (v := (i + 1)) (pc' := 634) i0_633 rfl rfl <| ok_iaload (v := v1) (pc' := 635) i0_634 (ShScr_k0 hS1) (by decide) (ShScr_l0 hS1) (by omega) hv1 rfl <| ok_aloadn (pc' := 636) i0_635 rfl rfl <| ?_
          refine ok_iload (pc' := 638) i0_636 rfl rfl <| ok_iconst (pc' := 639) i0_638 rfl <| ok_iadd (v := (i + 2)) (pc' := 640) i0_639 rfl rfl <| ok_iaload (v := v2) (pc' := 641) i0_640 (ShScr_k0 hS1) (by decide) (ShScr_l0 hS1) (by omega) hv2 rfl <| ok_cc i0_641 rfl (cl_v o0 m13_217 na195 rfl rfl (bt rfl) (bt rfl) rfl (by rw [ShModel_k0 hS448, o195])) ln195 (pd195 (aR 448) (aI v1) (aI v2)) <| ok_aloadn (pc' := 1) i195_0 rfl rfl <| ok_iloadn (pc' := 2) i195_1 rfl rfl <| ok_cc i195_2 rfl (cl_v o195 m9_241 na196 rfl rfl (bt rfl) (bt rfl) rfl (by rw [ShModel_k0 hS448, o196])) ln196 (pd196 (aR 448) (aI v1)) <| ?_
          refine ok_aloadn (pc' := 1) i196_0 rfl rfl <| ok_cc i196_1 rfl (cl_v o196 m9_216 na188 rfl rfl (bt rfl) (bt rfl) rfl (by rw [ShModel_k0 hS448, o188])) ln188 (pd188 (aR 448)) <| ok_aloadn (pc' := 1) i188_0 rfl rfl <| ok_iconst (pc' := 2) i188_1 rfl <| ok_putfj (kk := 0) (pc' := 5) i188_2 o188 pi188_63 (ShModel_k0 hS448) rfl rfl <| ok_aloadn (pc' := 6) i188_5 rfl rfl <| ok_aloadn (pc' := 7) i188_6 rfl rfl <| ok_getfi (v := 1) (pc' := 10) i188_7 o188 gi9_66 (ShModel_k0 hS448) (rd_ni (by decide) (hld.trans hl)) rfl <| ?_
          refine ok_kz1 (pc1 := 17) (pc2 := 13) i188_10 (by decide) rfl rfl <| ok_iconst (pc' := 18) i188_17 rfl <| ok_iconst (pc' := 19) i188_18 rfl <| ok_cc i188_19 rfl (cl_v o188 m9_70 na165 rfl rfl (bt rfl) (bt rfl) rfl (by rw [ShModel_k0 hS448, o165])) ln165 (pd165 (aR 448) (aI 0) (aI 1)) <| ok_aloadn (pc' := 1) i165_0 rfl rfl <| ok_getfi (v := 0) (pc' := 4) i165_1 o165 gi9_63 (ShModel_k0 hS448) rd_eq rfl <| ok_kz0 (pc1 := 16) (pc2 := 7) i165_4 (by decide) rfl rfl <| ok_iloadn (pc' := 8) i165_7 rfl rfl <| ?_
          refine ok_kz1 (pc1 := 16) (pc2 := 11) i165_8 (by decide) rfl rfl <| ok_aloadn (pc' := 17) i165_16 rfl rfl <| ok_getfi (v := 0) (pc' := 20) i165_17 o165 gi9_63 (ShModel_k0 hS448) rd_eq rfl <| ok_kz1 (pc1 := 27) (pc2 := 23) i165_20 (by decide) rfl rfl <| ok_iconst (pc' := 28) i165_27 rfl <| ok_iretz i165_28 rt165 (by decide) <| kt_v (pc' := 22) rfl <| ok_iretz i188_22 rt188 (by decide) <| ?_
          refine kt_v (pc' := 4) rfl <| ok_kz0 (pc1 := 28) (pc2 := 7) i196_4 (by decide) rfl rfl <| ok_aloadn (pc' := 8) i196_7 rfl rfl <| ok_aloadn (pc' := 9) i196_8 rfl rfl <| ok_iloadn (pc' := 10) i196_9 rfl rfl <| ok_cc i196_10 rfl (cl_v o196 m9_220 na197 rfl rfl (bt rfl) (bt rfl) rfl (by rw [ShModel_k0 hS448, o197])) ln197 (pd197 (aR 448) (aI v1)) <| ok_iloadn (pc' := 1) i197_0 rfl rfl <| ok_iconst (pc' := 2) i197_1 rfl <| ?_
          refine ok_aloadn (pc' := 3) i197_2 rfl rfl <| ok_getfr (r := (448 + 5)) (pc' := 6) i197_3 o197 gr9_22 (ShModel_k0 hS448) (ShModel_r8 hS448) rfl <| ok_iconst (pc' := 7) i197_6 rfl <| ok_iaload (v := (s 3)) (pc' := 8) i197_7 (ShModel_k5 hS448) (by decide) (ShModel_l5 hS448) (by decide) (rd_na (by omega) (RepO_s hO)) rfl <| ok_iconst (pc' := 9) i197_8 rfl <| ok_isub (v := ((s 3) - 1)) (pc' := 10) i197_9 rfl rfl <| ok_cc i197_10 rfl (cl_s o197 m9_140 na164 rfl rfl (bt rfl) (bt rfl) rfl) ln164 (pd164 (aI v1) (aI 0) (aI ((s 3) - 1))) <| ok_iloadn (pc' := 1) i164_0 rfl rfl <| ?_
          refine ok_iloadn (pc' := 2) i164_1 rfl rfl <| ?_
          refine ok_clt (pc1 := 14) (pc2 := 5) i164_2 (by omega) rfl rfl (fun h9 => by exfalso; omega) (fun h513 => ?_)
          refine ok_iloadn (pc' := 6) i164_5 rfl rfl <| ok_iloadn (pc' := 7) i164_6 rfl rfl <| ?_
          refine ok_cgt (pc1 := 14) (pc2 := 10) i164_7 (by omega) rfl rfl (fun h9 => by exfalso; omega) (fun h514 => ?_)
          refine ok_iconst (pc' := 11) i164_10 rfl <| ok_goto (pc' := 15) i164_11 rfl <| ok_iretz i164_15 rt164 (by decide) <| kt_v (pc' := 13) rfl <| ok_iretz i197_13 rt197 (by decide) <| kt_v (pc' := 13) rfl <| ok_kz1 (pc1 := 20) (pc2 := 16) i196_13 (by decide) rfl rfl <| ok_iconst (pc' := 21) i196_20 rfl <| ?_
          refine ok_iconst (pc' := 22) i196_21 rfl <| ok_cc i196_22 rfl (cl_v o196 m9_70 na165 rfl rfl (bt rfl) (bt rfl) rfl (by rw [ShModel_k0 hS448, o165])) ln165 (pd165 (aR 448) (aI 0) (aI 2)) <| ok_aloadn (pc' := 1) i165_0 rfl rfl <| ok_getfi (v := 0) (pc' := 4) i165_1 o165 gi9_63 (ShModel_k0 hS448) rd_eq rfl <| ok_kz0 (pc1 := 16) (pc2 := 7) i165_4 (by decide) rfl rfl <| ok_iloadn (pc' := 8) i165_7 rfl rfl <| ok_kz1 (pc1 := 16) (pc2 := 11) i165_8 (by decide) rfl rfl <| ok_aloadn (pc' := 17) i165_16 rfl rfl <| ?_
          refine ok_getfi (v := 0) (pc' := 20) i165_17 o165 gi9_63 (ShModel_k0 hS448) rd_eq rfl <| ok_kz1 (pc1 := 27) (pc2 := 23) i165_20 (by decide) rfl rfl <| ok_iconst (pc' := 28) i165_27 rfl <| ok_iretz i165_28 rt165 (by decide) <| kt_v (pc' := 25) rfl <| ok_kz1 (pc1 := 32) (pc2 := 28) i196_25 (by decide) rfl rfl <| ok_iconst (pc' := 33) i196_32 rfl <| ok_iretz i196_33 rt196 (by decide) <| ?_
          refine kt_v (pc' := 5) rfl <| ok_kz0 (pc1 := 30) (pc2 := 8) i195_5 (by decide) rfl rfl <| ok_aloadn (pc' := 9) i195_8 rfl rfl <| ok_iloadn (pc' := 10) i195_9 rfl rfl <| ok_iconst (pc' := 11) i195_10 rfl <| ok_iconst (pc' := 12) i195_11 rfl <| ok_cc i195_12 rfl (cl_s o195 m9_140 na164 rfl rfl (bt rfl) (bt rfl) rfl) ln164 (pd164 (aI v2) (aI 0) (aI 4)) <| ok_iloadn (pc' := 1) i164_0 rfl rfl <| ?_
          refine ok_iloadn (pc' := 2) i164_1 rfl rfl <| ?_
          refine ok_clt (pc1 := 14) (pc2 := 5) i164_2 (by omega) rfl rfl (fun h9 => by exfalso; omega) (fun h515 => ?_)
          refine ok_iloadn (pc' := 6) i164_5 rfl rfl <| ok_iloadn (pc' := 7) i164_6 rfl rfl <| ?_
          refine ok_cgt (pc1 := 14) (pc2 := 10) i164_7 (by omega) rfl rfl (fun h516 => ?_) (fun h9 => by exfalso; omega)
          refine ok_iconst (pc' := 15) i164_14 rfl <| ok_iretz i164_15 rt164 (by decide) <| kt_v (pc' := 15) rfl <| ok_kz0 (pc1 := 22) (pc2 := 18) i195_15 (by decide) rfl rfl <| ok_iconst (pc' := 19) i195_18 rfl <| ok_goto (pc' := 23) i195_19 rfl <| ok_iconst (pc' := 24) i195_23 rfl <| ok_cc i195_24 rfl (cl_v o195 m9_70 na165 rfl rfl (bt rfl) (bt rfl) rfl (by rw [ShModel_k0 hS448, o165])) ln165 (pd165 (aR 448) (aI 1) (aI 3)) <| ?_
          refine ok_aloadn (pc' := 1) i165_0 rfl rfl <| ok_getfi (v := 0) (pc' := 4) i165_1 o165 gi9_63 (ShModel_k0 hS448) rd_eq rfl <| ok_kz0 (pc1 := 16) (pc2 := 7) i165_4 (by decide) rfl rfl <| ok_iloadn (pc' := 8) i165_7 rfl rfl <| ok_kz0 (pc1 := 16) (pc2 := 11) i165_8 (by decide) rfl rfl <| ok_aloadn (pc' := 12) i165_11 rfl rfl <| ok_iloadn (pc' := 13) i165_12 rfl rfl <| ok_putfj (kk := 0) (pc' := 16) i165_13 o165 pi165_63 (ShModel_k0 hS448) rfl rfl <| ?_
          refine ok_aloadn (pc' := 17) i165_16 rfl rfl <| ok_getfi (v := 3) (pc' := 20) i165_17 o165 gi9_63 (ShModel_k0 hS448) rd_eq rfl <| ok_kz0 (pc1 := 27) (pc2 := 23) i165_20 (by decide) rfl rfl <| ok_iconst (pc' := 24) i165_23 rfl <| ok_goto (pc' := 28) i165_24 rfl <| ok_iretz i165_28 rt165 (by decide) <| kt_v (pc' := 27) rfl <| ok_kz0 (pc1 := 34) (pc2 := 30) i195_27 (by decide) rfl rfl <| ?_
          refine ok_iconst (pc' := 31) i195_30 rfl <| ok_goto (pc' := 48) i195_31 rfl <| ok_ireti i195_48 rt195 <| kt_v (pc' := 644) rfl <| ok_istore (pc' := 646) (ls' := [aR 1, aR 100, aR 448, aR 464, aR 465, aI i, aI 3, aI 0, w8]) i0_644 (bt rfl) rfl rfl <| ok_aloadn (pc' := 647) i0_646 rfl rfl <| ok_cc i0_647 rfl (cl_v o0 m13_188 na157 rfl rfl (bt rfl) (bt rfl) rfl (by rw [ShModel_k0 hS448, o157])) ln157 (pd157 (aR 448)) <| ok_aloadn (pc' := 1) i157_0 rfl rfl <| ?_
          refine ok_getfi (v := 3) (pc' := 4) i157_1 o157 gi9_63 (ShModel_k0 hS448) rd_eq rfl <| ok_ireti i157_4 rt157 <| kt_v (pc' := 650) rfl <| ok_iload (pc' := 652) i0_650 rfl rfl <| ok_kc1 (pc1 := 657) (pc2 := 655) i0_652 (by decide) rfl rfl <| ok_iload (pc' := 659) i0_657 rfl rfl <| ok_kz1 (pc1 := 674) (pc2 := 662) i0_659 (by decide) rfl rfl <| ok_goto (pc' := 3329) i0_674 rfl <| ?_
          exact K _ _ _ _ _ _ hD (by omega) (Inv_mono (Inv_same hI (Same.thr (Same.thr Same.rfl))) (by omega))
    · refine ok_throw th103_15 (bt rfl) <| kt_x hh102 <| kt_h hn282 hf282_5_10 hr282_17 <| kt_v (pc' := 626) rfl <| ?_
      refine ok_al hD (fun g hD => ?_)
      have hS448 := HD_o hD
      have hS1 := HD_s hD
      have hS464 := HD_u hD
      have hS465 := HD_ud hD
      refine ok_istore (pc' := 628) (ls' := [aR 1, aR 100, aR 448, aR 464, aR 465, aI i, aI 2, w7, w8]) i0_626 (bt rfl) rfl rfl <| ok_aloadn (pc' := 629) i0_628 rfl rfl <| ok_aloadn (pc' := 630) i0_629 rfl rfl <| ok_iload (pc' := 632) i0_630 rfl rfl <| ok_iconst (pc' := 633) i0_632 rfl <| ok_iadd (v := (i + 1)) (pc' := 634) i0_633 rfl rfl <| ok_iaload (v := v1) (pc' := 635) i0_634 (ShScr_k0 hS1) (by decide) (ShScr_l0 hS1) (by omega) hv1 rfl <| ok_aloadn (pc' := 636) i0_635 rfl rfl <| ?_
      refine ok_iload (pc' := 638) i0_636 rfl rfl <| ok_iconst (pc' := 639) i0_638 rfl <| ok_iadd (v := (i + 2)) (pc' := 640) i0_639 rfl rfl <| ok_iaload (v := v2) (pc' := 641) i0_640 (ShScr_k0 hS1) (by decide) (ShScr_l0 hS1) (by omega) hv2 rfl <| ok_cc i0_641 rfl (cl_v o0 m13_217 na195 rfl rfl (bt rfl) (bt rfl) rfl (by rw [ShModel_k0 hS448, o195])) ln195 (pd195 (aR 448) (aI v1) (aI v2)) <| ok_aloadn (pc' := 1) i195_0 rfl rfl <| ok_iloadn (pc' := 2) i195_1 rfl rfl <| ok_cc i195_2 rfl (cl_v o195 m9_241 na196 rfl rfl (bt rfl) (bt rfl) rfl (by rw [ShModel_k0 hS448, o196])) ln196 (pd196 (aR 448) (aI v1)) <| ?_
      refine ok_aloadn (pc' := 1) i196_0 rfl rfl <| ok_cc i196_1 rfl (cl_v o196 m9_216 na188 rfl rfl (bt rfl) (bt rfl) rfl (by rw [ShModel_k0 hS448, o188])) ln188 (pd188 (aR 448)) <| ok_aloadn (pc' := 1) i188_0 rfl rfl <| ok_iconst (pc' := 2) i188_1 rfl <| ok_putfj (kk := 0) (pc' := 5) i188_2 o188 pi188_63 (ShModel_k0 hS448) rfl rfl <| ok_aloadn (pc' := 6) i188_5 rfl rfl <| ok_aloadn (pc' := 7) i188_6 rfl rfl <| ok_getfi (v := 1) (pc' := 10) i188_7 o188 gi9_66 (ShModel_k0 hS448) (rd_ni (by decide) (hld.trans hl)) rfl <| ?_
      refine ok_kz1 (pc1 := 17) (pc2 := 13) i188_10 (by decide) rfl rfl <| ok_iconst (pc' := 18) i188_17 rfl <| ok_iconst (pc' := 19) i188_18 rfl <| ok_cc i188_19 rfl (cl_v o188 m9_70 na165 rfl rfl (bt rfl) (bt rfl) rfl (by rw [ShModel_k0 hS448, o165])) ln165 (pd165 (aR 448) (aI 0) (aI 1)) <| ok_aloadn (pc' := 1) i165_0 rfl rfl <| ok_getfi (v := 0) (pc' := 4) i165_1 o165 gi9_63 (ShModel_k0 hS448) rd_eq rfl <| ok_kz0 (pc1 := 16) (pc2 := 7) i165_4 (by decide) rfl rfl <| ok_iloadn (pc' := 8) i165_7 rfl rfl <| ?_
      refine ok_kz1 (pc1 := 16) (pc2 := 11) i165_8 (by decide) rfl rfl <| ok_aloadn (pc' := 17) i165_16 rfl rfl <| ok_getfi (v := 0) (pc' := 20) i165_17 o165 gi9_63 (ShModel_k0 hS448) rd_eq rfl <| ok_kz1 (pc1 := 27) (pc2 := 23) i165_20 (by decide) rfl rfl <| ok_iconst (pc' := 28) i165_27 rfl <| ok_iretz i165_28 rt165 (by decide) <| kt_v (pc' := 22) rfl <| ok_iretz i188_22 rt188 (by decide) <| ?_
      refine kt_v (pc' := 4) rfl <| ok_kz0 (pc1 := 28) (pc2 := 7) i196_4 (by decide) rfl rfl <| ok_aloadn (pc' := 8) i196_7 rfl rfl <| ok_aloadn (pc' := 9) i196_8 rfl rfl <| ok_iloadn (pc' := 10) i196_9 rfl rfl <| ok_cc i196_10 rfl (cl_v o196 m9_220 na197 rfl rfl (bt rfl) (bt rfl) rfl (by rw [ShModel_k0 hS448, o197])) ln197 (pd197 (aR 448) (aI v1)) <| ok_iloadn (pc' := 1) i197_0 rfl rfl <| ok_iconst (pc' := 2) i197_1 rfl <| ?_
      refine ok_aloadn (pc' := 3) i197_2 rfl rfl <| ok_getfr (r := (448 + 5)) (pc' := 6) i197_3 o197 gr9_22 (ShModel_k0 hS448) (ShModel_r8 hS448) rfl <| ok_iconst (pc' := 7) i197_6 rfl <| ok_iaload (v := (s 3)) (pc' := 8) i197_7 (ShModel_k5 hS448) (by decide) (ShModel_l5 hS448) (by decide) (rd_na (by omega) (RepO_s hO)) rfl <| ok_iconst (pc' := 9) i197_8 rfl <| ok_isub (v := ((s 3) - 1)) (pc' := 10) i197_9 rfl rfl <| ok_cc i197_10 rfl (cl_s o197 m9_140 na164 rfl rfl (bt rfl) (bt rfl) rfl) ln164 (pd164 (aI v1) (aI 0) (aI ((s 3) - 1))) <| ok_iloadn (pc' := 1) i164_0 rfl rfl <| ?_
      refine ok_iloadn (pc' := 2) i164_1 rfl rfl <| ?_
      refine ok_clt (pc1 := 14) (pc2 := 5) i164_2 (by omega) rfl rfl (fun h9 => by exfalso; omega) (fun h517 => ?_)
      refine ok_iloadn (pc' := 6) i164_5 rfl rfl <| ok_iloadn (pc' := 7) i164_6 rfl rfl <| ?_
      refine ok_cgt (pc1 := 14) (pc2 := 10) i164_7 (by omega) rfl rfl (fun h518 => ?_) (fun h9 => by exfalso; omega)
      refine ok_iconst (pc' := 15) i164_14 rfl <| ok_iretz i164_15 rt164 (by decide) <| kt_v (pc' := 13) rfl <| ok_iretz i197_13 rt197 (by decide) <| kt_v (pc' := 13) rfl <| ok_kz0 (pc1 := 20) (pc2 := 16) i196_13 (by decide) rfl rfl <| ok_iconst (pc' := 17) i196_16 rfl <| ok_goto (pc' := 21) i196_17 rfl <| ?_
      refine ok_iconst (pc' := 22) i196_21 rfl <| ok_cc i196_22 rfl (cl_v o196 m9_70 na165 rfl rfl (bt rfl) (bt rfl) rfl (by rw [ShModel_k0 hS448, o165])) ln165 (pd165 (aR 448) (aI 1) (aI 2)) <| ok_aloadn (pc' := 1) i165_0 rfl rfl <| ok_getfi (v := 0) (pc' := 4) i165_1 o165 gi9_63 (ShModel_k0 hS448) rd_eq rfl <| ok_kz0 (pc1 := 16) (pc2 := 7) i165_4 (by decide) rfl rfl <| ok_iloadn (pc' := 8) i165_7 rfl rfl <| ok_kz0 (pc1 := 16) (pc2 := 11) i165_8 (by decide) rfl rfl <| ok_aloadn (pc' := 12) i165_11 rfl rfl <| ?_
      refine ok_iloadn (pc' := 13) i165_12 rfl rfl <| ok_putfj (kk := 0) (pc' := 16) i165_13 o165 pi165_63 (ShModel_k0 hS448) rfl rfl <| ok_aloadn (pc' := 17) i165_16 rfl rfl <| ok_getfi (v := 2) (pc' := 20) i165_17 o165 gi9_63 (ShModel_k0 hS448) rd_eq rfl <| ok_kz0 (pc1 := 27) (pc2 := 23) i165_20 (by decide) rfl rfl <| ok_iconst (pc' := 24) i165_23 rfl <| ok_goto (pc' := 28) i165_24 rfl <| ok_iretz i165_28 rt165 (by decide) <| ?_
      refine kt_v (pc' := 25) rfl <| ok_kz0 (pc1 := 32) (pc2 := 28) i196_25 (by decide) rfl rfl <| ok_iconst (pc' := 29) i196_28 rfl <| ok_goto (pc' := 33) i196_29 rfl <| ok_iretz i196_33 rt196 (by decide) <| kt_v (pc' := 5) rfl <| ok_kz1 (pc1 := 30) (pc2 := 8) i195_5 (by decide) rfl rfl <| ok_iconst (pc' := 31) i195_30 rfl <| ?_
      refine ok_goto (pc' := 48) i195_31 rfl <| ok_ireti i195_48 rt195 <| kt_v (pc' := 644) rfl <| ok_istore (pc' := 646) (ls' := [aR 1, aR 100, aR 448, aR 464, aR 465, aI i, aI 2, aI 0, w8]) i0_644 (bt rfl) rfl rfl <| ok_aloadn (pc' := 647) i0_646 rfl rfl <| ok_cc i0_647 rfl (cl_v o0 m13_188 na157 rfl rfl (bt rfl) (bt rfl) rfl (by rw [ShModel_k0 hS448, o157])) ln157 (pd157 (aR 448)) <| ok_aloadn (pc' := 1) i157_0 rfl rfl <| ok_getfi (v := 2) (pc' := 4) i157_1 o157 gi9_63 (ShModel_k0 hS448) rd_eq rfl <| ?_
      refine ok_ireti i157_4 rt157 <| kt_v (pc' := 650) rfl <| ok_iload (pc' := 652) i0_650 rfl rfl <| ok_kc1 (pc1 := 657) (pc2 := 655) i0_652 (by decide) rfl rfl <| ok_iload (pc' := 659) i0_657 rfl rfl <| ok_kz1 (pc1 := 674) (pc2 := 662) i0_659 (by decide) rfl rfl <| ok_goto (pc' := 3329) i0_674 rfl <| ?_
      exact K _ _ _ _ _ _ hD (by omega) (Inv_mono (Inv_same hI (Same.thr (Same.thr Same.rfl))) (by omega))
theorem c8_0 {L n : Nat} {g : AG} {M : AM} {xs : Nat → Int32} {b i : Int} {w6 w7 w8 : AV} {Q : AO → AG → AM → Prop} (hD : HD L n g) (hI : Inv xs b M) (hi : 0 ≤ i ∧ i + 6 ≤ L) (hb : 0 ≤ b ∧ b ≤ 900000) (hl : M 100 6 = 0) (K : KK L n i b xs Q) :
    Ok 10 0 609 [aR 1, aR 100, aR 448, aR 464, aR 465, aI i, w6, w7, w8] [] g M Q := by
  have hI0 := hI
  obtain ⟨hA, hld, hl01, q, hc, ⟨nx, sz, hH, hsz⟩, hS⟩ := hI0
  have hH0 := hH
  obtain ⟨⟨hn1, hn0⟩, ⟨hz2, hz0⟩, h10, hHj⟩ := hH0
  obtain ⟨hw0, ⟨bu, by_, hb1, hb13, hbu, hZ, hU⟩, he3, he4, he5, hId, tx, hT, hUt, htl, htr⟩ := hA
  obtain ⟨v1, hv1⟩ : ∃ u9 : Int, M 1 (i + 1) = u9 := ⟨_, rfl⟩
  have hr1 : -2147483648 ≤ v1 ∧ v1 < 2147483648 := hv1 ▸ scr_rg hw0 (i + 1)
  obtain ⟨v2, hv2⟩ : ∃ u9 : Int, M 1 (i + 2) = u9 := ⟨_, rfl⟩
  have hr2 : -2147483648 ≤ v2 ∧ v2 < 2147483648 := hv2 ▸ scr_rg hw0 (i + 2)
  have hS1 := HD_s hD
  have hS100 := HD_y hD
  have hS448 := HD_o hD
  have hS464 := HD_u hD
  have hS465 := HD_ud hD
  refine ok_aloadn (pc' := 610) i0_609 rfl rfl <| ok_aloadn (pc' := 611) i0_610 rfl rfl <| ok_iload (pc' := 613) i0_611 rfl rfl <| ok_iconst (pc' := 614) i0_613 rfl <| ok_iadd (v := (i + 1)) (pc' := 615) i0_614 rfl rfl <| ok_iaload (v := v1) (pc' := 616) i0_615 (ShScr_k0 hS1) (by decide) (ShScr_l0 hS1) (by omega) hv1 rfl <| ok_aloadn (pc' := 617) i0_616 rfl rfl <| ok_iload (pc' := 619) i0_617 rfl rfl <| ?_
  refine ok_iconst (pc' := 620) i0_619 rfl <| ok_iadd (v := (i + 2)) (pc' := 621) i0_620 rfl rfl <| ok_iaload (v := v2) (pc' := 622) i0_621 (ShScr_k0 hS1) (by decide) (ShScr_l0 hS1) (by omega) hv2 rfl <| ok_aloadn (pc' := 623) i0_622 rfl rfl <| ok_cc i0_623 rfl (cl_s o0 m13_214 na282 rfl rfl (bt rfl) (bt rfl) rfl) ln282 (pd282 (aR 100) (aI v1) (aI v2) (aR 464)) <| ok_aloadn (pc' := 1) i282_0 rfl rfl <| ok_iconst (pc' := 2) i282_1 rfl <| ok_aloadn (pc' := 3) i282_2 rfl rfl <| ?_
  refine ok_iloadn (pc' := 4) i282_3 rfl rfl <| ok_iloadn (pc' := 5) i282_4 rfl rfl <| ok_cc i282_5 rfl (cl_v o282 m13_26 na102 rfl rfl (bt rfl) (bt rfl) rfl (by rw [ShYard_k0 hS100, o102])) ln102 (pd102 (aR 100) (aI v1) (aI v2)) <| ok_aloadn (pc' := 1) i102_0 rfl rfl <| ok_cc i102_1 rfl (cl_v o102 m0_132 na99 rfl rfl (bt rfl) (bt rfl) rfl (by rw [ShYard_k0 hS100, o99])) ln99 (pd99 (aR 100)) <| ok_aloadn (pc' := 1) i99_0 rfl rfl <| ok_getfi (v := 0) (pc' := 4) i99_1 o99 gi0_268 (ShYard_k0 hS100) hl rfl <| ok_kz0 (pc1 := 18) (pc2 := 7) i99_4 (by decide) rfl rfl <| ?_
  refine ok_throw th99_7 (bt rfl) <| kt_x hh102 <| kt_h hn282 hf282_5_12 hr282_13 <| kt_v (pc' := 626) rfl <| ?_
  refine ok_al hD (fun g hD => ?_)
  have hS448 := HD_o hD
  have hS1 := HD_s hD
  have hS464 := HD_u hD
  have hS465 := HD_ud hD
  refine ok_istore (pc' := 628) (ls' := [aR 1, aR 100, aR 448, aR 464, aR 465, aI i, aI 1, w7, w8]) i0_626 (bt rfl) rfl rfl <| ok_aloadn (pc' := 629) i0_628 rfl rfl <| ok_aloadn (pc' := 630) i0_629 rfl rfl <| ok_iload (pc' := 632) i0_630 rfl rfl <| ok_iconst (pc' := 633) i0_632 rfl <| ok_iadd (v := (i + 1)) (pc' := 634) i0_633 rfl rfl <| ok_iaload (v := v1) (pc' := 635) i0_634 (ShScr_k0 hS1) (by decide) (ShScr_l0 hS1) (by omega) hv1 rfl <| ok_aloadn (pc' := 636) i0_635 rfl rfl <| ?_
  refine ok_iload (pc' := 638) i0_636 rfl rfl <| ok_iconst (pc' := 639) i0_638 rfl <| ok_iadd (v := (i + 2)) (pc' := 640) i0_639 rfl rfl <| ok_iaload (v := v2) (pc' := 641) i0_640 (ShScr_k0 hS1) (by decide) (ShScr_l0 hS1) (by omega) hv2 rfl <| ok_cc i0_641 rfl (cl_v o0 m13_217 na195 rfl rfl (bt rfl) (bt rfl) rfl (by rw [ShModel_k0 hS448, o195])) ln195 (pd195 (aR 448) (aI v1) (aI v2)) <| ok_aloadn (pc' := 1) i195_0 rfl rfl <| ok_iloadn (pc' := 2) i195_1 rfl rfl <| ok_cc i195_2 rfl (cl_v o195 m9_241 na196 rfl rfl (bt rfl) (bt rfl) rfl (by rw [ShModel_k0 hS448, o196])) ln196 (pd196 (aR 448) (aI v1)) <| ?_
  refine ok_aloadn (pc' := 1) i196_0 rfl rfl <| ok_cc i196_1 rfl (cl_v o196 m9_216 na188 rfl rfl (bt rfl) (bt rfl) rfl (by rw [ShModel_k0 hS448, o188])) ln188 (pd188 (aR 448)) <| ok_aloadn (pc' := 1) i188_0 rfl rfl <| ok_iconst (pc' := 2) i188_1 rfl <| ok_putfj (kk := 0) (pc' := 5) i188_2 o188 pi188_63 (ShModel_k0 hS448) rfl rfl <| ok_aloadn (pc' := 6) i188_5 rfl rfl <| ok_aloadn (pc' := 7) i188_6 rfl rfl <| ok_getfi (v := 0) (pc' := 10) i188_7 o188 gi9_66 (ShModel_k0 hS448) (rd_ni (by decide) (hld.trans hl)) rfl <| ?_
  refine ok_kz0 (pc1 := 17) (pc2 := 13) i188_10 (by decide) rfl rfl <| ok_iconst (pc' := 14) i188_13 rfl <| ok_goto (pc' := 18) i188_14 rfl <| ok_iconst (pc' := 19) i188_18 rfl <| ok_cc i188_19 rfl (cl_v o188 m9_70 na165 rfl rfl (bt rfl) (bt rfl) rfl (by rw [ShModel_k0 hS448, o165])) ln165 (pd165 (aR 448) (aI 1) (aI 1)) <| ok_aloadn (pc' := 1) i165_0 rfl rfl <| ok_getfi (v := 0) (pc' := 4) i165_1 o165 gi9_63 (ShModel_k0 hS448) rd_eq rfl <| ok_kz0 (pc1 := 16) (pc2 := 7) i165_4 (by decide) rfl rfl <| ?_
  refine ok_iloadn (pc' := 8) i165_7 rfl rfl <| ok_kz0 (pc1 := 16) (pc2 := 11) i165_8 (by decide) rfl rfl <| ok_aloadn (pc' := 12) i165_11 rfl rfl <| ok_iloadn (pc' := 13) i165_12 rfl rfl <| ok_putfj (kk := 0) (pc' := 16) i165_13 o165 pi165_63 (ShModel_k0 hS448) rfl rfl <| ok_aloadn (pc' := 17) i165_16 rfl rfl <| ok_getfi (v := 1) (pc' := 20) i165_17 o165 gi9_63 (ShModel_k0 hS448) rd_eq rfl <| ok_kz0 (pc1 := 27) (pc2 := 23) i165_20 (by decide) rfl rfl <| ?_
  refine ok_iconst (pc' := 24) i165_23 rfl <| ok_goto (pc' := 28) i165_24 rfl <| ok_iretz i165_28 rt165 (by decide) <| kt_v (pc' := 22) rfl <| ok_iretz i188_22 rt188 (by decide) <| kt_v (pc' := 4) rfl <| ok_kz1 (pc1 := 28) (pc2 := 7) i196_4 (by decide) rfl rfl <| ok_iconst (pc' := 29) i196_28 rfl <| ?_
  refine ok_goto (pc' := 33) i196_29 rfl <| ok_iretz i196_33 rt196 (by decide) <| kt_v (pc' := 5) rfl <| ok_kz1 (pc1 := 30) (pc2 := 8) i195_5 (by decide) rfl rfl <| ok_iconst (pc' := 31) i195_30 rfl <| ok_goto (pc' := 48) i195_31 rfl <| ok_ireti i195_48 rt195 <| kt_v (pc' := 644) rfl <| ?_
  refine ok_istore (pc' := 646) (ls' := [aR 1, aR 100, aR 448, aR 464, aR 465, aI i, aI 1, aI 0, w8]) i0_644 (bt rfl) rfl rfl <| ok_aloadn (pc' := 647) i0_646 rfl rfl <| ok_cc i0_647 rfl (cl_v o0 m13_188 na157 rfl rfl (bt rfl) (bt rfl) rfl (by rw [ShModel_k0 hS448, o157])) ln157 (pd157 (aR 448)) <| ok_aloadn (pc' := 1) i157_0 rfl rfl <| ok_getfi (v := 1) (pc' := 4) i157_1 o157 gi9_63 (ShModel_k0 hS448) rd_eq rfl <| ok_ireti i157_4 rt157 <| kt_v (pc' := 650) rfl <| ok_iload (pc' := 652) i0_650 rfl rfl <| ?_
  refine ok_kc1 (pc1 := 657) (pc2 := 655) i0_652 (by decide) rfl rfl <| ok_iload (pc' := 659) i0_657 rfl rfl <| ok_kz1 (pc1 := 674) (pc2 := 662) i0_659 (by decide) rfl rfl <| ok_goto (pc' := 3329) i0_674 rfl <| ?_
  exact K _ _ _ _ _ _ hD (by omega) (Inv_mono (Inv_same hI (Same.thr (Same.thr Same.rfl))) (by omega))
theorem c9_1 {L n : Nat} {g : AG} {M : AM} {xs : Nat → Int32} {b i : Int} {w6 w7 w8 : AV} {Q : AO → AG → AM → Prop} (hD : HD L n g) (hI : Inv xs b M) (hi : 0 ≤ i ∧ i + 6 ≤ L) (hb : 0 ≤ b ∧ b ≤ 900000) (hl : M 100 6 = 1) (K : KK L n i b xs Q) :
    Ok 10 0 677 [aR 1, aR 100, aR 448, aR 464, aR 465, aI i, w6, w7, w8] [] g M Q := by
  have hI0 := hI
  obtain ⟨hA, hld, hl01, q, hc, ⟨nx, sz, hH, hsz⟩, hS⟩ := hI0
  have hH0 := hH
  obtain ⟨⟨hn1, hn0⟩, ⟨hz2, hz0⟩, h10, hHj⟩ := hH0
  obtain ⟨hw0, ⟨bu, by_, hb1, hb13, hbu, hZ, hU⟩, he3, he4, he5, hId, tx, hT, hUt, htl, htr⟩ := hA
  obtain ⟨s, hP, hRB, hO, hV, hQ, h40⟩ := hc hl
  have ys3 := V_3 hV
  have ys4 := V_4 hV
  have yq0 := Q_0 hQ
  have yq1 := Q_1 hQ
  obtain ⟨v1, hv1⟩ : ∃ u9 : Int, M 1 (i + 1) = u9 := ⟨_, rfl⟩
  have hr1 : -2147483648 ≤ v1 ∧ v1 < 2147483648 := hv1 ▸ scr_rg hw0 (i + 1)
  obtain ⟨v2, hv2⟩ : ∃ u9 : Int, M 1 (i + 2) = u9 := ⟨_, rfl⟩
  have hr2 : -2147483648 ≤ v2 ∧ v2 < 2147483648 := hv2 ▸ scr_rg hw0 (i + 2)
  have hS1 := HD_s hD
  have hS100 := HD_y hD
  have hS149 := HD_b hD
  have hS448 := HD_o hD
  have hS464 := HD_u hD
  have hS465 := HD_ud hD
  refine ok_aloadn (pc' := 678) i0_677 rfl rfl <| ok_aloadn (pc' := 679) i0_678 rfl rfl <| ok_iload (pc' := 681) i0_679 rfl rfl <| ok_iconst (pc' := 682) i0_681 rfl <| ok_iadd (v := (i + 1)) (pc' := 683) i0_682 rfl rfl <| ok_iaload (v := v1) (pc' := 684) i0_683 (ShScr_k0 hS1) (by decide) (ShScr_l0 hS1) (by omega) hv1 rfl <| ok_aloadn (pc' := 685) i0_684 rfl rfl <| ok_iload (pc' := 687) i0_685 rfl rfl <| ?_
  refine ok_iconst (pc' := 688) i0_687 rfl <| ok_iadd (v := (i + 2)) (pc' := 689) i0_688 rfl rfl <| ok_iaload (v := v2) (pc' := 690) i0_689 (ShScr_k0 hS1) (by decide) (ShScr_l0 hS1) (by omega) hv2 rfl <| ok_aloadn (pc' := 691) i0_690 rfl rfl <| ok_cc i0_691 rfl (cl_s o0 m13_218 na283 rfl rfl (bt rfl) (bt rfl) rfl) ln283 (pd283 (aR 100) (aI v1) (aI v2) (aR 464)) <| ok_aloadn (pc' := 1) i283_0 rfl rfl <| ok_iconst (pc' := 2) i283_1 rfl <| ok_aloadn (pc' := 3) i283_2 rfl rfl <| ?_
  refine ok_iloadn (pc' := 4) i283_3 rfl rfl <| ok_iloadn (pc' := 5) i283_4 rfl rfl <| ok_cc i283_5 rfl (cl_v o283 m13_30 na105 rfl rfl (bt rfl) (bt rfl) rfl (by rw [ShYard_k0 hS100, o105])) ln105 (pd105 (aR 100) (aI v1) (aI v2)) <| ok_aloadn (pc' := 1) i105_0 rfl rfl <| ok_cc i105_1 rfl (cl_v o105 m0_132 na99 rfl rfl (bt rfl) (bt rfl) rfl (by rw [ShYard_k0 hS100, o99])) ln99 (pd99 (aR 100)) <| ok_aloadn (pc' := 1) i99_0 rfl rfl <| ok_getfi (v := 1) (pc' := 4) i99_1 o99 gi0_268 (ShYard_k0 hS100) hl rfl <| ok_kz1 (pc1 := 18) (pc2 := 7) i99_4 (by decide) rfl rfl <| ?_
  refine ok_vret i99_18 rt99 <| kt_0 (pc' := 4) rfl <| ok_aloadn (pc' := 5) i105_4 rfl rfl <| ok_iloadn (pc' := 6) i105_5 rfl rfl <| ok_cc i105_6 rfl (cl_v o105 m0_180 na106 rfl rfl (bt rfl) (bt rfl) rfl (by rw [ShYard_k0 hS100, o106])) ln106 (pd106 (aR 100) (aI v1)) <| ok_iloadn (pc' := 1) i106_0 rfl rfl <| ?_
  refine ok_zlt (pc1 := 15) (pc2 := 4) i106_1 (by omega) rfl rfl (fun h501 => ?_) (fun h501 => ?_)
  · refine ok_throw th106_15 (bt rfl) <| kt_x hh105 <| kt_h hn283 hf283_5_10 hr283_17 <| kt_v (pc' := 694) rfl <| ?_
    refine ok_al hD (fun g hD => ?_)
    have hS448 := HD_o hD
    have hS1 := HD_s hD
    have hS464 := HD_u hD
    have hS465 := HD_ud hD
    refine ok_istore (pc' := 696) (ls' := [aR 1, aR 100, aR 448, aR 464, aR 465, aI i, aI 2, w7, w8]) i0_694 (bt rfl) rfl rfl <| ok_aloadn (pc' := 697) i0_696 rfl rfl <| ok_aloadn (pc' := 698) i0_697 rfl rfl <| ok_iload (pc' := 700) i0_698 rfl rfl <| ok_iconst (pc' := 701) i0_700 rfl <| ok_iadd (v := (i + 1)) (pc' := 702) i0_701 rfl rfl <| ok_iaload (v := v1) (pc' := 703) i0_702 (ShScr_k0 hS1) (by decide) (ShScr_l0 hS1) (by omega) hv1 rfl <| ok_aloadn (pc' := 704) i0_703 rfl rfl <| ?_
    refine ok_iload (pc' := 706) i0_704 rfl rfl <| ok_iconst (pc' := 707) i0_706 rfl <| ok_iadd (v := (i + 2)) (pc' := 708) i0_707 rfl rfl <| ok_iaload (v := v2) (pc' := 709) i0_708 (ShScr_k0 hS1) (by decide) (ShScr_l0 hS1) (by omega) hv2 rfl <| ok_cc i0_709 rfl (cl_v o0 m13_220 na198 rfl rfl (bt rfl) (bt rfl) rfl (by rw [ShModel_k0 hS448, o198])) ln198 (pd198 (aR 448) (aI v1) (aI v2)) <| ok_aloadn (pc' := 1) i198_0 rfl rfl <| ok_iloadn (pc' := 2) i198_1 rfl rfl <| ok_cc i198_2 rfl (cl_v o198 m9_244 na199 rfl rfl (bt rfl) (bt rfl) rfl (by rw [ShModel_k0 hS448, o199])) ln199 (pd199 (aR 448) (aI v1)) <| ?_
    refine ok_aloadn (pc' := 1) i199_0 rfl rfl <| ok_cc i199_1 rfl (cl_v o199 m9_216 na188 rfl rfl (bt rfl) (bt rfl) rfl (by rw [ShModel_k0 hS448, o188])) ln188 (pd188 (aR 448)) <| ok_aloadn (pc' := 1) i188_0 rfl rfl <| ok_iconst (pc' := 2) i188_1 rfl <| ok_putfj (kk := 0) (pc' := 5) i188_2 o188 pi188_63 (ShModel_k0 hS448) rfl rfl <| ok_aloadn (pc' := 6) i188_5 rfl rfl <| ok_aloadn (pc' := 7) i188_6 rfl rfl <| ok_getfi (v := 1) (pc' := 10) i188_7 o188 gi9_66 (ShModel_k0 hS448) (rd_ni (by decide) (hld.trans hl)) rfl <| ?_
    refine ok_kz1 (pc1 := 17) (pc2 := 13) i188_10 (by decide) rfl rfl <| ok_iconst (pc' := 18) i188_17 rfl <| ok_iconst (pc' := 19) i188_18 rfl <| ok_cc i188_19 rfl (cl_v o188 m9_70 na165 rfl rfl (bt rfl) (bt rfl) rfl (by rw [ShModel_k0 hS448, o165])) ln165 (pd165 (aR 448) (aI 0) (aI 1)) <| ok_aloadn (pc' := 1) i165_0 rfl rfl <| ok_getfi (v := 0) (pc' := 4) i165_1 o165 gi9_63 (ShModel_k0 hS448) rd_eq rfl <| ok_kz0 (pc1 := 16) (pc2 := 7) i165_4 (by decide) rfl rfl <| ok_iloadn (pc' := 8) i165_7 rfl rfl <| ?_
    refine ok_kz1 (pc1 := 16) (pc2 := 11) i165_8 (by decide) rfl rfl <| ok_aloadn (pc' := 17) i165_16 rfl rfl <| ok_getfi (v := 0) (pc' := 20) i165_17 o165 gi9_63 (ShModel_k0 hS448) rd_eq rfl <| ok_kz1 (pc1 := 27) (pc2 := 23) i165_20 (by decide) rfl rfl <| ok_iconst (pc' := 28) i165_27 rfl <| ok_iretz i165_28 rt165 (by decide) <| kt_v (pc' := 22) rfl <| ok_iretz i188_22 rt188 (by decide) <| ?_
    refine kt_v (pc' := 4) rfl <| ok_kz0 (pc1 := 36) (pc2 := 7) i199_4 (by decide) rfl rfl <| ok_aloadn (pc' := 8) i199_7 rfl rfl <| ok_iloadn (pc' := 9) i199_8 rfl rfl <| ok_iconst (pc' := 10) i199_9 rfl <| ok_aloadn (pc' := 11) i199_10 rfl rfl <| ok_getfr (r := (448 + 5)) (pc' := 14) i199_11 o199 gr9_22 (ShModel_k0 hS448) (ShModel_r8 hS448) rfl <| ok_iconst (pc' := 15) i199_14 rfl <| ?_
    refine ok_iaload (v := (s 4)) (pc' := 16) i199_15 (ShModel_k5 hS448) (by decide) (ShModel_l5 hS448) (by decide) (rd_na (by omega) (RepO_s hO)) rfl <| ok_iconst (pc' := 17) i199_16 rfl <| ok_isub (v := ((s 4) - 1)) (pc' := 18) i199_17 rfl rfl <| ok_cc i199_18 rfl (cl_s o199 m9_140 na164 rfl rfl (bt rfl) (bt rfl) rfl) ln164 (pd164 (aI v1) (aI 0) (aI ((s 4) - 1))) <| ok_iloadn (pc' := 1) i164_0 rfl rfl <| ok_iloadn (pc' := 2) i164_1 rfl rfl <| ?_
    refine ok_clt (pc1 := 14) (pc2 := 5) i164_2 (by omega) rfl rfl (fun h502 => ?_) (fun h9 => by exfalso; omega)
    refine ok_iconst (pc' := 15) i164_14 rfl <| ok_iretz i164_15 rt164 (by decide) <| kt_v (pc' := 21) rfl <| ok_kz0 (pc1 := 28) (pc2 := 24) i199_21 (by decide) rfl rfl <| ok_iconst (pc' := 25) i199_24 rfl <| ok_goto (pc' := 29) i199_25 rfl <| ok_iconst (pc' := 30) i199_29 rfl <| ok_cc i199_30 rfl (cl_v o199 m9_70 na165 rfl rfl (bt rfl) (bt rfl) rfl (by rw [ShModel_k0 hS448, o165])) ln165 (pd165 (aR 448) (aI 1) (aI 2)) <| ?_
    refine ok_aloadn (pc' := 1) i165_0 rfl rfl <| ok_getfi (v := 0) (pc' := 4) i165_1 o165 gi9_63 (ShModel_k0 hS448) rd_eq rfl <| ok_kz0 (pc1 := 16) (pc2 := 7) i165_4 (by decide) rfl rfl <| ok_iloadn (pc' := 8) i165_7 rfl rfl <| ok_kz0 (pc1 := 16) (pc2 := 11) i165_8 (by decide) rfl rfl <| ok_aloadn (pc' := 12) i165_11 rfl rfl <| ok_iloadn (pc' := 13) i165_12 rfl rfl <| ok_putfj (kk := 0) (pc' := 16) i165_13 o165 pi165_63 (ShModel_k0 hS448) rfl rfl <| ?_
    refine ok_aloadn (pc' := 17) i165_16 rfl rfl <| ok_getfi (v := 2) (pc' := 20) i165_17 o165 gi9_63 (ShModel_k0 hS448) rd_eq rfl <| ok_kz0 (pc1 := 27) (pc2 := 23) i165_20 (by decide) rfl rfl <| ok_iconst (pc' := 24) i165_23 rfl <| ok_goto (pc' := 28) i165_24 rfl <| ok_iretz i165_28 rt165 (by decide) <| kt_v (pc' := 33) rfl <| ok_kz0 (pc1 := 40) (pc2 := 36) i199_33 (by decide) rfl rfl <| ?_
    refine ok_iconst (pc' := 37) i199_36 rfl <| ok_goto (pc' := 41) i199_37 rfl <| ok_iretz i199_41 rt199 (by decide) <| kt_v (pc' := 5) rfl <| ok_kz1 (pc1 := 31) (pc2 := 8) i198_5 (by decide) rfl rfl <| ok_iconst (pc' := 32) i198_31 rfl <| ok_goto (pc' := 41) i198_32 rfl <| ok_ireti i198_41 rt198 <| ?_
    refine kt_v (pc' := 712) rfl <| ok_istore (pc' := 714) (ls' := [aR 1, aR 100, aR 448, aR 464, aR 465, aI i, aI 2, aI 0, w8]) i0_712 (bt rfl) rfl rfl <| ok_aloadn (pc' := 715) i0_714 rfl rfl <| ok_cc i0_715 rfl (cl_v o0 m13_188 na157 rfl rfl (bt rfl) (bt rfl) rfl (by rw [ShModel_k0 hS448, o157])) ln157 (pd157 (aR 448)) <| ok_aloadn (pc' := 1) i157_0 rfl rfl <| ok_getfi (v := 2) (pc' := 4) i157_1 o157 gi9_63 (ShModel_k0 hS448) rd_eq rfl <| ok_ireti i157_4 rt157 <| kt_v (pc' := 718) rfl <| ?_
    refine ok_iload (pc' := 720) i0_718 rfl rfl <| ok_kc1 (pc1 := 725) (pc2 := 723) i0_720 (by decide) rfl rfl <| ok_iload (pc' := 727) i0_725 rfl rfl <| ok_kz1 (pc1 := 742) (pc2 := 730) i0_727 (by decide) rfl rfl <| ok_goto (pc' := 3329) i0_742 rfl <| ?_
    exact K _ _ _ _ _ _ hD (by omega) (Inv_mono (Inv_same hI (Same.thr (Same.thr Same.rfl))) (by omega))
  · refine ok_iloadn (pc' := 5) i106_4 rfl rfl <| ok_aloadn (pc' := 6) i106_5 rfl rfl <| ok_getfr (r := 149) (pc' := 9) i106_6 o106 gr0_39 (ShYard_k0 hS100) (ShYard_r8 hS100) rfl <| ok_getfi (v := (s 4)) (pc' := 12) i106_9 o106 gi0_138 (ShState_k0 hS149) (RepS_f4 hRB) rfl <| ?_
    refine ok_clt (pc1 := 26) (pc2 := 15) i106_12 (by omega) rfl rfl (fun h503 => ?_) (fun h503 => ?_)
    · refine ok_vret i106_26 rt106 <| kt_0 (pc' := 9) rfl <| ok_iloadn (pc' := 10) i105_9 rfl rfl <| ok_iconst (pc' := 11) i105_10 rfl <| ok_bipush (v := 7) (pc' := 13) i105_11 rfl rfl <| ok_cc i105_13 rfl (cl_s o105 m0_172 na104 rfl rfl (bt rfl) (bt rfl) rfl) ln104 (pd104 (aI v2) (aI 0) (aI 7)) <| ok_iloadn (pc' := 1) i104_0 rfl rfl <| ok_iloadn (pc' := 2) i104_1 rfl rfl <| ?_
      refine ok_clt (pc1 := 10) (pc2 := 5) i104_2 (by omega) rfl rfl (fun h504 => ?_) (fun h504 => ?_)
      · refine ok_throw th104_10 (bt rfl) <| kt_x hh105 <| kt_h hn283 hf283_5_11 hr283_21 <| kt_v (pc' := 694) rfl <| ?_
        refine ok_al hD (fun g hD => ?_)
        have hS448 := HD_o hD
        have hS1 := HD_s hD
        have hS464 := HD_u hD
        have hS465 := HD_ud hD
        refine ok_istore (pc' := 696) (ls' := [aR 1, aR 100, aR 448, aR 464, aR 465, aI i, aI 3, w7, w8]) i0_694 (bt rfl) rfl rfl <| ok_aloadn (pc' := 697) i0_696 rfl rfl <| ok_aloadn (pc' := 698) i0_697 rfl rfl <| ok_iload (pc' := 700) i0_698 rfl rfl <| ok_iconst (pc' := 701) i0_700 rfl <| ok_iadd (v := (i + 1)) (pc' := 702) i0_701 rfl rfl <| ok_iaload (v := v1) (pc' := 703) i0_702 (ShScr_k0 hS1) (by decide) (ShScr_l0 hS1) (by omega) hv1 rfl <| ok_aloadn (pc' := 704) i0_703 rfl rfl <| ?_
        refine ok_iload (pc' := 706) i0_704 rfl rfl <| ok_iconst (pc' := 707) i0_706 rfl <| ok_iadd (v := (i + 2)) (pc' := 708) i0_707 rfl rfl <| ok_iaload (v := v2) (pc' := 709) i0_708 (ShScr_k0 hS1) (by decide) (ShScr_l0 hS1) (by omega) hv2 rfl <| ok_cc i0_709 rfl (cl_v o0 m13_220 na198 rfl rfl (bt rfl) (bt rfl) rfl (by rw [ShModel_k0 hS448, o198])) ln198 (pd198 (aR 448) (aI v1) (aI v2)) <| ok_aloadn (pc' := 1) i198_0 rfl rfl <| ok_iloadn (pc' := 2) i198_1 rfl rfl <| ok_cc i198_2 rfl (cl_v o198 m9_244 na199 rfl rfl (bt rfl) (bt rfl) rfl (by rw [ShModel_k0 hS448, o199])) ln199 (pd199 (aR 448) (aI v1)) <| ?_
        refine ok_aloadn (pc' := 1) i199_0 rfl rfl <| ok_cc i199_1 rfl (cl_v o199 m9_216 na188 rfl rfl (bt rfl) (bt rfl) rfl (by rw [ShModel_k0 hS448, o188])) ln188 (pd188 (aR 448)) <| ok_aloadn (pc' := 1) i188_0 rfl rfl <| ok_iconst (pc' := 2) i188_1 rfl <| ok_putfj (kk := 0) (pc' := 5) i188_2 o188 pi188_63 (ShModel_k0 hS448) rfl rfl <| ok_aloadn (pc' := 6) i188_5 rfl rfl <| ok_aloadn (pc' := 7) i188_6 rfl rfl <| ok_getfi (v := 1) (pc' := 10) i188_7 o188 gi9_66 (ShModel_k0 hS448) (rd_ni (by decide) (hld.trans hl)) rfl <| ?_
        refine ok_kz1 (pc1 := 17) (pc2 := 13) i188_10 (by decide) rfl rfl <| ok_iconst (pc' := 18) i188_17 rfl <| ok_iconst (pc' := 19) i188_18 rfl <| ok_cc i188_19 rfl (cl_v o188 m9_70 na165 rfl rfl (bt rfl) (bt rfl) rfl (by rw [ShModel_k0 hS448, o165])) ln165 (pd165 (aR 448) (aI 0) (aI 1)) <| ok_aloadn (pc' := 1) i165_0 rfl rfl <| ok_getfi (v := 0) (pc' := 4) i165_1 o165 gi9_63 (ShModel_k0 hS448) rd_eq rfl <| ok_kz0 (pc1 := 16) (pc2 := 7) i165_4 (by decide) rfl rfl <| ok_iloadn (pc' := 8) i165_7 rfl rfl <| ?_
        refine ok_kz1 (pc1 := 16) (pc2 := 11) i165_8 (by decide) rfl rfl <| ok_aloadn (pc' := 17) i165_16 rfl rfl <| ok_getfi (v := 0) (pc' := 20) i165_17 o165 gi9_63 (ShModel_k0 hS448) rd_eq rfl <| ok_kz1 (pc1 := 27) (pc2 := 23) i165_20 (by decide) rfl rfl <| ok_iconst (pc' := 28) i165_27 rfl <| ok_iretz i165_28 rt165 (by decide) <| kt_v (pc' := 22) rfl <| ok_iretz i188_22 rt188 (by decide) <| ?_
        refine kt_v (pc' := 4) rfl <| ok_kz0 (pc1 := 36) (pc2 := 7) i199_4 (by decide) rfl rfl <| ok_aloadn (pc' := 8) i199_7 rfl rfl <| ok_iloadn (pc' := 9) i199_8 rfl rfl <| ok_iconst (pc' := 10) i199_9 rfl <| ok_aloadn (pc' := 11) i199_10 rfl rfl <| ok_getfr (r := (448 + 5)) (pc' := 14) i199_11 o199 gr9_22 (ShModel_k0 hS448) (ShModel_r8 hS448) rfl <| ok_iconst (pc' := 15) i199_14 rfl <| ?_
        refine ok_iaload (v := (s 4)) (pc' := 16) i199_15 (ShModel_k5 hS448) (by decide) (ShModel_l5 hS448) (by decide) (rd_na (by omega) (RepO_s hO)) rfl <| ok_iconst (pc' := 17) i199_16 rfl <| ok_isub (v := ((s 4) - 1)) (pc' := 18) i199_17 rfl rfl <| ok_cc i199_18 rfl (cl_s o199 m9_140 na164 rfl rfl (bt rfl) (bt rfl) rfl) ln164 (pd164 (aI v1) (aI 0) (aI ((s 4) - 1))) <| ok_iloadn (pc' := 1) i164_0 rfl rfl <| ok_iloadn (pc' := 2) i164_1 rfl rfl <| ?_
        refine ok_clt (pc1 := 14) (pc2 := 5) i164_2 (by omega) rfl rfl (fun h9 => by exfalso; omega) (fun h505 => ?_)
        refine ok_iloadn (pc' := 6) i164_5 rfl rfl <| ok_iloadn (pc' := 7) i164_6 rfl rfl <| ?_
        refine ok_cgt (pc1 := 14) (pc2 := 10) i164_7 (by omega) rfl rfl (fun h9 => by exfalso; omega) (fun h506 => ?_)
        refine ok_iconst (pc' := 11) i164_10 rfl <| ok_goto (pc' := 15) i164_11 rfl <| ok_iretz i164_15 rt164 (by decide) <| kt_v (pc' := 21) rfl <| ok_kz1 (pc1 := 28) (pc2 := 24) i199_21 (by decide) rfl rfl <| ok_iconst (pc' := 29) i199_28 rfl <| ok_iconst (pc' := 30) i199_29 rfl <| ok_cc i199_30 rfl (cl_v o199 m9_70 na165 rfl rfl (bt rfl) (bt rfl) rfl (by rw [ShModel_k0 hS448, o165])) ln165 (pd165 (aR 448) (aI 0) (aI 2)) <| ?_
        refine ok_aloadn (pc' := 1) i165_0 rfl rfl <| ok_getfi (v := 0) (pc' := 4) i165_1 o165 gi9_63 (ShModel_k0 hS448) rd_eq rfl <| ok_kz0 (pc1 := 16) (pc2 := 7) i165_4 (by decide) rfl rfl <| ok_iloadn (pc' := 8) i165_7 rfl rfl <| ok_kz1 (pc1 := 16) (pc2 := 11) i165_8 (by decide) rfl rfl <| ok_aloadn (pc' := 17) i165_16 rfl rfl <| ok_getfi (v := 0) (pc' := 20) i165_17 o165 gi9_63 (ShModel_k0 hS448) rd_eq rfl <| ok_kz1 (pc1 := 27) (pc2 := 23) i165_20 (by decide) rfl rfl <| ?_
        refine ok_iconst (pc' := 28) i165_27 rfl <| ok_iretz i165_28 rt165 (by decide) <| kt_v (pc' := 33) rfl <| ok_kz1 (pc1 := 40) (pc2 := 36) i199_33 (by decide) rfl rfl <| ok_iconst (pc' := 41) i199_40 rfl <| ok_iretz i199_41 rt199 (by decide) <| kt_v (pc' := 5) rfl <| ok_kz0 (pc1 := 31) (pc2 := 8) i198_5 (by decide) rfl rfl <| ?_
        refine ok_aloadn (pc' := 9) i198_8 rfl rfl <| ok_iloadn (pc' := 10) i198_9 rfl rfl <| ok_iconst (pc' := 11) i198_10 rfl <| ok_bipush (v := 7) (pc' := 13) i198_11 rfl rfl <| ok_cc i198_13 rfl (cl_s o198 m9_140 na164 rfl rfl (bt rfl) (bt rfl) rfl) ln164 (pd164 (aI v2) (aI 0) (aI 7)) <| ok_iloadn (pc' := 1) i164_0 rfl rfl <| ok_iloadn (pc' := 2) i164_1 rfl rfl <| ?_
        refine ok_clt (pc1 := 14) (pc2 := 5) i164_2 (by omega) rfl rfl (fun h507 => ?_) (fun h9 => by exfalso; omega)
        refine ok_iconst (pc' := 15) i164_14 rfl <| ok_iretz i164_15 rt164 (by decide) <| kt_v (pc' := 16) rfl <| ok_kz0 (pc1 := 23) (pc2 := 19) i198_16 (by decide) rfl rfl <| ok_iconst (pc' := 20) i198_19 rfl <| ok_goto (pc' := 24) i198_20 rfl <| ok_iconst (pc' := 25) i198_24 rfl <| ok_cc i198_25 rfl (cl_v o198 m9_70 na165 rfl rfl (bt rfl) (bt rfl) rfl (by rw [ShModel_k0 hS448, o165])) ln165 (pd165 (aR 448) (aI 1) (aI 3)) <| ?_
        refine ok_aloadn (pc' := 1) i165_0 rfl rfl <| ok_getfi (v := 0) (pc' := 4) i165_1 o165 gi9_63 (ShModel_k0 hS448) rd_eq rfl <| ok_kz0 (pc1 := 16) (pc2 := 7) i165_4 (by decide) rfl rfl <| ok_iloadn (pc' := 8) i165_7 rfl rfl <| ok_kz0 (pc1 := 16) (pc2 := 11) i165_8 (by decide) rfl rfl <| ok_aloadn (pc' := 12) i165_11 rfl rfl <| ok_iloadn (pc' := 13) i165_12 rfl rfl <| ok_putfj (kk := 0) (pc' := 16) i165_13 o165 pi165_63 (ShModel_k0 hS448) rfl rfl <| ?_
        refine ok_aloadn (pc' := 17) i165_16 rfl rfl <| ok_getfi (v := 3) (pc' := 20) i165_17 o165 gi9_63 (ShModel_k0 hS448) rd_eq rfl <| ok_kz0 (pc1 := 27) (pc2 := 23) i165_20 (by decide) rfl rfl <| ok_iconst (pc' := 24) i165_23 rfl <| ok_goto (pc' := 28) i165_24 rfl <| ok_iretz i165_28 rt165 (by decide) <| kt_v (pc' := 28) rfl <| ok_kz0 (pc1 := 35) (pc2 := 31) i198_28 (by decide) rfl rfl <| ?_
        refine ok_iconst (pc' := 32) i198_31 rfl <| ok_goto (pc' := 41) i198_32 rfl <| ok_ireti i198_41 rt198 <| kt_v (pc' := 712) rfl <| ok_istore (pc' := 714) (ls' := [aR 1, aR 100, aR 448, aR 464, aR 465, aI i, aI 3, aI 0, w8]) i0_712 (bt rfl) rfl rfl <| ok_aloadn (pc' := 715) i0_714 rfl rfl <| ok_cc i0_715 rfl (cl_v o0 m13_188 na157 rfl rfl (bt rfl) (bt rfl) rfl (by rw [ShModel_k0 hS448, o157])) ln157 (pd157 (aR 448)) <| ok_aloadn (pc' := 1) i157_0 rfl rfl <| ?_
        refine ok_getfi (v := 3) (pc' := 4) i157_1 o157 gi9_63 (ShModel_k0 hS448) rd_eq rfl <| ok_ireti i157_4 rt157 <| kt_v (pc' := 718) rfl <| ok_iload (pc' := 720) i0_718 rfl rfl <| ok_kc1 (pc1 := 725) (pc2 := 723) i0_720 (by decide) rfl rfl <| ok_iload (pc' := 727) i0_725 rfl rfl <| ok_kz1 (pc1 := 742) (pc2 := 730) i0_727 (by decide) rfl rfl <| ok_goto (pc' := 3329) i0_742 rfl <| ?_
        exact K _ _ _ _ _ _ hD (by omega) (Inv_mono (Inv_same hI (Same.thr (Same.thr Same.rfl))) (by omega))
      · refine ok_iloadn (pc' := 6) i104_5 rfl rfl <| ok_iloadn (pc' := 7) i104_6 rfl rfl <| ?_
        refine ok_cle (pc1 := 21) (pc2 := 10) i104_7 (by omega) rfl rfl (fun h508 => ?_) (fun h508 => ?_)
        · refine ok_vret i104_21 rt104 <| kt_0 (pc' := 16) rfl <| ok_aloadn (pc' := 17) i105_16 rfl rfl <| ok_getfr (r := 149) (pc' := 20) i105_17 o105 gr0_39 (ShYard_k0 hS100) (ShYard_r8 hS100) rfl <| ok_getfr (r := (149 + 8)) (pc' := 23) i105_20 o105 gr0_183 (ShState_k0 hS149) (ShState_r5 hS149) rfl <| ok_iloadn (pc' := 24) i105_23 rfl rfl <| ok_aaload (r := (149 + 9 + v2.toNat)) (pc' := 25) i105_24 (ShState_k8 hS149) (by decide) (ShState_l8 hS149) (by omega) (ShState_ev8 hS149 (by omega) (by omega)) rfl <| ok_iloadn (pc' := 26) i105_25 rfl rfl <| ?_
          refine ok_iaload (v := (s ((414 + (8 * v1)) + v2))) (pc' := 27) i105_26 (ShState_kv8 hS149 (by omega) (by omega)) (by decide) (ShState_lv8 hS149 (by omega) (by omega)) (by omega) (RepS_ov hRB (by omega) (by omega) (by omega) (by omega)) rfl <| ok_ireti i105_27 rt105 <| kt_v (pc' := 8) rfl <| ok_i2l (v := (wr (s ((414 + (8 * v1)) + v2)))) (pc' := 9) i283_8 rfl rfl <| ok_lastore (pc' := 10) i283_9 (ShOut_k0 hS464) (ShOut_l0 hS464) (by decide) rfl <| ok_goto (pc' := 25) i283_10 rfl <| ok_iconst (pc' := 26) i283_25 rfl <| ok_ireti i283_26 rt283 <| ?_
          refine kt_v (pc' := 694) rfl <| ok_istore (pc' := 696) (ls' := [aR 1, aR 100, aR 448, aR 464, aR 465, aI i, aI 0, w7, w8]) i0_694 (bt rfl) rfl rfl <| ok_aloadn (pc' := 697) i0_696 rfl rfl <| ok_aloadn (pc' := 698) i0_697 rfl rfl <| ok_iload (pc' := 700) i0_698 rfl rfl <| ok_iconst (pc' := 701) i0_700 rfl <| ok_iadd (v := (i + 1)) (pc' := 702) i0_701 rfl rfl <| ok_iaload (v := v1) (pc' := 703) i0_702 (ShScr_k0 hS1) (by decide) (ShScr_l0 hS1) (by omega) (rd_na (by omega) hv1) rfl <| ?_
          refine ok_aloadn (pc' := 704) i0_703 rfl rfl <| ok_iload (pc' := 706) i0_704 rfl rfl <| ok_iconst (pc' := 707) i0_706 rfl <| ok_iadd (v := (i + 2)) (pc' := 708) i0_707 rfl rfl <| ok_iaload (v := v2) (pc' := 709) i0_708 (ShScr_k0 hS1) (by decide) (ShScr_l0 hS1) (by omega) (rd_na (by omega) hv2) rfl <| ok_cc i0_709 rfl (cl_v o0 m13_220 na198 rfl rfl (bt rfl) (bt rfl) rfl (by rw [ShModel_k0 hS448, o198])) ln198 (pd198 (aR 448) (aI v1) (aI v2)) <| ok_aloadn (pc' := 1) i198_0 rfl rfl <| ok_iloadn (pc' := 2) i198_1 rfl rfl <| ?_
          refine ok_cc i198_2 rfl (cl_v o198 m9_244 na199 rfl rfl (bt rfl) (bt rfl) rfl (by rw [ShModel_k0 hS448, o199])) ln199 (pd199 (aR 448) (aI v1)) <| ok_aloadn (pc' := 1) i199_0 rfl rfl <| ok_cc i199_1 rfl (cl_v o199 m9_216 na188 rfl rfl (bt rfl) (bt rfl) rfl (by rw [ShModel_k0 hS448, o188])) ln188 (pd188 (aR 448)) <| ok_aloadn (pc' := 1) i188_0 rfl rfl <| ok_iconst (pc' := 2) i188_1 rfl <| ok_putfj (kk := 0) (pc' := 5) i188_2 o188 pi188_63 (ShModel_k0 hS448) rfl rfl <| ok_aloadn (pc' := 6) i188_5 rfl rfl <| ok_aloadn (pc' := 7) i188_6 rfl rfl <| ?_
          refine ok_getfi (v := 1) (pc' := 10) i188_7 o188 gi9_66 (ShModel_k0 hS448) (rd_ni (by decide) (rd_na (by omega) (hld.trans hl))) rfl <| ok_kz1 (pc1 := 17) (pc2 := 13) i188_10 (by decide) rfl rfl <| ok_iconst (pc' := 18) i188_17 rfl <| ok_iconst (pc' := 19) i188_18 rfl <| ok_cc i188_19 rfl (cl_v o188 m9_70 na165 rfl rfl (bt rfl) (bt rfl) rfl (by rw [ShModel_k0 hS448, o165])) ln165 (pd165 (aR 448) (aI 0) (aI 1)) <| ok_aloadn (pc' := 1) i165_0 rfl rfl <| ok_getfi (v := 0) (pc' := 4) i165_1 o165 gi9_63 (ShModel_k0 hS448) rd_eq rfl <| ok_kz0 (pc1 := 16) (pc2 := 7) i165_4 (by decide) rfl rfl <| ?_
          refine ok_iloadn (pc' := 8) i165_7 rfl rfl <| ok_kz1 (pc1 := 16) (pc2 := 11) i165_8 (by decide) rfl rfl <| ok_aloadn (pc' := 17) i165_16 rfl rfl <| ok_getfi (v := 0) (pc' := 20) i165_17 o165 gi9_63 (ShModel_k0 hS448) rd_eq rfl <| ok_kz1 (pc1 := 27) (pc2 := 23) i165_20 (by decide) rfl rfl <| ok_iconst (pc' := 28) i165_27 rfl <| ok_iretz i165_28 rt165 (by decide) <| kt_v (pc' := 22) rfl <| ?_
          refine ok_iretz i188_22 rt188 (by decide) <| kt_v (pc' := 4) rfl <| ok_kz0 (pc1 := 36) (pc2 := 7) i199_4 (by decide) rfl rfl <| ok_aloadn (pc' := 8) i199_7 rfl rfl <| ok_iloadn (pc' := 9) i199_8 rfl rfl <| ok_iconst (pc' := 10) i199_9 rfl <| ok_aloadn (pc' := 11) i199_10 rfl rfl <| ok_getfr (r := (448 + 5)) (pc' := 14) i199_11 o199 gr9_22 (ShModel_k0 hS448) (ShModel_r8 hS448) rfl <| ?_
          refine ok_iconst (pc' := 15) i199_14 rfl <| ok_iaload (v := (s 4)) (pc' := 16) i199_15 (ShModel_k5 hS448) (by decide) (ShModel_l5 hS448) (by decide) (rd_na (by omega) (rd_na (by omega) (RepO_s hO))) rfl <| ok_iconst (pc' := 17) i199_16 rfl <| ok_isub (v := ((s 4) - 1)) (pc' := 18) i199_17 rfl rfl <| ok_cc i199_18 rfl (cl_s o199 m9_140 na164 rfl rfl (bt rfl) (bt rfl) rfl) ln164 (pd164 (aI v1) (aI 0) (aI ((s 4) - 1))) <| ok_iloadn (pc' := 1) i164_0 rfl rfl <| ok_iloadn (pc' := 2) i164_1 rfl rfl <| ?_
          refine ok_clt (pc1 := 14) (pc2 := 5) i164_2 (by omega) rfl rfl (fun h9 => by exfalso; omega) (fun h509 => ?_)
          refine ok_iloadn (pc' := 6) i164_5 rfl rfl <| ok_iloadn (pc' := 7) i164_6 rfl rfl <| ?_
          refine ok_cgt (pc1 := 14) (pc2 := 10) i164_7 (by omega) rfl rfl (fun h9 => by exfalso; omega) (fun h510 => ?_)
          refine ok_iconst (pc' := 11) i164_10 rfl <| ok_goto (pc' := 15) i164_11 rfl <| ok_iretz i164_15 rt164 (by decide) <| kt_v (pc' := 21) rfl <| ok_kz1 (pc1 := 28) (pc2 := 24) i199_21 (by decide) rfl rfl <| ok_iconst (pc' := 29) i199_28 rfl <| ok_iconst (pc' := 30) i199_29 rfl <| ok_cc i199_30 rfl (cl_v o199 m9_70 na165 rfl rfl (bt rfl) (bt rfl) rfl (by rw [ShModel_k0 hS448, o165])) ln165 (pd165 (aR 448) (aI 0) (aI 2)) <| ?_
          refine ok_aloadn (pc' := 1) i165_0 rfl rfl <| ok_getfi (v := 0) (pc' := 4) i165_1 o165 gi9_63 (ShModel_k0 hS448) rd_eq rfl <| ok_kz0 (pc1 := 16) (pc2 := 7) i165_4 (by decide) rfl rfl <| ok_iloadn (pc' := 8) i165_7 rfl rfl <| ok_kz1 (pc1 := 16) (pc2 := 11) i165_8 (by decide) rfl rfl <| ok_aloadn (pc' := 17) i165_16 rfl rfl <| ok_getfi (v := 0) (pc' := 20) i165_17 o165 gi9_63 (ShModel_k0 hS448) rd_eq rfl <| ok_kz1 (pc1 := 27) (pc2 := 23) i165_20 (by decide) rfl rfl <| ?_
          refine ok_iconst (pc' := 28) i165_27 rfl <| ok_iretz i165_28 rt165 (by decide) <| kt_v (pc' := 33) rfl <| ok_kz1 (pc1 := 40) (pc2 := 36) i199_33 (by decide) rfl rfl <| ok_iconst (pc' := 41) i199_40 rfl <| ok_iretz i199_41 rt199 (by decide) <| kt_v (pc' := 5) rfl <| ok_kz0 (pc1 := 31) (pc2 := 8) i198_5 (by decide) rfl rfl <| ?_
          refine ok_aloadn (pc' := 9) i198_8 rfl rfl <| ok_iloadn (pc' := 10) i198_9 rfl rfl <| ok_iconst (pc' := 11) i198_10 rfl <| ok_bipush (v := 7) (pc' := 13) i198_11 rfl rfl <| ok_cc i198_13 rfl (cl_s o198 m9_140 na164 rfl rfl (bt rfl) (bt rfl) rfl) ln164 (pd164 (aI v2) (aI 0) (aI 7)) <| ok_iloadn (pc' := 1) i164_0 rfl rfl <| ok_iloadn (pc' := 2) i164_1 rfl rfl <| ?_
          refine ok_clt (pc1 := 14) (pc2 := 5) i164_2 (by omega) rfl rfl (fun h9 => by exfalso; omega) (fun h511 => ?_)
          refine ok_iloadn (pc' := 6) i164_5 rfl rfl <| ok_iloadn (pc' := 7) i164_6 rfl rfl <| ?_
          refine ok_cgt (pc1 := 14) (pc2 := 10) i164_7 (by omega) rfl rfl (fun h9 => by exfalso; omega) (fun h512 => ?_)
          refine ok_iconst (pc' := 11) i164_10 rfl <| ok_goto (pc' := 15) i164_11 rfl <| ok_iretz i164_15 rt164 (by decide) <| kt_v (pc' := 16) rfl <| ok_kz1 (pc1 := 23) (pc2 := 19) i198_16 (by decide) rfl rfl <| ok_iconst (pc' := 24) i198_23 rfl <| ok_iconst (pc' := 25) i198_24 rfl <| ok_cc i198_25 rfl (cl_v o198 m9_70 na165 rfl rfl (bt rfl) (bt rfl) rfl (by rw [ShModel_k0 hS448, o165])) ln165 (pd165 (aR 448) (aI 0) (aI 3)) <| ?_
          refine ok_aloadn (pc' := 1) i165_0 rfl rfl <| ok_getfi (v := 0) (pc' := 4) i165_1 o165 gi9_63 (ShModel_k0 hS448) rd_eq rfl <| ok_kz0 (pc1 := 16) (pc2 := 7) i165_4 (by decide) rfl rfl <| ok_iloadn (pc' := 8) i165_7 rfl rfl <| ok_kz1 (pc1 := 16) (pc2 := 11) i165_8 (by decide) rfl rfl <| ok_aloadn (pc' := 17) i165_16 rfl rfl <| ok_getfi (v := 0) (pc' := 20) i165_17 o165 gi9_63 (ShModel_k0 hS448) rd_eq rfl <| ok_kz1 (pc1 := 27) (pc2 := 23) i165_20 (by decide) rfl rfl <| ?_
          refine ok_iconst (pc' := 28) i165_27 rfl <| ok_iretz i165_28 rt165 (by decide) <| kt_v (pc' := 28) rfl <| ok_kz1 (pc1 := 35) (pc2 := 31) i198_28 (by decide) rfl rfl <| ok_aloadn (pc' := 36) i198_35 rfl rfl <| ok_iloadn (pc' := 37) i198_36 rfl rfl <| ok_iloadn (pc' := 38) i198_37 rfl rfl <| ok_cc i198_38 rfl (cl_v o198 m9_226 na191 rfl rfl (bt rfl) (bt rfl) rfl (by rw [ShModel_k0 hS448, o191])) ln191 (pd191 (aR 448) (aI v1) (aI v2)) <| ?_
          refine ok_aloadn (pc' := 1) i191_0 rfl rfl <| ok_getfr (r := (448 + 5)) (pc' := 4) i191_1 o191 gr9_22 (ShModel_k0 hS448) (ShModel_r8 hS448) rfl <| ok_sipush (v := 414) (pc' := 7) i191_4 rfl rfl <| ok_bipush (v := 8) (pc' := 9) i191_7 rfl rfl <| ok_iloadn (pc' := 10) i191_9 rfl rfl <| ok_imul (v := (8 * v1)) (pc' := 11) i191_10 rfl rfl <| ok_iadd (v := (414 + (8 * v1))) (pc' := 12) i191_11 rfl rfl <| ok_iloadn (pc' := 13) i191_12 rfl rfl <| ?_
          refine ok_iadd (v := ((414 + (8 * v1)) + v2)) (pc' := 14) i191_13 rfl rfl <| ok_iaload (v := (s ((414 + (8 * v1)) + v2))) (pc' := 15) i191_14 (ShModel_k5 hS448) (by decide) (ShModel_l5 hS448) (by omega) (rd_na (by omega) (rd_na (by omega) (RepO_s hO))) rfl <| ok_ireti i191_15 rt191 <| kt_v (pc' := 41) rfl <| ok_ireti i198_41 rt198 <| kt_v (pc' := 712) rfl <| ok_istore (pc' := 714) (ls' := [aR 1, aR 100, aR 448, aR 464, aR 465, aI i, aI 0, aI (s ((414 + (8 * v1)) + v2)), w8]) i0_712 (bt rfl) rfl rfl <| ok_aloadn (pc' := 715) i0_714 rfl rfl <| ?_
          refine ok_cc i0_715 rfl (cl_v o0 m13_188 na157 rfl rfl (bt rfl) (bt rfl) rfl (by rw [ShModel_k0 hS448, o157])) ln157 (pd157 (aR 448)) <| ok_aloadn (pc' := 1) i157_0 rfl rfl <| ok_getfi (v := 0) (pc' := 4) i157_1 o157 gi9_63 (ShModel_k0 hS448) rd_eq rfl <| ok_ireti i157_4 rt157 <| kt_v (pc' := 718) rfl <| ok_iload (pc' := 720) i0_718 rfl rfl <| ok_kc1 (pc1 := 725) (pc2 := 723) i0_720 (by decide) rfl rfl <| ok_iload (pc' := 727) i0_725 rfl rfl <| ?_
          refine ok_kz0 (pc1 := 742) (pc2 := 730) i0_727 (by decide) rfl rfl <| ok_aloadn (pc' := 731) i0_730 rfl rfl <| ok_iconst (pc' := 732) i0_731 rfl <| ok_laload (v := (wr (s ((414 + (8 * v1)) + v2)))) (pc' := 733) i0_732 (ShOut_k0 hS464) (ShOut_l0 hS464) (by decide) (rd_na (by omega) rd_eq) rfl <| ok_iload (pc' := 735) i0_733 rfl rfl <| ok_i2l (v := (wr (s ((414 + (8 * v1)) + v2)))) (pc' := 736) i0_735 rfl rfl <| ok_lcmp0 (pc' := 737) i0_736 rfl <| ok_kz1 (pc1 := 742) (pc2 := 740) i0_737 (by decide) rfl rfl <| ?_
          refine ok_goto (pc' := 3329) i0_742 rfl <| ?_
          exact K _ _ _ _ _ _ hD (by omega) (Inv_mono (Inv_same hI (Same.thr (Same.out Same.rfl))) (by omega))
        · refine ok_throw th104_10 (bt rfl) <| kt_x hh105 <| kt_h hn283 hf283_5_11 hr283_21 <| kt_v (pc' := 694) rfl <| ?_
          refine ok_al hD (fun g hD => ?_)
          have hS448 := HD_o hD
          have hS1 := HD_s hD
          have hS464 := HD_u hD
          have hS465 := HD_ud hD
          refine ok_istore (pc' := 696) (ls' := [aR 1, aR 100, aR 448, aR 464, aR 465, aI i, aI 3, w7, w8]) i0_694 (bt rfl) rfl rfl <| ok_aloadn (pc' := 697) i0_696 rfl rfl <| ok_aloadn (pc' := 698) i0_697 rfl rfl <| ok_iload (pc' := 700) i0_698 rfl rfl <| ok_iconst (pc' := 701) i0_700 rfl <| ok_iadd (v := (i + 1)) (pc' := 702) i0_701 rfl rfl <| ok_iaload (v := v1) (pc' := 703) i0_702 (ShScr_k0 hS1) (by decide) (ShScr_l0 hS1) (by omega) hv1 rfl <| ok_aloadn (pc' := 704) i0_703 rfl rfl <| ?_
          refine ok_iload (pc' := 706) i0_704 rfl rfl <| ok_iconst (pc' := 707) i0_706 rfl <| ok_iadd (v := (i + 2)) (pc' := 708) i0_707 rfl rfl <| ok_iaload (v := v2) (pc' := 709) i0_708 (ShScr_k0 hS1) (by decide) (ShScr_l0 hS1) (by omega) hv2 rfl <| ok_cc i0_709 rfl (cl_v o0 m13_220 na198 rfl rfl (bt rfl) (bt rfl) rfl (by rw [ShModel_k0 hS448, o198])) ln198 (pd198 (aR 448) (aI v1) (aI v2)) <| ok_aloadn (pc' := 1) i198_0 rfl rfl <| ok_iloadn (pc' := 2) i198_1 rfl rfl <| ok_cc i198_2 rfl (cl_v o198 m9_244 na199 rfl rfl (bt rfl) (bt rfl) rfl (by rw [ShModel_k0 hS448, o199])) ln199 (pd199 (aR 448) (aI v1)) <| ?_
          refine ok_aloadn (pc' := 1) i199_0 rfl rfl <| ok_cc i199_1 rfl (cl_v o199 m9_216 na188 rfl rfl (bt rfl) (bt rfl) rfl (by rw [ShModel_k0 hS448, o188])) ln188 (pd188 (aR 448)) <| ok_aloadn (pc' := 1) i188_0 rfl rfl <| ok_iconst (pc' := 2) i188_1 rfl <| ok_putfj (kk := 0) (pc' := 5) i188_2 o188 pi188_63 (ShModel_k0 hS448) rfl rfl <| ok_aloadn (pc' := 6) i188_5 rfl rfl <| ok_aloadn (pc' := 7) i188_6 rfl rfl <| ok_getfi (v := 1) (pc' := 10) i188_7 o188 gi9_66 (ShModel_k0 hS448) (rd_ni (by decide) (hld.trans hl)) rfl <| ?_
          refine ok_kz1 (pc1 := 17) (pc2 := 13) i188_10 (by decide) rfl rfl <| ok_iconst (pc' := 18) i188_17 rfl <| ok_iconst (pc' := 19) i188_18 rfl <| ok_cc i188_19 rfl (cl_v o188 m9_70 na165 rfl rfl (bt rfl) (bt rfl) rfl (by rw [ShModel_k0 hS448, o165])) ln165 (pd165 (aR 448) (aI 0) (aI 1)) <| ok_aloadn (pc' := 1) i165_0 rfl rfl <| ok_getfi (v := 0) (pc' := 4) i165_1 o165 gi9_63 (ShModel_k0 hS448) rd_eq rfl <| ok_kz0 (pc1 := 16) (pc2 := 7) i165_4 (by decide) rfl rfl <| ok_iloadn (pc' := 8) i165_7 rfl rfl <| ?_
          refine ok_kz1 (pc1 := 16) (pc2 := 11) i165_8 (by decide) rfl rfl <| ok_aloadn (pc' := 17) i165_16 rfl rfl <| ok_getfi (v := 0) (pc' := 20) i165_17 o165 gi9_63 (ShModel_k0 hS448) rd_eq rfl <| ok_kz1 (pc1 := 27) (pc2 := 23) i165_20 (by decide) rfl rfl <| ok_iconst (pc' := 28) i165_27 rfl <| ok_iretz i165_28 rt165 (by decide) <| kt_v (pc' := 22) rfl <| ok_iretz i188_22 rt188 (by decide) <| ?_
          refine kt_v (pc' := 4) rfl <| ok_kz0 (pc1 := 36) (pc2 := 7) i199_4 (by decide) rfl rfl <| ok_aloadn (pc' := 8) i199_7 rfl rfl <| ok_iloadn (pc' := 9) i199_8 rfl rfl <| ok_iconst (pc' := 10) i199_9 rfl <| ok_aloadn (pc' := 11) i199_10 rfl rfl <| ok_getfr (r := (448 + 5)) (pc' := 14) i199_11 o199 gr9_22 (ShModel_k0 hS448) (ShModel_r8 hS448) rfl <| ok_iconst (pc' := 15) i199_14 rfl <| ?_
          refine ok_iaload (v := (s 4)) (pc' := 16) i199_15 (ShModel_k5 hS448) (by decide) (ShModel_l5 hS448) (by decide) (rd_na (by omega) (RepO_s hO)) rfl <| ok_iconst (pc' := 17) i199_16 rfl <| ok_isub (v := ((s 4) - 1)) (pc' := 18) i199_17 rfl rfl <| ok_cc i199_18 rfl (cl_s o199 m9_140 na164 rfl rfl (bt rfl) (bt rfl) rfl) ln164 (pd164 (aI v1) (aI 0) (aI ((s 4) - 1))) <| ok_iloadn (pc' := 1) i164_0 rfl rfl <| ok_iloadn (pc' := 2) i164_1 rfl rfl <| ?_
          refine ok_clt (pc1 := 14) (pc2 := 5) i164_2 (by omega) rfl rfl (fun h9 => by exfalso; omega) (fun h513 => ?_)
          refine ok_iloadn (pc' := 6) i164_5 rfl rfl <| ok_iloadn (pc' := 7) i164_6 rfl rfl <| ?_
          refine ok_cgt (pc1 := 14) (pc2 := 10) i164_7 (by omega) rfl rfl (fun h9 => by exfalso; omega) (fun h514 => ?_)
          refine ok_iconst (pc' := 11) i164_10 rfl <| ok_goto (pc' := 15) i164_11 rfl <| ok_iretz i164_15 rt164 (by decide) <| kt_v (pc' := 21) rfl <| ok_kz1 (pc1 := 28) (pc2 := 24) i199_21 (by decide) rfl rfl <| ok_iconst (pc' := 29) i199_28 rfl <| ok_iconst (pc' := 30) i199_29 rfl <| ok_cc i199_30 rfl (cl_v o199 m9_70 na165 rfl rfl (bt rfl) (bt rfl) rfl (by rw [ShModel_k0 hS448, o165])) ln165 (pd165 (aR 448) (aI 0) (aI 2)) <| ?_
          refine ok_aloadn (pc' := 1) i165_0 rfl rfl <| ok_getfi (v := 0) (pc' := 4) i165_1 o165 gi9_63 (ShModel_k0 hS448) rd_eq rfl <| ok_kz0 (pc1 := 16) (pc2 := 7) i165_4 (by decide) rfl rfl <| ok_iloadn (pc' := 8) i165_7 rfl rfl <| ok_kz1 (pc1 := 16) (pc2 := 11) i165_8 (by decide) rfl rfl <| ok_aloadn (pc' := 17) i165_16 rfl rfl <| ok_getfi (v := 0) (pc' := 20) i165_17 o165 gi9_63 (ShModel_k0 hS448) rd_eq rfl <| ok_kz1 (pc1 := 27) (pc2 := 23) i165_20 (by decide) rfl rfl <| ?_
          refine ok_iconst (pc' := 28) i165_27 rfl <| ok_iretz i165_28 rt165 (by decide) <| kt_v (pc' := 33) rfl <| ok_kz1 (pc1 := 40) (pc2 := 36) i199_33 (by decide) rfl rfl <| ok_iconst (pc' := 41) i199_40 rfl <| ok_iretz i199_41 rt199 (by decide) <| kt_v (pc' := 5) rfl <| ok_kz0 (pc1 := 31) (pc2 := 8) i198_5 (by decide) rfl rfl <| ?_
          refine ok_aloadn (pc' := 9) i198_8 rfl rfl <| ok_iloadn (pc' := 10) i198_9 rfl rfl <| ok_iconst (pc' := 11) i198_10 rfl <| ok_bipush (v := 7) (pc' := 13) i198_11 rfl rfl <| ok_cc i198_13 rfl (cl_s o198 m9_140 na164 rfl rfl (bt rfl) (bt rfl) rfl) ln164 (pd164 (aI v2) (aI 0) (aI 7)) <| ok_iloadn (pc' := 1) i164_0 rfl rfl <| ok_iloadn (pc' := 2) i164_1 rfl rfl <| ?_
          refine ok_clt (pc1 := 14) (pc2 := 5) i164_2 (by omega) rfl rfl (fun h9 => by exfalso; omega) (fun h515 => ?_)
          refine ok_iloadn (pc' := 6) i164_5 rfl rfl <| ok_iloadn (pc' := 7) i164_6 rfl rfl <| ?_
          refine ok_cgt (pc1 := 14) (pc2 := 10) i164_7 (by omega) rfl rfl (fun h516 => ?_) (fun h9 => by exfalso; omega)
          refine ok_iconst (pc' := 15) i164_14 rfl <| ok_iretz i164_15 rt164 (by decide) <| kt_v (pc' := 16) rfl <| ok_kz0 (pc1 := 23) (pc2 := 19) i198_16 (by decide) rfl rfl <| ok_iconst (pc' := 20) i198_19 rfl <| ok_goto (pc' := 24) i198_20 rfl <| ok_iconst (pc' := 25) i198_24 rfl <| ok_cc i198_25 rfl (cl_v o198 m9_70 na165 rfl rfl (bt rfl) (bt rfl) rfl (by rw [ShModel_k0 hS448, o165])) ln165 (pd165 (aR 448) (aI 1) (aI 3)) <| ?_
          refine ok_aloadn (pc' := 1) i165_0 rfl rfl <| ok_getfi (v := 0) (pc' := 4) i165_1 o165 gi9_63 (ShModel_k0 hS448) rd_eq rfl <| ok_kz0 (pc1 := 16) (pc2 := 7) i165_4 (by decide) rfl rfl <| ok_iloadn (pc' := 8) i165_7 rfl rfl <| ok_kz0 (pc1 := 16) (pc2 := 11) i165_8 (by decide) rfl rfl <| ok_aloadn (pc' := 12) i165_11 rfl rfl <| ok_iloadn (pc' := 13) i165_12 rfl rfl <| ok_putfj (kk := 0) (pc' := 16) i165_13 o165 pi165_63 (ShModel_k0 hS448) rfl rfl <| ?_
          refine ok_aloadn (pc' := 17) i165_16 rfl rfl <| ok_getfi (v := 3) (pc' := 20) i165_17 o165 gi9_63 (ShModel_k0 hS448) rd_eq rfl <| ok_kz0 (pc1 := 27) (pc2 := 23) i165_20 (by decide) rfl rfl <| ok_iconst (pc' := 24) i165_23 rfl <| ok_goto (pc' := 28) i165_24 rfl <| ok_iretz i165_28 rt165 (by decide) <| kt_v (pc' := 28) rfl <| ok_kz0 (pc1 := 35) (pc2 := 31) i198_28 (by decide) rfl rfl <| ?_
          refine ok_iconst (pc' := 32) i198_31 rfl <| ok_goto (pc' := 41) i198_32 rfl <| ok_ireti i198_41 rt198 <| kt_v (pc' := 712) rfl <| ok_istore (pc' := 714) (ls' := [aR 1, aR 100, aR 448, aR 464, aR 465, aI i, aI 3, aI 0, w8]) i0_712 (bt rfl) rfl rfl <| ok_aloadn (pc' := 715) i0_714 rfl rfl <| ok_cc i0_715 rfl (cl_v o0 m13_188 na157 rfl rfl (bt rfl) (bt rfl) rfl (by rw [ShModel_k0 hS448, o157])) ln157 (pd157 (aR 448)) <| ok_aloadn (pc' := 1) i157_0 rfl rfl <| ?_
          refine ok_getfi (v := 3) (pc' := 4) i157_1 o157 gi9_63 (ShModel_k0 hS448) rd_eq rfl <| ok_ireti i157_4 rt157 <| kt_v (pc' := 718) rfl <| ok_iload (pc' := 720) i0_718 rfl rfl <| ok_kc1 (pc1 := 725) (pc2 := 723) i0_720 (by decide) rfl rfl <| ok_iload (pc' := 727) i0_725 rfl rfl <| ok_kz1 (pc1 := 742) (pc2 := 730) i0_727 (by decide) rfl rfl <| ok_goto (pc' := 3329) i0_742 rfl <| ?_
          exact K _ _ _ _ _ _ hD (by omega) (Inv_mono (Inv_same hI (Same.thr (Same.thr Same.rfl))) (by omega))
    · refine ok_throw th106_15 (bt rfl) <| kt_x hh105 <| kt_h hn283 hf283_5_10 hr283_17 <| kt_v (pc' := 694) rfl <| ?_
      refine ok_al hD (fun g hD => ?_)
      have hS448 := HD_o hD
      have hS1 := HD_s hD
      have hS464 := HD_u hD
      have hS465 := HD_ud hD
      refine ok_istore (pc' := 696) (ls' := [aR 1, aR 100, aR 448, aR 464, aR 465, aI i, aI 2, w7, w8]) i0_694 (bt rfl) rfl rfl <| ok_aloadn (pc' := 697) i0_696 rfl rfl <| ok_aloadn (pc' := 698) i0_697 rfl rfl <| ok_iload (pc' := 700) i0_698 rfl rfl <| ok_iconst (pc' := 701) i0_700 rfl <| ok_iadd (v := (i + 1)) (pc' := 702) i0_701 rfl rfl <| ok_iaload (v := v1) (pc' := 703) i0_702 (ShScr_k0 hS1) (by decide) (ShScr_l0 hS1) (by omega) hv1 rfl <| ok_aloadn (pc' := 704) i0_703 rfl rfl <| ?_
      refine ok_iload (pc' := 706) i0_704 rfl rfl <| ok_iconst (pc' := 707) i0_706 rfl <| ok_iadd (v := (i + 2)) (pc' := 708) i0_707 rfl rfl <| ok_iaload (v := v2) (pc' := 709) i0_708 (ShScr_k0 hS1) (by decide) (ShScr_l0 hS1) (by omega) hv2 rfl <| ok_cc i0_709 rfl (cl_v o0 m13_220 na198 rfl rfl (bt rfl) (bt rfl) rfl (by rw [ShModel_k0 hS448, o198])) ln198 (pd198 (aR 448) (aI v1) (aI v2)) <| ok_aloadn (pc' := 1) i198_0 rfl rfl <| ok_iloadn (pc' := 2) i198_1 rfl rfl <| ok_cc i198_2 rfl (cl_v o198 m9_244 na199 rfl rfl (bt rfl) (bt rfl) rfl (by rw [ShModel_k0 hS448, o199])) ln199 (pd199 (aR 448) (aI v1)) <| ?_
      refine ok_aloadn (pc' := 1) i199_0 rfl rfl <| ok_cc i199_1 rfl (cl_v o199 m9_216 na188 rfl rfl (bt rfl) (bt rfl) rfl (by rw [ShModel_k0 hS448, o188])) ln188 (pd188 (aR 448)) <| ok_aloadn (pc' := 1) i188_0 rfl rfl <| ok_iconst (pc' := 2) i188_1 rfl <| ok_putfj (kk := 0) (pc' := 5) i188_2 o188 pi188_63 (ShModel_k0 hS448) rfl rfl <| ok_aloadn (pc' := 6) i188_5 rfl rfl <| ok_aloadn (pc' := 7) i188_6 rfl rfl <| ok_getfi (v := 1) (pc' := 10) i188_7 o188 gi9_66 (ShModel_k0 hS448) (rd_ni (by decide) (hld.trans hl)) rfl <| ?_
      refine ok_kz1 (pc1 := 17) (pc2 := 13) i188_10 (by decide) rfl rfl <| ok_iconst (pc' := 18) i188_17 rfl <| ok_iconst (pc' := 19) i188_18 rfl <| ok_cc i188_19 rfl (cl_v o188 m9_70 na165 rfl rfl (bt rfl) (bt rfl) rfl (by rw [ShModel_k0 hS448, o165])) ln165 (pd165 (aR 448) (aI 0) (aI 1)) <| ok_aloadn (pc' := 1) i165_0 rfl rfl <| ok_getfi (v := 0) (pc' := 4) i165_1 o165 gi9_63 (ShModel_k0 hS448) rd_eq rfl <| ok_kz0 (pc1 := 16) (pc2 := 7) i165_4 (by decide) rfl rfl <| ok_iloadn (pc' := 8) i165_7 rfl rfl <| ?_
      refine ok_kz1 (pc1 := 16) (pc2 := 11) i165_8 (by decide) rfl rfl <| ok_aloadn (pc' := 17) i165_16 rfl rfl <| ok_getfi (v := 0) (pc' := 20) i165_17 o165 gi9_63 (ShModel_k0 hS448) rd_eq rfl <| ok_kz1 (pc1 := 27) (pc2 := 23) i165_20 (by decide) rfl rfl <| ok_iconst (pc' := 28) i165_27 rfl <| ok_iretz i165_28 rt165 (by decide) <| kt_v (pc' := 22) rfl <| ok_iretz i188_22 rt188 (by decide) <| ?_
      refine kt_v (pc' := 4) rfl <| ok_kz0 (pc1 := 36) (pc2 := 7) i199_4 (by decide) rfl rfl <| ok_aloadn (pc' := 8) i199_7 rfl rfl <| ok_iloadn (pc' := 9) i199_8 rfl rfl <| ok_iconst (pc' := 10) i199_9 rfl <| ok_aloadn (pc' := 11) i199_10 rfl rfl <| ok_getfr (r := (448 + 5)) (pc' := 14) i199_11 o199 gr9_22 (ShModel_k0 hS448) (ShModel_r8 hS448) rfl <| ok_iconst (pc' := 15) i199_14 rfl <| ?_
      refine ok_iaload (v := (s 4)) (pc' := 16) i199_15 (ShModel_k5 hS448) (by decide) (ShModel_l5 hS448) (by decide) (rd_na (by omega) (RepO_s hO)) rfl <| ok_iconst (pc' := 17) i199_16 rfl <| ok_isub (v := ((s 4) - 1)) (pc' := 18) i199_17 rfl rfl <| ok_cc i199_18 rfl (cl_s o199 m9_140 na164 rfl rfl (bt rfl) (bt rfl) rfl) ln164 (pd164 (aI v1) (aI 0) (aI ((s 4) - 1))) <| ok_iloadn (pc' := 1) i164_0 rfl rfl <| ok_iloadn (pc' := 2) i164_1 rfl rfl <| ?_
      refine ok_clt (pc1 := 14) (pc2 := 5) i164_2 (by omega) rfl rfl (fun h9 => by exfalso; omega) (fun h517 => ?_)
      refine ok_iloadn (pc' := 6) i164_5 rfl rfl <| ok_iloadn (pc' := 7) i164_6 rfl rfl <| ?_
      refine ok_cgt (pc1 := 14) (pc2 := 10) i164_7 (by omega) rfl rfl (fun h518 => ?_) (fun h9 => by exfalso; omega)
      refine ok_iconst (pc' := 15) i164_14 rfl <| ok_iretz i164_15 rt164 (by decide) <| kt_v (pc' := 21) rfl <| ok_kz0 (pc1 := 28) (pc2 := 24) i199_21 (by decide) rfl rfl <| ok_iconst (pc' := 25) i199_24 rfl <| ok_goto (pc' := 29) i199_25 rfl <| ok_iconst (pc' := 30) i199_29 rfl <| ok_cc i199_30 rfl (cl_v o199 m9_70 na165 rfl rfl (bt rfl) (bt rfl) rfl (by rw [ShModel_k0 hS448, o165])) ln165 (pd165 (aR 448) (aI 1) (aI 2)) <| ?_
      refine ok_aloadn (pc' := 1) i165_0 rfl rfl <| ok_getfi (v := 0) (pc' := 4) i165_1 o165 gi9_63 (ShModel_k0 hS448) rd_eq rfl <| ok_kz0 (pc1 := 16) (pc2 := 7) i165_4 (by decide) rfl rfl <| ok_iloadn (pc' := 8) i165_7 rfl rfl <| ok_kz0 (pc1 := 16) (pc2 := 11) i165_8 (by decide) rfl rfl <| ok_aloadn (pc' := 12) i165_11 rfl rfl <| ok_iloadn (pc' := 13) i165_12 rfl rfl <| ok_putfj (kk := 0) (pc' := 16) i165_13 o165 pi165_63 (ShModel_k0 hS448) rfl rfl <| ?_
      refine ok_aloadn (pc' := 17) i165_16 rfl rfl <| ok_getfi (v := 2) (pc' := 20) i165_17 o165 gi9_63 (ShModel_k0 hS448) rd_eq rfl <| ok_kz0 (pc1 := 27) (pc2 := 23) i165_20 (by decide) rfl rfl <| ok_iconst (pc' := 24) i165_23 rfl <| ok_goto (pc' := 28) i165_24 rfl <| ok_iretz i165_28 rt165 (by decide) <| kt_v (pc' := 33) rfl <| ok_kz0 (pc1 := 40) (pc2 := 36) i199_33 (by decide) rfl rfl <| ?_
      refine ok_iconst (pc' := 37) i199_36 rfl <| ok_goto (pc' := 41) i199_37 rfl <| ok_iretz i199_41 rt199 (by decide) <| kt_v (pc' := 5) rfl <| ok_kz1 (pc1 := 31) (pc2 := 8) i198_5 (by decide) rfl rfl <| ok_iconst (pc' := 32) i198_31 rfl <| ok_goto (pc' := 41) i198_32 rfl <| ok_ireti i198_41 rt198 <| ?_
      refine kt_v (pc' := 712) rfl <| ok_istore (pc' := 714) (ls' := [aR 1, aR 100, aR 448, aR 464, aR 465, aI i, aI 2, aI 0, w8]) i0_712 (bt rfl) rfl rfl <| ok_aloadn (pc' := 715) i0_714 rfl rfl <| ok_cc i0_715 rfl (cl_v o0 m13_188 na157 rfl rfl (bt rfl) (bt rfl) rfl (by rw [ShModel_k0 hS448, o157])) ln157 (pd157 (aR 448)) <| ok_aloadn (pc' := 1) i157_0 rfl rfl <| ok_getfi (v := 2) (pc' := 4) i157_1 o157 gi9_63 (ShModel_k0 hS448) rd_eq rfl <| ok_ireti i157_4 rt157 <| kt_v (pc' := 718) rfl <| ?_
      refine ok_iload (pc' := 720) i0_718 rfl rfl <| ok_kc1 (pc1 := 725) (pc2 := 723) i0_720 (by decide) rfl rfl <| ok_iload (pc' := 727) i0_725 rfl rfl <| ok_kz1 (pc1 := 742) (pc2 := 730) i0_727 (by decide) rfl rfl <| ok_goto (pc' := 3329) i0_742 rfl <| ?_
      exact K _ _ _ _ _ _ hD (by omega) (Inv_mono (Inv_same hI (Same.thr (Same.thr Same.rfl))) (by omega))
theorem c9_0 {L n : Nat} {g : AG} {M : AM} {xs : Nat → Int32} {b i : Int} {w6 w7 w8 : AV} {Q : AO → AG → AM → Prop} (hD : HD L n g) (hI : Inv xs b M) (hi : 0 ≤ i ∧ i + 6 ≤ L) (hb : 0 ≤ b ∧ b ≤ 900000) (hl : M 100 6 = 0) (K : KK L n i b xs Q) :
    Ok 10 0 677 [aR 1, aR 100, aR 448, aR 464, aR 465, aI i, w6, w7, w8] [] g M Q := by
  have hI0 := hI
  obtain ⟨hA, hld, hl01, q, hc, ⟨nx, sz, hH, hsz⟩, hS⟩ := hI0
  have hH0 := hH
  obtain ⟨⟨hn1, hn0⟩, ⟨hz2, hz0⟩, h10, hHj⟩ := hH0
  obtain ⟨hw0, ⟨bu, by_, hb1, hb13, hbu, hZ, hU⟩, he3, he4, he5, hId, tx, hT, hUt, htl, htr⟩ := hA
  obtain ⟨v1, hv1⟩ : ∃ u9 : Int, M 1 (i + 1) = u9 := ⟨_, rfl⟩
  have hr1 : -2147483648 ≤ v1 ∧ v1 < 2147483648 := hv1 ▸ scr_rg hw0 (i + 1)
  obtain ⟨v2, hv2⟩ : ∃ u9 : Int, M 1 (i + 2) = u9 := ⟨_, rfl⟩
  have hr2 : -2147483648 ≤ v2 ∧ v2 < 2147483648 := hv2 ▸ scr_rg hw0 (i + 2)
  have hS1 := HD_s hD
  have hS100 := HD_y hD
  have hS448 := HD_o hD
  have hS464 := HD_u hD
  have hS465 := HD_ud hD
  refine ok_aloadn (pc' := 678) i0_677 rfl rfl <| ok_aloadn (pc' := 679) i0_678 rfl rfl <| ok_iload (pc' := 681) i0_679 rfl rfl <| ok_iconst (pc' := 682) i0_681 rfl <| ok_iadd (v := (i + 1)) (pc' := 683) i0_682 rfl rfl <| ok_iaload (v := v1) (pc' := 684) i0_683 (ShScr_k0 hS1) (by decide) (ShScr_l0 hS1) (by omega) hv1 rfl <| ok_aloadn (pc' := 685) i0_684 rfl rfl <| ok_iload (pc' := 687) i0_685 rfl rfl <| ?_
  refine ok_iconst (pc' := 688) i0_687 rfl <| ok_iadd (v := (i + 2)) (pc' := 689) i0_688 rfl rfl <| ok_iaload (v := v2) (pc' := 690) i0_689 (ShScr_k0 hS1) (by decide) (ShScr_l0 hS1) (by omega) hv2 rfl <| ok_aloadn (pc' := 691) i0_690 rfl rfl <| ok_cc i0_691 rfl (cl_s o0 m13_218 na283 rfl rfl (bt rfl) (bt rfl) rfl) ln283 (pd283 (aR 100) (aI v1) (aI v2) (aR 464)) <| ok_aloadn (pc' := 1) i283_0 rfl rfl <| ok_iconst (pc' := 2) i283_1 rfl <| ok_aloadn (pc' := 3) i283_2 rfl rfl <| ?_
  refine ok_iloadn (pc' := 4) i283_3 rfl rfl <| ok_iloadn (pc' := 5) i283_4 rfl rfl <| ok_cc i283_5 rfl (cl_v o283 m13_30 na105 rfl rfl (bt rfl) (bt rfl) rfl (by rw [ShYard_k0 hS100, o105])) ln105 (pd105 (aR 100) (aI v1) (aI v2)) <| ok_aloadn (pc' := 1) i105_0 rfl rfl <| ok_cc i105_1 rfl (cl_v o105 m0_132 na99 rfl rfl (bt rfl) (bt rfl) rfl (by rw [ShYard_k0 hS100, o99])) ln99 (pd99 (aR 100)) <| ok_aloadn (pc' := 1) i99_0 rfl rfl <| ok_getfi (v := 0) (pc' := 4) i99_1 o99 gi0_268 (ShYard_k0 hS100) hl rfl <| ok_kz0 (pc1 := 18) (pc2 := 7) i99_4 (by decide) rfl rfl <| ?_
  refine ok_throw th99_7 (bt rfl) <| kt_x hh105 <| kt_h hn283 hf283_5_12 hr283_13 <| kt_v (pc' := 694) rfl <| ?_
  refine ok_al hD (fun g hD => ?_)
  have hS448 := HD_o hD
  have hS1 := HD_s hD
  have hS464 := HD_u hD
  have hS465 := HD_ud hD
  refine ok_istore (pc' := 696) (ls' := [aR 1, aR 100, aR 448, aR 464, aR 465, aI i, aI 1, w7, w8]) i0_694 (bt rfl) rfl rfl <| ok_aloadn (pc' := 697) i0_696 rfl rfl <| ok_aloadn (pc' := 698) i0_697 rfl rfl <| ok_iload (pc' := 700) i0_698 rfl rfl <| ok_iconst (pc' := 701) i0_700 rfl <| ok_iadd (v := (i + 1)) (pc' := 702) i0_701 rfl rfl <| ok_iaload (v := v1) (pc' := 703) i0_702 (ShScr_k0 hS1) (by decide) (ShScr_l0 hS1) (by omega) hv1 rfl <| ok_aloadn (pc' := 704) i0_703 rfl rfl <| ?_
  refine ok_iload (pc' := 706) i0_704 rfl rfl <| ok_iconst (pc' := 707) i0_706 rfl <| ok_iadd (v := (i + 2)) (pc' := 708) i0_707 rfl rfl <| ok_iaload (v := v2) (pc' := 709) i0_708 (ShScr_k0 hS1) (by decide) (ShScr_l0 hS1) (by omega) hv2 rfl <| ok_cc i0_709 rfl (cl_v o0 m13_220 na198 rfl rfl (bt rfl) (bt rfl) rfl (by rw [ShModel_k0 hS448, o198])) ln198 (pd198 (aR 448) (aI v1) (aI v2)) <| ok_aloadn (pc' := 1) i198_0 rfl rfl <| ok_iloadn (pc' := 2) i198_1 rfl rfl <| ok_cc i198_2 rfl (cl_v o198 m9_244 na199 rfl rfl (bt rfl) (bt rfl) rfl (by rw [ShModel_k0 hS448, o199])) ln199 (pd199 (aR 448) (aI v1)) <| ?_
  refine ok_aloadn (pc' := 1) i199_0 rfl rfl <| ok_cc i199_1 rfl (cl_v o199 m9_216 na188 rfl rfl (bt rfl) (bt rfl) rfl (by rw [ShModel_k0 hS448, o188])) ln188 (pd188 (aR 448)) <| ok_aloadn (pc' := 1) i188_0 rfl rfl <| ok_iconst (pc' := 2) i188_1 rfl <| ok_putfj (kk := 0) (pc' := 5) i188_2 o188 pi188_63 (ShModel_k0 hS448) rfl rfl <| ok_aloadn (pc' := 6) i188_5 rfl rfl <| ok_aloadn (pc' := 7) i188_6 rfl rfl <| ok_getfi (v := 0) (pc' := 10) i188_7 o188 gi9_66 (ShModel_k0 hS448) (rd_ni (by decide) (hld.trans hl)) rfl <| ?_
  refine ok_kz0 (pc1 := 17) (pc2 := 13) i188_10 (by decide) rfl rfl <| ok_iconst (pc' := 14) i188_13 rfl <| ok_goto (pc' := 18) i188_14 rfl <| ok_iconst (pc' := 19) i188_18 rfl <| ok_cc i188_19 rfl (cl_v o188 m9_70 na165 rfl rfl (bt rfl) (bt rfl) rfl (by rw [ShModel_k0 hS448, o165])) ln165 (pd165 (aR 448) (aI 1) (aI 1)) <| ok_aloadn (pc' := 1) i165_0 rfl rfl <| ok_getfi (v := 0) (pc' := 4) i165_1 o165 gi9_63 (ShModel_k0 hS448) rd_eq rfl <| ok_kz0 (pc1 := 16) (pc2 := 7) i165_4 (by decide) rfl rfl <| ?_
  refine ok_iloadn (pc' := 8) i165_7 rfl rfl <| ok_kz0 (pc1 := 16) (pc2 := 11) i165_8 (by decide) rfl rfl <| ok_aloadn (pc' := 12) i165_11 rfl rfl <| ok_iloadn (pc' := 13) i165_12 rfl rfl <| ok_putfj (kk := 0) (pc' := 16) i165_13 o165 pi165_63 (ShModel_k0 hS448) rfl rfl <| ok_aloadn (pc' := 17) i165_16 rfl rfl <| ok_getfi (v := 1) (pc' := 20) i165_17 o165 gi9_63 (ShModel_k0 hS448) rd_eq rfl <| ok_kz0 (pc1 := 27) (pc2 := 23) i165_20 (by decide) rfl rfl <| ?_
  refine ok_iconst (pc' := 24) i165_23 rfl <| ok_goto (pc' := 28) i165_24 rfl <| ok_iretz i165_28 rt165 (by decide) <| kt_v (pc' := 22) rfl <| ok_iretz i188_22 rt188 (by decide) <| kt_v (pc' := 4) rfl <| ok_kz1 (pc1 := 36) (pc2 := 7) i199_4 (by decide) rfl rfl <| ok_iconst (pc' := 37) i199_36 rfl <| ?_
  refine ok_goto (pc' := 41) i199_37 rfl <| ok_iretz i199_41 rt199 (by decide) <| kt_v (pc' := 5) rfl <| ok_kz1 (pc1 := 31) (pc2 := 8) i198_5 (by decide) rfl rfl <| ok_iconst (pc' := 32) i198_31 rfl <| ok_goto (pc' := 41) i198_32 rfl <| ok_ireti i198_41 rt198 <| kt_v (pc' := 712) rfl <| ?_
  refine ok_istore (pc' := 714) (ls' := [aR 1, aR 100, aR 448, aR 464, aR 465, aI i, aI 1, aI 0, w8]) i0_712 (bt rfl) rfl rfl <| ok_aloadn (pc' := 715) i0_714 rfl rfl <| ok_cc i0_715 rfl (cl_v o0 m13_188 na157 rfl rfl (bt rfl) (bt rfl) rfl (by rw [ShModel_k0 hS448, o157])) ln157 (pd157 (aR 448)) <| ok_aloadn (pc' := 1) i157_0 rfl rfl <| ok_getfi (v := 1) (pc' := 4) i157_1 o157 gi9_63 (ShModel_k0 hS448) rd_eq rfl <| ok_ireti i157_4 rt157 <| kt_v (pc' := 718) rfl <| ok_iload (pc' := 720) i0_718 rfl rfl <| ?_
  refine ok_kc1 (pc1 := 725) (pc2 := 723) i0_720 (by decide) rfl rfl <| ok_iload (pc' := 727) i0_725 rfl rfl <| ok_kz1 (pc1 := 742) (pc2 := 730) i0_727 (by decide) rfl rfl <| ok_goto (pc' := 3329) i0_742 rfl <| ?_
  exact K _ _ _ _ _ _ hD (by omega) (Inv_mono (Inv_same hI (Same.thr (Same.thr Same.rfl))) (by omega))
theorem c7_1 {L n : Nat} {g : AG} {M : AM} {xs : Nat → Int32} {b i : Int} {w6 w7 w8 : AV} {Q : AO → AG → AM → Prop} (hD : HD L n g) (hI : Inv xs b M) (hi : 0 ≤ i ∧ i + 6 ≤ L) (hb : 0 ≤ b ∧ b ≤ 900000) (hl : M 100 6 = 1) (K : KK L n i b xs Q) :
    Ok 10 0 525 [aR 1, aR 100, aR 448, aR 464, aR 465, aI i, w6, w7, w8] [] g M Q := by
  have hI0 := hI
  obtain ⟨hA, hld, hl01, q, hc, ⟨nx, sz, hH, hsz⟩, hS⟩ := hI0
  have hH0 := hH
  obtain ⟨⟨hn1, hn0⟩, ⟨hz2, hz0⟩, h10, hHj⟩ := hH0
  obtain ⟨hw0, ⟨bu, by_, hb1, hb13, hbu, hZ, hU⟩, he3, he4, he5, hId, tx, hT, hUt, htl, htr⟩ := hA
  obtain ⟨s, hP, hRB, hO, hV, hQ, h40⟩ := hc hl
  have ys3 := V_3 hV
  have ys4 := V_4 hV
  have yq0 := Q_0 hQ
  have yq1 := Q_1 hQ
  obtain ⟨v1, hv1⟩ : ∃ u9 : Int, M 1 (i + 1) = u9 := ⟨_, rfl⟩
  have hr1 : -2147483648 ≤ v1 ∧ v1 < 2147483648 := hv1 ▸ scr_rg hw0 (i + 1)
  obtain ⟨v2, hv2⟩ : ∃ u9 : Int, M 1 (i + 2) = u9 := ⟨_, rfl⟩
  have hr2 : -2147483648 ≤ v2 ∧ v2 < 2147483648 := hv2 ▸ scr_rg hw0 (i + 2)
  have hS1 := HD_s hD
  have hS100 := HD_y hD
  have hS138 := HD_p hD
  have hS448 := HD_o hD
  have hS464 := HD_u hD
  have hS465 := HD_ud hD
  refine ok_aloadn (pc' := 526) i0_525 rfl rfl <| ok_aloadn (pc' := 527) i0_526 rfl rfl <| ok_iload (pc' := 529) i0_527 rfl rfl <| ok_iconst (pc' := 530) i0_529 rfl <| ok_iadd (v := (i + 1)) (pc' := 531) i0_530 rfl rfl <| ok_iaload (v := v1) (pc' := 532) i0_531 (ShScr_k0 hS1) (by decide) (ShScr_l0 hS1) (by omega) hv1 rfl <| ok_aloadn (pc' := 533) i0_532 rfl rfl <| ok_iload (pc' := 535) i0_533 rfl rfl <| ?_
  refine ok_iconst (pc' := 536) i0_535 rfl <| ok_iadd (v := (i + 2)) (pc' := 537) i0_536 rfl rfl <| ok_iaload (v := v2) (pc' := 538) i0_537 (ShScr_k0 hS1) (by decide) (ShScr_l0 hS1) (by omega) hv2 rfl <| ?_
  refine ok_zeq (pc1 := 545) (pc2 := 541) i0_538 (by omega) rfl rfl (fun h501 => ?_) (fun h501 => ?_)
  · refine ok_iconst (pc' := 546) i0_545 rfl <| ok_aloadn (pc' := 547) i0_546 rfl rfl <| ok_cc i0_547 rfl (cl_s o0 m13_210 na281 rfl rfl (bt rfl) (bt rfl) rfl) ln281 (pd281 (aR 100) (aI v1) (aI 0) (aR 464)) <| ok_aloadn (pc' := 1) i281_0 rfl rfl <| ok_iconst (pc' := 2) i281_1 rfl <| ok_aloadn (pc' := 3) i281_2 rfl rfl <| ok_iloadn (pc' := 4) i281_3 rfl rfl <| ok_iloadn (pc' := 5) i281_4 rfl rfl <| ?_
    refine ok_cc i281_5 rfl (cl_v o281 m13_22 na100 rfl rfl (bt rfl) (bt rfl) rfl (by rw [ShYard_k0 hS100, o100])) ln100 (pd100 (aR 100) (aI v1) (aI 0)) <| ok_aloadn (pc' := 1) i100_0 rfl rfl <| ok_cc i100_1 rfl (cl_v o100 m0_132 na99 rfl rfl (bt rfl) (bt rfl) rfl (by rw [ShYard_k0 hS100, o99])) ln99 (pd99 (aR 100)) <| ok_aloadn (pc' := 1) i99_0 rfl rfl <| ok_getfi (v := 1) (pc' := 4) i99_1 o99 gi0_268 (ShYard_k0 hS100) hl rfl <| ok_kz1 (pc1 := 18) (pc2 := 7) i99_4 (by decide) rfl rfl <| ok_vret i99_18 rt99 <| kt_0 (pc' := 4) rfl <| ?_
    refine ok_aloadn (pc' := 5) i100_4 rfl rfl <| ok_iloadn (pc' := 6) i100_5 rfl rfl <| ok_cc i100_6 rfl (cl_v o100 m0_158 na101 rfl rfl (bt rfl) (bt rfl) rfl (by rw [ShYard_k0 hS100, o101])) ln101 (pd101 (aR 100) (aI v1)) <| ok_iloadn (pc' := 1) i101_0 rfl rfl <| ?_
    refine ok_zlt (pc1 := 15) (pc2 := 4) i101_1 (by omega) rfl rfl (fun h502 => ?_) (fun h502 => ?_)
    · refine ok_throw th101_15 (bt rfl) <| kt_x hh100 <| kt_h hn281 hf281_5_10 hr281_17 <| kt_v (pc' := 550) rfl <| ?_
      refine ok_al hD (fun g hD => ?_)
      have hS448 := HD_o hD
      have hS1 := HD_s hD
      have hS464 := HD_u hD
      have hS465 := HD_ud hD
      refine ok_istore (pc' := 552) (ls' := [aR 1, aR 100, aR 448, aR 464, aR 465, aI i, aI 2, w7, w8]) i0_550 (bt rfl) rfl rfl <| ok_aloadn (pc' := 553) i0_552 rfl rfl <| ok_aloadn (pc' := 554) i0_553 rfl rfl <| ok_iload (pc' := 556) i0_554 rfl rfl <| ok_iconst (pc' := 557) i0_556 rfl <| ok_iadd (v := (i + 1)) (pc' := 558) i0_557 rfl rfl <| ok_iaload (v := v1) (pc' := 559) i0_558 (ShScr_k0 hS1) (by decide) (ShScr_l0 hS1) (by omega) hv1 rfl <| ok_aloadn (pc' := 560) i0_559 rfl rfl <| ?_
      refine ok_iload (pc' := 562) i0_560 rfl rfl <| ok_iconst (pc' := 563) i0_562 rfl <| ok_iadd (v := (i + 2)) (pc' := 564) i0_563 rfl rfl <| ok_iaload (v := v2) (pc' := 565) i0_564 (ShScr_k0 hS1) (by decide) (ShScr_l0 hS1) (by omega) hv2 rfl <| ?_
      refine ok_zeq (pc1 := 572) (pc2 := 568) i0_565 (by omega) rfl rfl (fun h503 => ?_) (fun h9 => by exfalso; omega)
      refine ok_iconst (pc' := 573) i0_572 rfl <| ok_cc i0_573 rfl (cl_v o0 m13_213 na193 rfl rfl (bt rfl) (bt rfl) rfl (by rw [ShModel_k0 hS448, o193])) ln193 (pd193 (aR 448) (aI v1) (aI 0)) <| ok_aloadn (pc' := 1) i193_0 rfl rfl <| ok_iloadn (pc' := 2) i193_1 rfl rfl <| ok_cc i193_2 rfl (cl_v o193 m9_238 na194 rfl rfl (bt rfl) (bt rfl) rfl (by rw [ShModel_k0 hS448, o194])) ln194 (pd194 (aR 448) (aI v1)) <| ok_aloadn (pc' := 1) i194_0 rfl rfl <| ok_cc i194_1 rfl (cl_v o194 m9_216 na188 rfl rfl (bt rfl) (bt rfl) rfl (by rw [ShModel_k0 hS448, o188])) ln188 (pd188 (aR 448)) <| ok_aloadn (pc' := 1) i188_0 rfl rfl <| ?_
      refine ok_iconst (pc' := 2) i188_1 rfl <| ok_putfj (kk := 0) (pc' := 5) i188_2 o188 pi188_63 (ShModel_k0 hS448) rfl rfl <| ok_aloadn (pc' := 6) i188_5 rfl rfl <| ok_aloadn (pc' := 7) i188_6 rfl rfl <| ok_getfi (v := 1) (pc' := 10) i188_7 o188 gi9_66 (ShModel_k0 hS448) (rd_ni (by decide) (hld.trans hl)) rfl <| ok_kz1 (pc1 := 17) (pc2 := 13) i188_10 (by decide) rfl rfl <| ok_iconst (pc' := 18) i188_17 rfl <| ok_iconst (pc' := 19) i188_18 rfl <| ?_
      refine ok_cc i188_19 rfl (cl_v o188 m9_70 na165 rfl rfl (bt rfl) (bt rfl) rfl (by rw [ShModel_k0 hS448, o165])) ln165 (pd165 (aR 448) (aI 0) (aI 1)) <| ok_aloadn (pc' := 1) i165_0 rfl rfl <| ok_getfi (v := 0) (pc' := 4) i165_1 o165 gi9_63 (ShModel_k0 hS448) rd_eq rfl <| ok_kz0 (pc1 := 16) (pc2 := 7) i165_4 (by decide) rfl rfl <| ok_iloadn (pc' := 8) i165_7 rfl rfl <| ok_kz1 (pc1 := 16) (pc2 := 11) i165_8 (by decide) rfl rfl <| ok_aloadn (pc' := 17) i165_16 rfl rfl <| ok_getfi (v := 0) (pc' := 20) i165_17 o165 gi9_63 (ShModel_k0 hS448) rd_eq rfl <| ?_
      refine ok_kz1 (pc1 := 27) (pc2 := 23) i165_20 (by decide) rfl rfl <| ok_iconst (pc' := 28) i165_27 rfl <| ok_iretz i165_28 rt165 (by decide) <| kt_v (pc' := 22) rfl <| ok_iretz i188_22 rt188 (by decide) <| kt_v (pc' := 4) rfl <| ok_kz0 (pc1 := 34) (pc2 := 7) i194_4 (by decide) rfl rfl <| ok_aloadn (pc' := 8) i194_7 rfl rfl <| ?_
      refine ok_iloadn (pc' := 9) i194_8 rfl rfl <| ok_iconst (pc' := 10) i194_9 rfl <| ok_aloadn (pc' := 11) i194_10 rfl rfl <| ok_getfi (v := (q 0)) (pc' := 14) i194_11 o194 gi9_203 (ShModel_k0 hS448) (rd_ni (by decide) (RepO_f2 hO)) rfl <| ok_iconst (pc' := 15) i194_14 rfl <| ok_isub (v := ((q 0) - 1)) (pc' := 16) i194_15 rfl rfl <| ok_cc i194_16 rfl (cl_s o194 m9_140 na164 rfl rfl (bt rfl) (bt rfl) rfl) ln164 (pd164 (aI v1) (aI 0) (aI ((q 0) - 1))) <| ok_iloadn (pc' := 1) i164_0 rfl rfl <| ?_
      refine ok_iloadn (pc' := 2) i164_1 rfl rfl <| ?_
      refine ok_clt (pc1 := 14) (pc2 := 5) i164_2 (by omega) rfl rfl (fun h504 => ?_) (fun h9 => by exfalso; omega)
      refine ok_iconst (pc' := 15) i164_14 rfl <| ok_iretz i164_15 rt164 (by decide) <| kt_v (pc' := 19) rfl <| ok_kz0 (pc1 := 26) (pc2 := 22) i194_19 (by decide) rfl rfl <| ok_iconst (pc' := 23) i194_22 rfl <| ok_goto (pc' := 27) i194_23 rfl <| ok_iconst (pc' := 28) i194_27 rfl <| ok_cc i194_28 rfl (cl_v o194 m9_70 na165 rfl rfl (bt rfl) (bt rfl) rfl (by rw [ShModel_k0 hS448, o165])) ln165 (pd165 (aR 448) (aI 1) (aI 2)) <| ?_
      refine ok_aloadn (pc' := 1) i165_0 rfl rfl <| ok_getfi (v := 0) (pc' := 4) i165_1 o165 gi9_63 (ShModel_k0 hS448) rd_eq rfl <| ok_kz0 (pc1 := 16) (pc2 := 7) i165_4 (by decide) rfl rfl <| ok_iloadn (pc' := 8) i165_7 rfl rfl <| ok_kz0 (pc1 := 16) (pc2 := 11) i165_8 (by decide) rfl rfl <| ok_aloadn (pc' := 12) i165_11 rfl rfl <| ok_iloadn (pc' := 13) i165_12 rfl rfl <| ok_putfj (kk := 0) (pc' := 16) i165_13 o165 pi165_63 (ShModel_k0 hS448) rfl rfl <| ?_
      refine ok_aloadn (pc' := 17) i165_16 rfl rfl <| ok_getfi (v := 2) (pc' := 20) i165_17 o165 gi9_63 (ShModel_k0 hS448) rd_eq rfl <| ok_kz0 (pc1 := 27) (pc2 := 23) i165_20 (by decide) rfl rfl <| ok_iconst (pc' := 24) i165_23 rfl <| ok_goto (pc' := 28) i165_24 rfl <| ok_iretz i165_28 rt165 (by decide) <| kt_v (pc' := 31) rfl <| ok_kz0 (pc1 := 38) (pc2 := 34) i194_31 (by decide) rfl rfl <| ?_
      refine ok_iconst (pc' := 35) i194_34 rfl <| ok_goto (pc' := 39) i194_35 rfl <| ok_iretz i194_39 rt194 (by decide) <| kt_v (pc' := 5) rfl <| ok_kz0 (pc1 := 12) (pc2 := 8) i193_5 (by decide) rfl rfl <| ok_iconst (pc' := 9) i193_8 rfl <| ok_goto (pc' := 31) i193_9 rfl <| ok_ireti i193_31 rt193 <| ?_
      refine kt_v (pc' := 576) rfl <| ok_istore (pc' := 578) (ls' := [aR 1, aR 100, aR 448, aR 464, aR 465, aI i, aI 2, aI 0, w8]) i0_576 (bt rfl) rfl rfl <| ok_aloadn (pc' := 579) i0_578 rfl rfl <| ok_cc i0_579 rfl (cl_v o0 m13_188 na157 rfl rfl (bt rfl) (bt rfl) rfl (by rw [ShModel_k0 hS448, o157])) ln157 (pd157 (aR 448)) <| ok_aloadn (pc' := 1) i157_0 rfl rfl <| ok_getfi (v := 2) (pc' := 4) i157_1 o157 gi9_63 (ShModel_k0 hS448) rd_eq rfl <| ok_ireti i157_4 rt157 <| kt_v (pc' := 582) rfl <| ?_
      refine ok_iload (pc' := 584) i0_582 rfl rfl <| ok_kc1 (pc1 := 589) (pc2 := 587) i0_584 (by decide) rfl rfl <| ok_iload (pc' := 591) i0_589 rfl rfl <| ok_kz1 (pc1 := 606) (pc2 := 594) i0_591 (by decide) rfl rfl <| ok_goto (pc' := 3329) i0_606 rfl <| ?_
      exact K _ _ _ _ _ _ hD (by omega) (Inv_mono (Inv_same hI (Same.thr (Same.thr Same.rfl))) (by omega))
    · refine ok_iloadn (pc' := 5) i101_4 rfl rfl <| ok_aloadn (pc' := 6) i101_5 rfl rfl <| ok_getfr (r := 138) (pc' := 9) i101_6 o101 gr0_32 (ShYard_k0 hS100) (ShYard_r7 hS100) rfl <| ok_getfi (v := (q 0)) (pc' := 12) i101_9 o101 gi0_135 (ShPlan_k0 hS138) (RepP_f0 hP) rfl <| ?_
      refine ok_clt (pc1 := 26) (pc2 := 15) i101_12 (by omega) rfl rfl (fun h505 => ?_) (fun h505 => ?_)
      · refine ok_vret i101_26 rt101 <| kt_0 (pc' := 9) rfl <| ok_iloadn (pc' := 10) i100_9 rfl rfl <| ok_kz1 (pc1 := 25) (pc2 := 13) i100_10 (by decide) rfl rfl <| ok_aloadn (pc' := 26) i100_25 rfl rfl <| ok_getfr (r := 138) (pc' := 29) i100_26 o100 gr0_32 (ShYard_k0 hS100) (ShYard_r7 hS100) rfl <| ok_getfr (r := (138 + 1)) (pc' := 32) i100_29 o100 gr0_166 (ShPlan_k0 hS138) (ShPlan_r1 hS138) rfl <| ok_iloadn (pc' := 33) i100_32 rfl rfl <| ?_
        have z301 : 1 ≤ q (2 + v1) ∧ q (2 + v1) ≤ 200 := Q_2 hQ (i := v1) (by omega) (by omega)
        refine ok_iaload (v := (q (2 + v1))) (pc' := 34) i100_33 (ShPlan_k1 hS138) (by decide) (ShPlan_l1 hS138) (by omega) (RepP_1 hP (by omega) (by omega)) rfl <| ok_ireti i100_34 rt100 <| kt_v (pc' := 8) rfl <| ok_i2l (v := (wr (q (2 + v1)))) (pc' := 9) i281_8 rfl rfl <| ok_lastore (pc' := 10) i281_9 (ShOut_k0 hS464) (ShOut_l0 hS464) (by decide) rfl <| ok_goto (pc' := 21) i281_10 rfl <| ok_iconst (pc' := 22) i281_21 rfl <| ok_ireti i281_22 rt281 <| ?_
        refine kt_v (pc' := 550) rfl <| ok_istore (pc' := 552) (ls' := [aR 1, aR 100, aR 448, aR 464, aR 465, aI i, aI 0, w7, w8]) i0_550 (bt rfl) rfl rfl <| ok_aloadn (pc' := 553) i0_552 rfl rfl <| ok_aloadn (pc' := 554) i0_553 rfl rfl <| ok_iload (pc' := 556) i0_554 rfl rfl <| ok_iconst (pc' := 557) i0_556 rfl <| ok_iadd (v := (i + 1)) (pc' := 558) i0_557 rfl rfl <| ok_iaload (v := v1) (pc' := 559) i0_558 (ShScr_k0 hS1) (by decide) (ShScr_l0 hS1) (by omega) (rd_na (by omega) hv1) rfl <| ?_
        refine ok_aloadn (pc' := 560) i0_559 rfl rfl <| ok_iload (pc' := 562) i0_560 rfl rfl <| ok_iconst (pc' := 563) i0_562 rfl <| ok_iadd (v := (i + 2)) (pc' := 564) i0_563 rfl rfl <| ok_iaload (v := v2) (pc' := 565) i0_564 (ShScr_k0 hS1) (by decide) (ShScr_l0 hS1) (by omega) (rd_na (by omega) hv2) rfl <| ?_
        refine ok_zeq (pc1 := 572) (pc2 := 568) i0_565 (by omega) rfl rfl (fun h506 => ?_) (fun h9 => by exfalso; omega)
        refine ok_iconst (pc' := 573) i0_572 rfl <| ok_cc i0_573 rfl (cl_v o0 m13_213 na193 rfl rfl (bt rfl) (bt rfl) rfl (by rw [ShModel_k0 hS448, o193])) ln193 (pd193 (aR 448) (aI v1) (aI 0)) <| ok_aloadn (pc' := 1) i193_0 rfl rfl <| ok_iloadn (pc' := 2) i193_1 rfl rfl <| ok_cc i193_2 rfl (cl_v o193 m9_238 na194 rfl rfl (bt rfl) (bt rfl) rfl (by rw [ShModel_k0 hS448, o194])) ln194 (pd194 (aR 448) (aI v1)) <| ok_aloadn (pc' := 1) i194_0 rfl rfl <| ok_cc i194_1 rfl (cl_v o194 m9_216 na188 rfl rfl (bt rfl) (bt rfl) rfl (by rw [ShModel_k0 hS448, o188])) ln188 (pd188 (aR 448)) <| ok_aloadn (pc' := 1) i188_0 rfl rfl <| ?_
        refine ok_iconst (pc' := 2) i188_1 rfl <| ok_putfj (kk := 0) (pc' := 5) i188_2 o188 pi188_63 (ShModel_k0 hS448) rfl rfl <| ok_aloadn (pc' := 6) i188_5 rfl rfl <| ok_aloadn (pc' := 7) i188_6 rfl rfl <| ok_getfi (v := 1) (pc' := 10) i188_7 o188 gi9_66 (ShModel_k0 hS448) (rd_ni (by decide) (rd_na (by omega) (hld.trans hl))) rfl <| ok_kz1 (pc1 := 17) (pc2 := 13) i188_10 (by decide) rfl rfl <| ok_iconst (pc' := 18) i188_17 rfl <| ok_iconst (pc' := 19) i188_18 rfl <| ?_
        refine ok_cc i188_19 rfl (cl_v o188 m9_70 na165 rfl rfl (bt rfl) (bt rfl) rfl (by rw [ShModel_k0 hS448, o165])) ln165 (pd165 (aR 448) (aI 0) (aI 1)) <| ok_aloadn (pc' := 1) i165_0 rfl rfl <| ok_getfi (v := 0) (pc' := 4) i165_1 o165 gi9_63 (ShModel_k0 hS448) rd_eq rfl <| ok_kz0 (pc1 := 16) (pc2 := 7) i165_4 (by decide) rfl rfl <| ok_iloadn (pc' := 8) i165_7 rfl rfl <| ok_kz1 (pc1 := 16) (pc2 := 11) i165_8 (by decide) rfl rfl <| ok_aloadn (pc' := 17) i165_16 rfl rfl <| ok_getfi (v := 0) (pc' := 20) i165_17 o165 gi9_63 (ShModel_k0 hS448) rd_eq rfl <| ?_
        refine ok_kz1 (pc1 := 27) (pc2 := 23) i165_20 (by decide) rfl rfl <| ok_iconst (pc' := 28) i165_27 rfl <| ok_iretz i165_28 rt165 (by decide) <| kt_v (pc' := 22) rfl <| ok_iretz i188_22 rt188 (by decide) <| kt_v (pc' := 4) rfl <| ok_kz0 (pc1 := 34) (pc2 := 7) i194_4 (by decide) rfl rfl <| ok_aloadn (pc' := 8) i194_7 rfl rfl <| ?_
        refine ok_iloadn (pc' := 9) i194_8 rfl rfl <| ok_iconst (pc' := 10) i194_9 rfl <| ok_aloadn (pc' := 11) i194_10 rfl rfl <| ok_getfi (v := (q 0)) (pc' := 14) i194_11 o194 gi9_203 (ShModel_k0 hS448) (rd_ni (by decide) (rd_na (by omega) (RepO_f2 hO))) rfl <| ok_iconst (pc' := 15) i194_14 rfl <| ok_isub (v := ((q 0) - 1)) (pc' := 16) i194_15 rfl rfl <| ok_cc i194_16 rfl (cl_s o194 m9_140 na164 rfl rfl (bt rfl) (bt rfl) rfl) ln164 (pd164 (aI v1) (aI 0) (aI ((q 0) - 1))) <| ok_iloadn (pc' := 1) i164_0 rfl rfl <| ?_
        refine ok_iloadn (pc' := 2) i164_1 rfl rfl <| ?_
        refine ok_clt (pc1 := 14) (pc2 := 5) i164_2 (by omega) rfl rfl (fun h9 => by exfalso; omega) (fun h507 => ?_)
        refine ok_iloadn (pc' := 6) i164_5 rfl rfl <| ok_iloadn (pc' := 7) i164_6 rfl rfl <| ?_
        refine ok_cgt (pc1 := 14) (pc2 := 10) i164_7 (by omega) rfl rfl (fun h9 => by exfalso; omega) (fun h508 => ?_)
        refine ok_iconst (pc' := 11) i164_10 rfl <| ok_goto (pc' := 15) i164_11 rfl <| ok_iretz i164_15 rt164 (by decide) <| kt_v (pc' := 19) rfl <| ok_kz1 (pc1 := 26) (pc2 := 22) i194_19 (by decide) rfl rfl <| ok_iconst (pc' := 27) i194_26 rfl <| ok_iconst (pc' := 28) i194_27 rfl <| ok_cc i194_28 rfl (cl_v o194 m9_70 na165 rfl rfl (bt rfl) (bt rfl) rfl (by rw [ShModel_k0 hS448, o165])) ln165 (pd165 (aR 448) (aI 0) (aI 2)) <| ?_
        refine ok_aloadn (pc' := 1) i165_0 rfl rfl <| ok_getfi (v := 0) (pc' := 4) i165_1 o165 gi9_63 (ShModel_k0 hS448) rd_eq rfl <| ok_kz0 (pc1 := 16) (pc2 := 7) i165_4 (by decide) rfl rfl <| ok_iloadn (pc' := 8) i165_7 rfl rfl <| ok_kz1 (pc1 := 16) (pc2 := 11) i165_8 (by decide) rfl rfl <| ok_aloadn (pc' := 17) i165_16 rfl rfl <| ok_getfi (v := 0) (pc' := 20) i165_17 o165 gi9_63 (ShModel_k0 hS448) rd_eq rfl <| ok_kz1 (pc1 := 27) (pc2 := 23) i165_20 (by decide) rfl rfl <| ?_
        refine ok_iconst (pc' := 28) i165_27 rfl <| ok_iretz i165_28 rt165 (by decide) <| kt_v (pc' := 31) rfl <| ok_kz1 (pc1 := 38) (pc2 := 34) i194_31 (by decide) rfl rfl <| ok_iconst (pc' := 39) i194_38 rfl <| ok_iretz i194_39 rt194 (by decide) <| kt_v (pc' := 5) rfl <| ok_kz1 (pc1 := 12) (pc2 := 8) i193_5 (by decide) rfl rfl <| ?_
        refine ok_iloadn (pc' := 13) i193_12 rfl rfl <| ok_kz1 (pc1 := 25) (pc2 := 16) i193_13 (by decide) rfl rfl <| ok_aloadn (pc' := 26) i193_25 rfl rfl <| ok_getfr (r := (448 + 1)) (pc' := 29) i193_26 o193 gr9_7 (ShModel_k0 hS448) (ShModel_r4 hS448) rfl <| ok_iloadn (pc' := 30) i193_29 rfl rfl <| ok_iaload (v := (q (2 + v1))) (pc' := 31) i193_30 (ShModel_k1 hS448) (by decide) (ShModel_l1 hS448) (by omega) (rd_na (by omega) (rd_na (by omega) (RepO_1 hO (by omega) (by omega)))) rfl <| ok_ireti i193_31 rt193 <| kt_v (pc' := 576) rfl <| ?_
        refine ok_istore (pc' := 578) (ls' := [aR 1, aR 100, aR 448, aR 464, aR 465, aI i, aI 0, aI (q (2 + v1)), w8]) i0_576 (bt rfl) rfl rfl <| ok_aloadn (pc' := 579) i0_578 rfl rfl <| ok_cc i0_579 rfl (cl_v o0 m13_188 na157 rfl rfl (bt rfl) (bt rfl) rfl (by rw [ShModel_k0 hS448, o157])) ln157 (pd157 (aR 448)) <| ok_aloadn (pc' := 1) i157_0 rfl rfl <| ok_getfi (v := 0) (pc' := 4) i157_1 o157 gi9_63 (ShModel_k0 hS448) rd_eq rfl <| ok_ireti i157_4 rt157 <| kt_v (pc' := 582) rfl <| ok_iload (pc' := 584) i0_582 rfl rfl <| ?_
        refine ok_kc1 (pc1 := 589) (pc2 := 587) i0_584 (by decide) rfl rfl <| ok_iload (pc' := 591) i0_589 rfl rfl <| ok_kz0 (pc1 := 606) (pc2 := 594) i0_591 (by decide) rfl rfl <| ok_aloadn (pc' := 595) i0_594 rfl rfl <| ok_iconst (pc' := 596) i0_595 rfl <| ok_laload (v := (wr (q (2 + v1)))) (pc' := 597) i0_596 (ShOut_k0 hS464) (ShOut_l0 hS464) (by decide) (rd_na (by omega) rd_eq) rfl <| ok_iload (pc' := 599) i0_597 rfl rfl <| ok_i2l (v := (wr (q (2 + v1)))) (pc' := 600) i0_599 rfl rfl <| ?_
        refine ok_lcmp0 (pc' := 601) i0_600 rfl <| ok_kz1 (pc1 := 606) (pc2 := 604) i0_601 (by decide) rfl rfl <| ok_goto (pc' := 3329) i0_606 rfl <| ?_
        exact K _ _ _ _ _ _ hD (by omega) (Inv_mono (Inv_same hI (Same.thr (Same.out Same.rfl))) (by omega))
      · refine ok_throw th101_15 (bt rfl) <| kt_x hh100 <| kt_h hn281 hf281_5_10 hr281_17 <| kt_v (pc' := 550) rfl <| ?_
        refine ok_al hD (fun g hD => ?_)
        have hS448 := HD_o hD
        have hS1 := HD_s hD
        have hS464 := HD_u hD
        have hS465 := HD_ud hD
        refine ok_istore (pc' := 552) (ls' := [aR 1, aR 100, aR 448, aR 464, aR 465, aI i, aI 2, w7, w8]) i0_550 (bt rfl) rfl rfl <| ok_aloadn (pc' := 553) i0_552 rfl rfl <| ok_aloadn (pc' := 554) i0_553 rfl rfl <| ok_iload (pc' := 556) i0_554 rfl rfl <| ok_iconst (pc' := 557) i0_556 rfl <| ok_iadd (v := (i + 1)) (pc' := 558) i0_557 rfl rfl <| ok_iaload (v := v1) (pc' := 559) i0_558 (ShScr_k0 hS1) (by decide) (ShScr_l0 hS1) (by omega) hv1 rfl <| ok_aloadn (pc' := 560) i0_559 rfl rfl <| ?_
        refine ok_iload (pc' := 562) i0_560 rfl rfl <| ok_iconst (pc' := 563) i0_562 rfl <| ok_iadd (v := (i + 2)) (pc' := 564) i0_563 rfl rfl <| ok_iaload (v := v2) (pc' := 565) i0_564 (ShScr_k0 hS1) (by decide) (ShScr_l0 hS1) (by omega) hv2 rfl <| ?_
        refine ok_zeq (pc1 := 572) (pc2 := 568) i0_565 (by omega) rfl rfl (fun h509 => ?_) (fun h9 => by exfalso; omega)
        refine ok_iconst (pc' := 573) i0_572 rfl <| ok_cc i0_573 rfl (cl_v o0 m13_213 na193 rfl rfl (bt rfl) (bt rfl) rfl (by rw [ShModel_k0 hS448, o193])) ln193 (pd193 (aR 448) (aI v1) (aI 0)) <| ok_aloadn (pc' := 1) i193_0 rfl rfl <| ok_iloadn (pc' := 2) i193_1 rfl rfl <| ok_cc i193_2 rfl (cl_v o193 m9_238 na194 rfl rfl (bt rfl) (bt rfl) rfl (by rw [ShModel_k0 hS448, o194])) ln194 (pd194 (aR 448) (aI v1)) <| ok_aloadn (pc' := 1) i194_0 rfl rfl <| ok_cc i194_1 rfl (cl_v o194 m9_216 na188 rfl rfl (bt rfl) (bt rfl) rfl (by rw [ShModel_k0 hS448, o188])) ln188 (pd188 (aR 448)) <| ok_aloadn (pc' := 1) i188_0 rfl rfl <| ?_
        refine ok_iconst (pc' := 2) i188_1 rfl <| ok_putfj (kk := 0) (pc' := 5) i188_2 o188 pi188_63 (ShModel_k0 hS448) rfl rfl <| ok_aloadn (pc' := 6) i188_5 rfl rfl <| ok_aloadn (pc' := 7) i188_6 rfl rfl <| ok_getfi (v := 1) (pc' := 10) i188_7 o188 gi9_66 (ShModel_k0 hS448) (rd_ni (by decide) (hld.trans hl)) rfl <| ok_kz1 (pc1 := 17) (pc2 := 13) i188_10 (by decide) rfl rfl <| ok_iconst (pc' := 18) i188_17 rfl <| ok_iconst (pc' := 19) i188_18 rfl <| ?_
        refine ok_cc i188_19 rfl (cl_v o188 m9_70 na165 rfl rfl (bt rfl) (bt rfl) rfl (by rw [ShModel_k0 hS448, o165])) ln165 (pd165 (aR 448) (aI 0) (aI 1)) <| ok_aloadn (pc' := 1) i165_0 rfl rfl <| ok_getfi (v := 0) (pc' := 4) i165_1 o165 gi9_63 (ShModel_k0 hS448) rd_eq rfl <| ok_kz0 (pc1 := 16) (pc2 := 7) i165_4 (by decide) rfl rfl <| ok_iloadn (pc' := 8) i165_7 rfl rfl <| ok_kz1 (pc1 := 16) (pc2 := 11) i165_8 (by decide) rfl rfl <| ok_aloadn (pc' := 17) i165_16 rfl rfl <| ok_getfi (v := 0) (pc' := 20) i165_17 o165 gi9_63 (ShModel_k0 hS448) rd_eq rfl <| ?_
        refine ok_kz1 (pc1 := 27) (pc2 := 23) i165_20 (by decide) rfl rfl <| ok_iconst (pc' := 28) i165_27 rfl <| ok_iretz i165_28 rt165 (by decide) <| kt_v (pc' := 22) rfl <| ok_iretz i188_22 rt188 (by decide) <| kt_v (pc' := 4) rfl <| ok_kz0 (pc1 := 34) (pc2 := 7) i194_4 (by decide) rfl rfl <| ok_aloadn (pc' := 8) i194_7 rfl rfl <| ?_
        refine ok_iloadn (pc' := 9) i194_8 rfl rfl <| ok_iconst (pc' := 10) i194_9 rfl <| ok_aloadn (pc' := 11) i194_10 rfl rfl <| ok_getfi (v := (q 0)) (pc' := 14) i194_11 o194 gi9_203 (ShModel_k0 hS448) (rd_ni (by decide) (RepO_f2 hO)) rfl <| ok_iconst (pc' := 15) i194_14 rfl <| ok_isub (v := ((q 0) - 1)) (pc' := 16) i194_15 rfl rfl <| ok_cc i194_16 rfl (cl_s o194 m9_140 na164 rfl rfl (bt rfl) (bt rfl) rfl) ln164 (pd164 (aI v1) (aI 0) (aI ((q 0) - 1))) <| ok_iloadn (pc' := 1) i164_0 rfl rfl <| ?_
        refine ok_iloadn (pc' := 2) i164_1 rfl rfl <| ?_
        refine ok_clt (pc1 := 14) (pc2 := 5) i164_2 (by omega) rfl rfl (fun h9 => by exfalso; omega) (fun h510 => ?_)
        refine ok_iloadn (pc' := 6) i164_5 rfl rfl <| ok_iloadn (pc' := 7) i164_6 rfl rfl <| ?_
        refine ok_cgt (pc1 := 14) (pc2 := 10) i164_7 (by omega) rfl rfl (fun h511 => ?_) (fun h9 => by exfalso; omega)
        refine ok_iconst (pc' := 15) i164_14 rfl <| ok_iretz i164_15 rt164 (by decide) <| kt_v (pc' := 19) rfl <| ok_kz0 (pc1 := 26) (pc2 := 22) i194_19 (by decide) rfl rfl <| ok_iconst (pc' := 23) i194_22 rfl <| ok_goto (pc' := 27) i194_23 rfl <| ok_iconst (pc' := 28) i194_27 rfl <| ok_cc i194_28 rfl (cl_v o194 m9_70 na165 rfl rfl (bt rfl) (bt rfl) rfl (by rw [ShModel_k0 hS448, o165])) ln165 (pd165 (aR 448) (aI 1) (aI 2)) <| ?_
        refine ok_aloadn (pc' := 1) i165_0 rfl rfl <| ok_getfi (v := 0) (pc' := 4) i165_1 o165 gi9_63 (ShModel_k0 hS448) rd_eq rfl <| ok_kz0 (pc1 := 16) (pc2 := 7) i165_4 (by decide) rfl rfl <| ok_iloadn (pc' := 8) i165_7 rfl rfl <| ok_kz0 (pc1 := 16) (pc2 := 11) i165_8 (by decide) rfl rfl <| ok_aloadn (pc' := 12) i165_11 rfl rfl <| ok_iloadn (pc' := 13) i165_12 rfl rfl <| ok_putfj (kk := 0) (pc' := 16) i165_13 o165 pi165_63 (ShModel_k0 hS448) rfl rfl <| ?_
        refine ok_aloadn (pc' := 17) i165_16 rfl rfl <| ok_getfi (v := 2) (pc' := 20) i165_17 o165 gi9_63 (ShModel_k0 hS448) rd_eq rfl <| ok_kz0 (pc1 := 27) (pc2 := 23) i165_20 (by decide) rfl rfl <| ok_iconst (pc' := 24) i165_23 rfl <| ok_goto (pc' := 28) i165_24 rfl <| ok_iretz i165_28 rt165 (by decide) <| kt_v (pc' := 31) rfl <| ok_kz0 (pc1 := 38) (pc2 := 34) i194_31 (by decide) rfl rfl <| ?_
        refine ok_iconst (pc' := 35) i194_34 rfl <| ok_goto (pc' := 39) i194_35 rfl <| ok_iretz i194_39 rt194 (by decide) <| kt_v (pc' := 5) rfl <| ok_kz0 (pc1 := 12) (pc2 := 8) i193_5 (by decide) rfl rfl <| ok_iconst (pc' := 9) i193_8 rfl <| ok_goto (pc' := 31) i193_9 rfl <| ok_ireti i193_31 rt193 <| ?_
        refine kt_v (pc' := 576) rfl <| ok_istore (pc' := 578) (ls' := [aR 1, aR 100, aR 448, aR 464, aR 465, aI i, aI 2, aI 0, w8]) i0_576 (bt rfl) rfl rfl <| ok_aloadn (pc' := 579) i0_578 rfl rfl <| ok_cc i0_579 rfl (cl_v o0 m13_188 na157 rfl rfl (bt rfl) (bt rfl) rfl (by rw [ShModel_k0 hS448, o157])) ln157 (pd157 (aR 448)) <| ok_aloadn (pc' := 1) i157_0 rfl rfl <| ok_getfi (v := 2) (pc' := 4) i157_1 o157 gi9_63 (ShModel_k0 hS448) rd_eq rfl <| ok_ireti i157_4 rt157 <| kt_v (pc' := 582) rfl <| ?_
        refine ok_iload (pc' := 584) i0_582 rfl rfl <| ok_kc1 (pc1 := 589) (pc2 := 587) i0_584 (by decide) rfl rfl <| ok_iload (pc' := 591) i0_589 rfl rfl <| ok_kz1 (pc1 := 606) (pc2 := 594) i0_591 (by decide) rfl rfl <| ok_goto (pc' := 3329) i0_606 rfl <| ?_
        exact K _ _ _ _ _ _ hD (by omega) (Inv_mono (Inv_same hI (Same.thr (Same.thr Same.rfl))) (by omega))
  · refine ok_iconst (pc' := 542) i0_541 rfl <| ok_goto (pc' := 546) i0_542 rfl <| ok_aloadn (pc' := 547) i0_546 rfl rfl <| ok_cc i0_547 rfl (cl_s o0 m13_210 na281 rfl rfl (bt rfl) (bt rfl) rfl) ln281 (pd281 (aR 100) (aI v1) (aI 1) (aR 464)) <| ok_aloadn (pc' := 1) i281_0 rfl rfl <| ok_iconst (pc' := 2) i281_1 rfl <| ok_aloadn (pc' := 3) i281_2 rfl rfl <| ok_iloadn (pc' := 4) i281_3 rfl rfl <| ?_
    refine ok_iloadn (pc' := 5) i281_4 rfl rfl <| ok_cc i281_5 rfl (cl_v o281 m13_22 na100 rfl rfl (bt rfl) (bt rfl) rfl (by rw [ShYard_k0 hS100, o100])) ln100 (pd100 (aR 100) (aI v1) (aI 1)) <| ok_aloadn (pc' := 1) i100_0 rfl rfl <| ok_cc i100_1 rfl (cl_v o100 m0_132 na99 rfl rfl (bt rfl) (bt rfl) rfl (by rw [ShYard_k0 hS100, o99])) ln99 (pd99 (aR 100)) <| ok_aloadn (pc' := 1) i99_0 rfl rfl <| ok_getfi (v := 1) (pc' := 4) i99_1 o99 gi0_268 (ShYard_k0 hS100) hl rfl <| ok_kz1 (pc1 := 18) (pc2 := 7) i99_4 (by decide) rfl rfl <| ok_vret i99_18 rt99 <| ?_
    refine kt_0 (pc' := 4) rfl <| ok_aloadn (pc' := 5) i100_4 rfl rfl <| ok_iloadn (pc' := 6) i100_5 rfl rfl <| ok_cc i100_6 rfl (cl_v o100 m0_158 na101 rfl rfl (bt rfl) (bt rfl) rfl (by rw [ShYard_k0 hS100, o101])) ln101 (pd101 (aR 100) (aI v1)) <| ok_iloadn (pc' := 1) i101_0 rfl rfl <| ?_
    refine ok_zlt (pc1 := 15) (pc2 := 4) i101_1 (by omega) rfl rfl (fun h512 => ?_) (fun h512 => ?_)
    · refine ok_throw th101_15 (bt rfl) <| kt_x hh100 <| kt_h hn281 hf281_5_10 hr281_17 <| kt_v (pc' := 550) rfl <| ?_
      refine ok_al hD (fun g hD => ?_)
      have hS448 := HD_o hD
      have hS1 := HD_s hD
      have hS464 := HD_u hD
      have hS465 := HD_ud hD
      refine ok_istore (pc' := 552) (ls' := [aR 1, aR 100, aR 448, aR 464, aR 465, aI i, aI 2, w7, w8]) i0_550 (bt rfl) rfl rfl <| ok_aloadn (pc' := 553) i0_552 rfl rfl <| ok_aloadn (pc' := 554) i0_553 rfl rfl <| ok_iload (pc' := 556) i0_554 rfl rfl <| ok_iconst (pc' := 557) i0_556 rfl <| ok_iadd (v := (i + 1)) (pc' := 558) i0_557 rfl rfl <| ok_iaload (v := v1) (pc' := 559) i0_558 (ShScr_k0 hS1) (by decide) (ShScr_l0 hS1) (by omega) hv1 rfl <| ok_aloadn (pc' := 560) i0_559 rfl rfl <| ?_
      refine ok_iload (pc' := 562) i0_560 rfl rfl <| ok_iconst (pc' := 563) i0_562 rfl <| ok_iadd (v := (i + 2)) (pc' := 564) i0_563 rfl rfl <| ok_iaload (v := v2) (pc' := 565) i0_564 (ShScr_k0 hS1) (by decide) (ShScr_l0 hS1) (by omega) hv2 rfl <| ?_
      refine ok_zeq (pc1 := 572) (pc2 := 568) i0_565 (by omega) rfl rfl (fun h9 => by exfalso; omega) (fun h513 => ?_)
      refine ok_iconst (pc' := 569) i0_568 rfl <| ok_goto (pc' := 573) i0_569 rfl <| ok_cc i0_573 rfl (cl_v o0 m13_213 na193 rfl rfl (bt rfl) (bt rfl) rfl (by rw [ShModel_k0 hS448, o193])) ln193 (pd193 (aR 448) (aI v1) (aI 1)) <| ok_aloadn (pc' := 1) i193_0 rfl rfl <| ok_iloadn (pc' := 2) i193_1 rfl rfl <| ok_cc i193_2 rfl (cl_v o193 m9_238 na194 rfl rfl (bt rfl) (bt rfl) rfl (by rw [ShModel_k0 hS448, o194])) ln194 (pd194 (aR 448) (aI v1)) <| ok_aloadn (pc' := 1) i194_0 rfl rfl <| ok_cc i194_1 rfl (cl_v o194 m9_216 na188 rfl rfl (bt rfl) (bt rfl) rfl (by rw [ShModel_k0 hS448, o188])) ln188 (pd188 (aR 448)) <| ?_
      refine ok_aloadn (pc' := 1) i188_0 rfl rfl <| ok_iconst (pc' := 2) i188_1 rfl <| ok_putfj (kk := 0) (pc' := 5) i188_2 o188 pi188_63 (ShModel_k0 hS448) rfl rfl <| ok_aloadn (pc' := 6) i188_5 rfl rfl <| ok_aloadn (pc' := 7) i188_6 rfl rfl <| ok_getfi (v := 1) (pc' := 10) i188_7 o188 gi9_66 (ShModel_k0 hS448) (rd_ni (by decide) (hld.trans hl)) rfl <| ok_kz1 (pc1 := 17) (pc2 := 13) i188_10 (by decide) rfl rfl <| ok_iconst (pc' := 18) i188_17 rfl <| ?_
      refine ok_iconst (pc' := 19) i188_18 rfl <| ok_cc i188_19 rfl (cl_v o188 m9_70 na165 rfl rfl (bt rfl) (bt rfl) rfl (by rw [ShModel_k0 hS448, o165])) ln165 (pd165 (aR 448) (aI 0) (aI 1)) <| ok_aloadn (pc' := 1) i165_0 rfl rfl <| ok_getfi (v := 0) (pc' := 4) i165_1 o165 gi9_63 (ShModel_k0 hS448) rd_eq rfl <| ok_kz0 (pc1 := 16) (pc2 := 7) i165_4 (by decide) rfl rfl <| ok_iloadn (pc' := 8) i165_7 rfl rfl <| ok_kz1 (pc1 := 16) (pc2 := 11) i165_8 (by decide) rfl rfl <| ok_aloadn (pc' := 17) i165_16 rfl rfl <| ?_
      refine ok_getfi (v := 0) (pc' := 20) i165_17 o165 gi9_63 (ShModel_k0 hS448) rd_eq rfl <| ok_kz1 (pc1 := 27) (pc2 := 23) i165_20 (by decide) rfl rfl <| ok_iconst (pc' := 28) i165_27 rfl <| ok_iretz i165_28 rt165 (by decide) <| kt_v (pc' := 22) rfl <| ok_iretz i188_22 rt188 (by decide) <| kt_v (pc' := 4) rfl <| ok_kz0 (pc1 := 34) (pc2 := 7) i194_4 (by decide) rfl rfl <| ?_
      refine ok_aloadn (pc' := 8) i194_7 rfl rfl <| ok_iloadn (pc' := 9) i194_8 rfl rfl <| ok_iconst (pc' := 10) i194_9 rfl <| ok_aloadn (pc' := 11) i194_10 rfl rfl <| ok_getfi (v := (q 0)) (pc' := 14) i194_11 o194 gi9_203 (ShModel_k0 hS448) (rd_ni (by decide) (RepO_f2 hO)) rfl <| ok_iconst (pc' := 15) i194_14 rfl <| ok_isub (v := ((q 0) - 1)) (pc' := 16) i194_15 rfl rfl <| ok_cc i194_16 rfl (cl_s o194 m9_140 na164 rfl rfl (bt rfl) (bt rfl) rfl) ln164 (pd164 (aI v1) (aI 0) (aI ((q 0) - 1))) <| ?_
      refine ok_iloadn (pc' := 1) i164_0 rfl rfl <| ok_iloadn (pc' := 2) i164_1 rfl rfl <| ?_
      refine ok_clt (pc1 := 14) (pc2 := 5) i164_2 (by omega) rfl rfl (fun h514 => ?_) (fun h9 => by exfalso; omega)
      refine ok_iconst (pc' := 15) i164_14 rfl <| ok_iretz i164_15 rt164 (by decide) <| kt_v (pc' := 19) rfl <| ok_kz0 (pc1 := 26) (pc2 := 22) i194_19 (by decide) rfl rfl <| ok_iconst (pc' := 23) i194_22 rfl <| ok_goto (pc' := 27) i194_23 rfl <| ok_iconst (pc' := 28) i194_27 rfl <| ok_cc i194_28 rfl (cl_v o194 m9_70 na165 rfl rfl (bt rfl) (bt rfl) rfl (by rw [ShModel_k0 hS448, o165])) ln165 (pd165 (aR 448) (aI 1) (aI 2)) <| ?_
      refine ok_aloadn (pc' := 1) i165_0 rfl rfl <| ok_getfi (v := 0) (pc' := 4) i165_1 o165 gi9_63 (ShModel_k0 hS448) rd_eq rfl <| ok_kz0 (pc1 := 16) (pc2 := 7) i165_4 (by decide) rfl rfl <| ok_iloadn (pc' := 8) i165_7 rfl rfl <| ok_kz0 (pc1 := 16) (pc2 := 11) i165_8 (by decide) rfl rfl <| ok_aloadn (pc' := 12) i165_11 rfl rfl <| ok_iloadn (pc' := 13) i165_12 rfl rfl <| ok_putfj (kk := 0) (pc' := 16) i165_13 o165 pi165_63 (ShModel_k0 hS448) rfl rfl <| ?_
      refine ok_aloadn (pc' := 17) i165_16 rfl rfl <| ok_getfi (v := 2) (pc' := 20) i165_17 o165 gi9_63 (ShModel_k0 hS448) rd_eq rfl <| ok_kz0 (pc1 := 27) (pc2 := 23) i165_20 (by decide) rfl rfl <| ok_iconst (pc' := 24) i165_23 rfl <| ok_goto (pc' := 28) i165_24 rfl <| ok_iretz i165_28 rt165 (by decide) <| kt_v (pc' := 31) rfl <| ok_kz0 (pc1 := 38) (pc2 := 34) i194_31 (by decide) rfl rfl <| ?_
      refine ok_iconst (pc' := 35) i194_34 rfl <| ok_goto (pc' := 39) i194_35 rfl <| ok_iretz i194_39 rt194 (by decide) <| kt_v (pc' := 5) rfl <| ok_kz0 (pc1 := 12) (pc2 := 8) i193_5 (by decide) rfl rfl <| ok_iconst (pc' := 9) i193_8 rfl <| ok_goto (pc' := 31) i193_9 rfl <| ok_ireti i193_31 rt193 <| ?_
      refine kt_v (pc' := 576) rfl <| ok_istore (pc' := 578) (ls' := [aR 1, aR 100, aR 448, aR 464, aR 465, aI i, aI 2, aI 0, w8]) i0_576 (bt rfl) rfl rfl <| ok_aloadn (pc' := 579) i0_578 rfl rfl <| ok_cc i0_579 rfl (cl_v o0 m13_188 na157 rfl rfl (bt rfl) (bt rfl) rfl (by rw [ShModel_k0 hS448, o157])) ln157 (pd157 (aR 448)) <| ok_aloadn (pc' := 1) i157_0 rfl rfl <| ok_getfi (v := 2) (pc' := 4) i157_1 o157 gi9_63 (ShModel_k0 hS448) rd_eq rfl <| ok_ireti i157_4 rt157 <| kt_v (pc' := 582) rfl <| ?_
      refine ok_iload (pc' := 584) i0_582 rfl rfl <| ok_kc1 (pc1 := 589) (pc2 := 587) i0_584 (by decide) rfl rfl <| ok_iload (pc' := 591) i0_589 rfl rfl <| ok_kz1 (pc1 := 606) (pc2 := 594) i0_591 (by decide) rfl rfl <| ok_goto (pc' := 3329) i0_606 rfl <| ?_
      exact K _ _ _ _ _ _ hD (by omega) (Inv_mono (Inv_same hI (Same.thr (Same.thr Same.rfl))) (by omega))
    · refine ok_iloadn (pc' := 5) i101_4 rfl rfl <| ok_aloadn (pc' := 6) i101_5 rfl rfl <| ok_getfr (r := 138) (pc' := 9) i101_6 o101 gr0_32 (ShYard_k0 hS100) (ShYard_r7 hS100) rfl <| ok_getfi (v := (q 0)) (pc' := 12) i101_9 o101 gi0_135 (ShPlan_k0 hS138) (RepP_f0 hP) rfl <| ?_
      refine ok_clt (pc1 := 26) (pc2 := 15) i101_12 (by omega) rfl rfl (fun h515 => ?_) (fun h515 => ?_)
      · refine ok_vret i101_26 rt101 <| kt_0 (pc' := 9) rfl <| ok_iloadn (pc' := 10) i100_9 rfl rfl <| ok_kz0 (pc1 := 25) (pc2 := 13) i100_10 (by decide) rfl rfl <| ok_aloadn (pc' := 14) i100_13 rfl rfl <| ok_getfr (r := 138) (pc' := 17) i100_14 o100 gr0_32 (ShYard_k0 hS100) (ShYard_r7 hS100) rfl <| ok_getfr (r := (138 + 2)) (pc' := 20) i100_17 o100 gr0_162 (ShPlan_k0 hS138) (ShPlan_r2 hS138) rfl <| ok_iloadn (pc' := 21) i100_20 rfl rfl <| ?_
        have z302 : 1 ≤ q (6 + v1) ∧ q (6 + v1) ≤ 99 := Q_6 hQ (i := v1) (by omega) (by omega)
        refine ok_iaload (v := (q (6 + v1))) (pc' := 22) i100_21 (ShPlan_k2 hS138) (by decide) (ShPlan_l2 hS138) (by omega) (RepP_2 hP (by omega) (by omega)) rfl <| ok_goto (pc' := 34) i100_22 rfl <| ok_ireti i100_34 rt100 <| kt_v (pc' := 8) rfl <| ok_i2l (v := (wr (q (6 + v1)))) (pc' := 9) i281_8 rfl rfl <| ok_lastore (pc' := 10) i281_9 (ShOut_k0 hS464) (ShOut_l0 hS464) (by decide) rfl <| ok_goto (pc' := 21) i281_10 rfl <| ok_iconst (pc' := 22) i281_21 rfl <| ?_
        refine ok_ireti i281_22 rt281 <| kt_v (pc' := 550) rfl <| ok_istore (pc' := 552) (ls' := [aR 1, aR 100, aR 448, aR 464, aR 465, aI i, aI 0, w7, w8]) i0_550 (bt rfl) rfl rfl <| ok_aloadn (pc' := 553) i0_552 rfl rfl <| ok_aloadn (pc' := 554) i0_553 rfl rfl <| ok_iload (pc' := 556) i0_554 rfl rfl <| ok_iconst (pc' := 557) i0_556 rfl <| ok_iadd (v := (i + 1)) (pc' := 558) i0_557 rfl rfl <| ?_
        refine ok_iaload (v := v1) (pc' := 559) i0_558 (ShScr_k0 hS1) (by decide) (ShScr_l0 hS1) (by omega) (rd_na (by omega) hv1) rfl <| ok_aloadn (pc' := 560) i0_559 rfl rfl <| ok_iload (pc' := 562) i0_560 rfl rfl <| ok_iconst (pc' := 563) i0_562 rfl <| ok_iadd (v := (i + 2)) (pc' := 564) i0_563 rfl rfl <| ok_iaload (v := v2) (pc' := 565) i0_564 (ShScr_k0 hS1) (by decide) (ShScr_l0 hS1) (by omega) (rd_na (by omega) hv2) rfl <| ?_
        refine ok_zeq (pc1 := 572) (pc2 := 568) i0_565 (by omega) rfl rfl (fun h9 => by exfalso; omega) (fun h516 => ?_)
        refine ok_iconst (pc' := 569) i0_568 rfl <| ok_goto (pc' := 573) i0_569 rfl <| ok_cc i0_573 rfl (cl_v o0 m13_213 na193 rfl rfl (bt rfl) (bt rfl) rfl (by rw [ShModel_k0 hS448, o193])) ln193 (pd193 (aR 448) (aI v1) (aI 1)) <| ok_aloadn (pc' := 1) i193_0 rfl rfl <| ok_iloadn (pc' := 2) i193_1 rfl rfl <| ok_cc i193_2 rfl (cl_v o193 m9_238 na194 rfl rfl (bt rfl) (bt rfl) rfl (by rw [ShModel_k0 hS448, o194])) ln194 (pd194 (aR 448) (aI v1)) <| ok_aloadn (pc' := 1) i194_0 rfl rfl <| ok_cc i194_1 rfl (cl_v o194 m9_216 na188 rfl rfl (bt rfl) (bt rfl) rfl (by rw [ShModel_k0 hS448, o188])) ln188 (pd188 (aR 448)) <| ?_
        refine ok_aloadn (pc' := 1) i188_0 rfl rfl <| ok_iconst (pc' := 2) i188_1 rfl <| ok_putfj (kk := 0) (pc' := 5) i188_2 o188 pi188_63 (ShModel_k0 hS448) rfl rfl <| ok_aloadn (pc' := 6) i188_5 rfl rfl <| ok_aloadn (pc' := 7) i188_6 rfl rfl <| ok_getfi (v := 1) (pc' := 10) i188_7 o188 gi9_66 (ShModel_k0 hS448) (rd_ni (by decide) (rd_na (by omega) (hld.trans hl))) rfl <| ok_kz1 (pc1 := 17) (pc2 := 13) i188_10 (by decide) rfl rfl <| ok_iconst (pc' := 18) i188_17 rfl <| ?_
        refine ok_iconst (pc' := 19) i188_18 rfl <| ok_cc i188_19 rfl (cl_v o188 m9_70 na165 rfl rfl (bt rfl) (bt rfl) rfl (by rw [ShModel_k0 hS448, o165])) ln165 (pd165 (aR 448) (aI 0) (aI 1)) <| ok_aloadn (pc' := 1) i165_0 rfl rfl <| ok_getfi (v := 0) (pc' := 4) i165_1 o165 gi9_63 (ShModel_k0 hS448) rd_eq rfl <| ok_kz0 (pc1 := 16) (pc2 := 7) i165_4 (by decide) rfl rfl <| ok_iloadn (pc' := 8) i165_7 rfl rfl <| ok_kz1 (pc1 := 16) (pc2 := 11) i165_8 (by decide) rfl rfl <| ok_aloadn (pc' := 17) i165_16 rfl rfl <| ?_
        refine ok_getfi (v := 0) (pc' := 20) i165_17 o165 gi9_63 (ShModel_k0 hS448) rd_eq rfl <| ok_kz1 (pc1 := 27) (pc2 := 23) i165_20 (by decide) rfl rfl <| ok_iconst (pc' := 28) i165_27 rfl <| ok_iretz i165_28 rt165 (by decide) <| kt_v (pc' := 22) rfl <| ok_iretz i188_22 rt188 (by decide) <| kt_v (pc' := 4) rfl <| ok_kz0 (pc1 := 34) (pc2 := 7) i194_4 (by decide) rfl rfl <| ?_
        refine ok_aloadn (pc' := 8) i194_7 rfl rfl <| ok_iloadn (pc' := 9) i194_8 rfl rfl <| ok_iconst (pc' := 10) i194_9 rfl <| ok_aloadn (pc' := 11) i194_10 rfl rfl <| ok_getfi (v := (q 0)) (pc' := 14) i194_11 o194 gi9_203 (ShModel_k0 hS448) (rd_ni (by decide) (rd_na (by omega) (RepO_f2 hO))) rfl <| ok_iconst (pc' := 15) i194_14 rfl <| ok_isub (v := ((q 0) - 1)) (pc' := 16) i194_15 rfl rfl <| ok_cc i194_16 rfl (cl_s o194 m9_140 na164 rfl rfl (bt rfl) (bt rfl) rfl) ln164 (pd164 (aI v1) (aI 0) (aI ((q 0) - 1))) <| ?_
        refine ok_iloadn (pc' := 1) i164_0 rfl rfl <| ok_iloadn (pc' := 2) i164_1 rfl rfl <| ?_
        refine ok_clt (pc1 := 14) (pc2 := 5) i164_2 (by omega) rfl rfl (fun h9 => by exfalso; omega) (fun h517 => ?_)
        refine ok_iloadn (pc' := 6) i164_5 rfl rfl <| ok_iloadn (pc' := 7) i164_6 rfl rfl <| ?_
        refine ok_cgt (pc1 := 14) (pc2 := 10) i164_7 (by omega) rfl rfl (fun h9 => by exfalso; omega) (fun h518 => ?_)
        refine ok_iconst (pc' := 11) i164_10 rfl <| ok_goto (pc' := 15) i164_11 rfl <| ok_iretz i164_15 rt164 (by decide) <| kt_v (pc' := 19) rfl <| ok_kz1 (pc1 := 26) (pc2 := 22) i194_19 (by decide) rfl rfl <| ok_iconst (pc' := 27) i194_26 rfl <| ok_iconst (pc' := 28) i194_27 rfl <| ok_cc i194_28 rfl (cl_v o194 m9_70 na165 rfl rfl (bt rfl) (bt rfl) rfl (by rw [ShModel_k0 hS448, o165])) ln165 (pd165 (aR 448) (aI 0) (aI 2)) <| ?_
        refine ok_aloadn (pc' := 1) i165_0 rfl rfl <| ok_getfi (v := 0) (pc' := 4) i165_1 o165 gi9_63 (ShModel_k0 hS448) rd_eq rfl <| ok_kz0 (pc1 := 16) (pc2 := 7) i165_4 (by decide) rfl rfl <| ok_iloadn (pc' := 8) i165_7 rfl rfl <| ok_kz1 (pc1 := 16) (pc2 := 11) i165_8 (by decide) rfl rfl <| ok_aloadn (pc' := 17) i165_16 rfl rfl <| ok_getfi (v := 0) (pc' := 20) i165_17 o165 gi9_63 (ShModel_k0 hS448) rd_eq rfl <| ok_kz1 (pc1 := 27) (pc2 := 23) i165_20 (by decide) rfl rfl <| ?_
        refine ok_iconst (pc' := 28) i165_27 rfl <| ok_iretz i165_28 rt165 (by decide) <| kt_v (pc' := 31) rfl <| ok_kz1 (pc1 := 38) (pc2 := 34) i194_31 (by decide) rfl rfl <| ok_iconst (pc' := 39) i194_38 rfl <| ok_iretz i194_39 rt194 (by decide) <| kt_v (pc' := 5) rfl <| ok_kz1 (pc1 := 12) (pc2 := 8) i193_5 (by decide) rfl rfl <| ?_
        refine ok_iloadn (pc' := 13) i193_12 rfl rfl <| ok_kz0 (pc1 := 25) (pc2 := 16) i193_13 (by decide) rfl rfl <| ok_aloadn (pc' := 17) i193_16 rfl rfl <| ok_getfr (r := (448 + 2)) (pc' := 20) i193_17 o193 gr9_13 (ShModel_k0 hS448) (ShModel_r5 hS448) rfl <| ok_iloadn (pc' := 21) i193_20 rfl rfl <| ok_iaload (v := (q (6 + v1))) (pc' := 22) i193_21 (ShModel_k2 hS448) (by decide) (ShModel_l2 hS448) (by omega) (rd_na (by omega) (rd_na (by omega) (RepO_2 hO (by omega) (by omega)))) rfl <| ok_goto (pc' := 31) i193_22 rfl <| ok_ireti i193_31 rt193 <| ?_
        refine kt_v (pc' := 576) rfl <| ok_istore (pc' := 578) (ls' := [aR 1, aR 100, aR 448, aR 464, aR 465, aI i, aI 0, aI (q (6 + v1)), w8]) i0_576 (bt rfl) rfl rfl <| ok_aloadn (pc' := 579) i0_578 rfl rfl <| ok_cc i0_579 rfl (cl_v o0 m13_188 na157 rfl rfl (bt rfl) (bt rfl) rfl (by rw [ShModel_k0 hS448, o157])) ln157 (pd157 (aR 448)) <| ok_aloadn (pc' := 1) i157_0 rfl rfl <| ok_getfi (v := 0) (pc' := 4) i157_1 o157 gi9_63 (ShModel_k0 hS448) rd_eq rfl <| ok_ireti i157_4 rt157 <| kt_v (pc' := 582) rfl <| ?_
        refine ok_iload (pc' := 584) i0_582 rfl rfl <| ok_kc1 (pc1 := 589) (pc2 := 587) i0_584 (by decide) rfl rfl <| ok_iload (pc' := 591) i0_589 rfl rfl <| ok_kz0 (pc1 := 606) (pc2 := 594) i0_591 (by decide) rfl rfl <| ok_aloadn (pc' := 595) i0_594 rfl rfl <| ok_iconst (pc' := 596) i0_595 rfl <| ok_laload (v := (wr (q (6 + v1)))) (pc' := 597) i0_596 (ShOut_k0 hS464) (ShOut_l0 hS464) (by decide) (rd_na (by omega) rd_eq) rfl <| ok_iload (pc' := 599) i0_597 rfl rfl <| ?_
        refine ok_i2l (v := (wr (q (6 + v1)))) (pc' := 600) i0_599 rfl rfl <| ok_lcmp0 (pc' := 601) i0_600 rfl <| ok_kz1 (pc1 := 606) (pc2 := 604) i0_601 (by decide) rfl rfl <| ok_goto (pc' := 3329) i0_606 rfl <| ?_
        exact K _ _ _ _ _ _ hD (by omega) (Inv_mono (Inv_same hI (Same.thr (Same.out Same.rfl))) (by omega))
      · refine ok_throw th101_15 (bt rfl) <| kt_x hh100 <| kt_h hn281 hf281_5_10 hr281_17 <| kt_v (pc' := 550) rfl <| ?_
        refine ok_al hD (fun g hD => ?_)
        have hS448 := HD_o hD
        have hS1 := HD_s hD
        have hS464 := HD_u hD
        have hS465 := HD_ud hD
        refine ok_istore (pc' := 552) (ls' := [aR 1, aR 100, aR 448, aR 464, aR 465, aI i, aI 2, w7, w8]) i0_550 (bt rfl) rfl rfl <| ok_aloadn (pc' := 553) i0_552 rfl rfl <| ok_aloadn (pc' := 554) i0_553 rfl rfl <| ok_iload (pc' := 556) i0_554 rfl rfl <| ok_iconst (pc' := 557) i0_556 rfl <| ok_iadd (v := (i + 1)) (pc' := 558) i0_557 rfl rfl <| ok_iaload (v := v1) (pc' := 559) i0_558 (ShScr_k0 hS1) (by decide) (ShScr_l0 hS1) (by omega) hv1 rfl <| ok_aloadn (pc' := 560) i0_559 rfl rfl <| ?_
        refine ok_iload (pc' := 562) i0_560 rfl rfl <| ok_iconst (pc' := 563) i0_562 rfl <| ok_iadd (v := (i + 2)) (pc' := 564) i0_563 rfl rfl <| ok_iaload (v := v2) (pc' := 565) i0_564 (ShScr_k0 hS1) (by decide) (ShScr_l0 hS1) (by omega) hv2 rfl <| ?_
        refine ok_zeq (pc1 := 572) (pc2 := 568) i0_565 (by omega) rfl rfl (fun h9 => by exfalso; omega) (fun h519 => ?_)
        refine ok_iconst (pc' := 569) i0_568 rfl <| ok_goto (pc' := 573) i0_569 rfl <| ok_cc i0_573 rfl (cl_v o0 m13_213 na193 rfl rfl (bt rfl) (bt rfl) rfl (by rw [ShModel_k0 hS448, o193])) ln193 (pd193 (aR 448) (aI v1) (aI 1)) <| ok_aloadn (pc' := 1) i193_0 rfl rfl <| ok_iloadn (pc' := 2) i193_1 rfl rfl <| ok_cc i193_2 rfl (cl_v o193 m9_238 na194 rfl rfl (bt rfl) (bt rfl) rfl (by rw [ShModel_k0 hS448, o194])) ln194 (pd194 (aR 448) (aI v1)) <| ok_aloadn (pc' := 1) i194_0 rfl rfl <| ok_cc i194_1 rfl (cl_v o194 m9_216 na188 rfl rfl (bt rfl) (bt rfl) rfl (by rw [ShModel_k0 hS448, o188])) ln188 (pd188 (aR 448)) <| ?_
        refine ok_aloadn (pc' := 1) i188_0 rfl rfl <| ok_iconst (pc' := 2) i188_1 rfl <| ok_putfj (kk := 0) (pc' := 5) i188_2 o188 pi188_63 (ShModel_k0 hS448) rfl rfl <| ok_aloadn (pc' := 6) i188_5 rfl rfl <| ok_aloadn (pc' := 7) i188_6 rfl rfl <| ok_getfi (v := 1) (pc' := 10) i188_7 o188 gi9_66 (ShModel_k0 hS448) (rd_ni (by decide) (hld.trans hl)) rfl <| ok_kz1 (pc1 := 17) (pc2 := 13) i188_10 (by decide) rfl rfl <| ok_iconst (pc' := 18) i188_17 rfl <| ?_
        refine ok_iconst (pc' := 19) i188_18 rfl <| ok_cc i188_19 rfl (cl_v o188 m9_70 na165 rfl rfl (bt rfl) (bt rfl) rfl (by rw [ShModel_k0 hS448, o165])) ln165 (pd165 (aR 448) (aI 0) (aI 1)) <| ok_aloadn (pc' := 1) i165_0 rfl rfl <| ok_getfi (v := 0) (pc' := 4) i165_1 o165 gi9_63 (ShModel_k0 hS448) rd_eq rfl <| ok_kz0 (pc1 := 16) (pc2 := 7) i165_4 (by decide) rfl rfl <| ok_iloadn (pc' := 8) i165_7 rfl rfl <| ok_kz1 (pc1 := 16) (pc2 := 11) i165_8 (by decide) rfl rfl <| ok_aloadn (pc' := 17) i165_16 rfl rfl <| ?_
        refine ok_getfi (v := 0) (pc' := 20) i165_17 o165 gi9_63 (ShModel_k0 hS448) rd_eq rfl <| ok_kz1 (pc1 := 27) (pc2 := 23) i165_20 (by decide) rfl rfl <| ok_iconst (pc' := 28) i165_27 rfl <| ok_iretz i165_28 rt165 (by decide) <| kt_v (pc' := 22) rfl <| ok_iretz i188_22 rt188 (by decide) <| kt_v (pc' := 4) rfl <| ok_kz0 (pc1 := 34) (pc2 := 7) i194_4 (by decide) rfl rfl <| ?_
        refine ok_aloadn (pc' := 8) i194_7 rfl rfl <| ok_iloadn (pc' := 9) i194_8 rfl rfl <| ok_iconst (pc' := 10) i194_9 rfl <| ok_aloadn (pc' := 11) i194_10 rfl rfl <| ok_getfi (v := (q 0)) (pc' := 14) i194_11 o194 gi9_203 (ShModel_k0 hS448) (rd_ni (by decide) (RepO_f2 hO)) rfl <| ok_iconst (pc' := 15) i194_14 rfl <| ok_isub (v := ((q 0) - 1)) (pc' := 16) i194_15 rfl rfl <| ok_cc i194_16 rfl (cl_s o194 m9_140 na164 rfl rfl (bt rfl) (bt rfl) rfl) ln164 (pd164 (aI v1) (aI 0) (aI ((q 0) - 1))) <| ?_
        refine ok_iloadn (pc' := 1) i164_0 rfl rfl <| ok_iloadn (pc' := 2) i164_1 rfl rfl <| ?_
        refine ok_clt (pc1 := 14) (pc2 := 5) i164_2 (by omega) rfl rfl (fun h9 => by exfalso; omega) (fun h520 => ?_)
        refine ok_iloadn (pc' := 6) i164_5 rfl rfl <| ok_iloadn (pc' := 7) i164_6 rfl rfl <| ?_
        refine ok_cgt (pc1 := 14) (pc2 := 10) i164_7 (by omega) rfl rfl (fun h521 => ?_) (fun h9 => by exfalso; omega)
        refine ok_iconst (pc' := 15) i164_14 rfl <| ok_iretz i164_15 rt164 (by decide) <| kt_v (pc' := 19) rfl <| ok_kz0 (pc1 := 26) (pc2 := 22) i194_19 (by decide) rfl rfl <| ok_iconst (pc' := 23) i194_22 rfl <| ok_goto (pc' := 27) i194_23 rfl <| ok_iconst (pc' := 28) i194_27 rfl <| ok_cc i194_28 rfl (cl_v o194 m9_70 na165 rfl rfl (bt rfl) (bt rfl) rfl (by rw [ShModel_k0 hS448, o165])) ln165 (pd165 (aR 448) (aI 1) (aI 2)) <| ?_
        refine ok_aloadn (pc' := 1) i165_0 rfl rfl <| ok_getfi (v := 0) (pc' := 4) i165_1 o165 gi9_63 (ShModel_k0 hS448) rd_eq rfl <| ok_kz0 (pc1 := 16) (pc2 := 7) i165_4 (by decide) rfl rfl <| ok_iloadn (pc' := 8) i165_7 rfl rfl <| ok_kz0 (pc1 := 16) (pc2 := 11) i165_8 (by decide) rfl rfl <| ok_aloadn (pc' := 12) i165_11 rfl rfl <| ok_iloadn (pc' := 13) i165_12 rfl rfl <| ok_putfj (kk := 0) (pc' := 16) i165_13 o165 pi165_63 (ShModel_k0 hS448) rfl rfl <| ?_
        refine ok_aloadn (pc' := 17) i165_16 rfl rfl <| ok_getfi (v := 2) (pc' := 20) i165_17 o165 gi9_63 (ShModel_k0 hS448) rd_eq rfl <| ok_kz0 (pc1 := 27) (pc2 := 23) i165_20 (by decide) rfl rfl <| ok_iconst (pc' := 24) i165_23 rfl <| ok_goto (pc' := 28) i165_24 rfl <| ok_iretz i165_28 rt165 (by decide) <| kt_v (pc' := 31) rfl <| ok_kz0 (pc1 := 38) (pc2 := 34) i194_31 (by decide) rfl rfl <| ?_
        refine ok_iconst (pc' := 35) i194_34 rfl <| ok_goto (pc' := 39) i194_35 rfl <| ok_iretz i194_39 rt194 (by decide) <| kt_v (pc' := 5) rfl <| ok_kz0 (pc1 := 12) (pc2 := 8) i193_5 (by decide) rfl rfl <| ok_iconst (pc' := 9) i193_8 rfl <| ok_goto (pc' := 31) i193_9 rfl <| ok_ireti i193_31 rt193 <| ?_
        refine kt_v (pc' := 576) rfl <| ok_istore (pc' := 578) (ls' := [aR 1, aR 100, aR 448, aR 464, aR 465, aI i, aI 2, aI 0, w8]) i0_576 (bt rfl) rfl rfl <| ok_aloadn (pc' := 579) i0_578 rfl rfl <| ok_cc i0_579 rfl (cl_v o0 m13_188 na157 rfl rfl (bt rfl) (bt rfl) rfl (by rw [ShModel_k0 hS448, o157])) ln157 (pd157 (aR 448)) <| ok_aloadn (pc' := 1) i157_0 rfl rfl <| ok_getfi (v := 2) (pc' := 4) i157_1 o157 gi9_63 (ShModel_k0 hS448) rd_eq rfl <| ok_ireti i157_4 rt157 <| kt_v (pc' := 582) rfl <| ?_
        refine ok_iload (pc' := 584) i0_582 rfl rfl <| ok_kc1 (pc1 := 589) (pc2 := 587) i0_584 (by decide) rfl rfl <| ok_iload (pc' := 591) i0_589 rfl rfl <| ok_kz1 (pc1 := 606) (pc2 := 594) i0_591 (by decide) rfl rfl <| ok_goto (pc' := 3329) i0_606 rfl <| ?_
        exact K _ _ _ _ _ _ hD (by omega) (Inv_mono (Inv_same hI (Same.thr (Same.thr Same.rfl))) (by omega))
theorem c7_0 {L n : Nat} {g : AG} {M : AM} {xs : Nat → Int32} {b i : Int} {w6 w7 w8 : AV} {Q : AO → AG → AM → Prop} (hD : HD L n g) (hI : Inv xs b M) (hi : 0 ≤ i ∧ i + 6 ≤ L) (hb : 0 ≤ b ∧ b ≤ 900000) (hl : M 100 6 = 0) (K : KK L n i b xs Q) :
    Ok 10 0 525 [aR 1, aR 100, aR 448, aR 464, aR 465, aI i, w6, w7, w8] [] g M Q := by
  have hI0 := hI
  obtain ⟨hA, hld, hl01, q, hc, ⟨nx, sz, hH, hsz⟩, hS⟩ := hI0
  have hH0 := hH
  obtain ⟨⟨hn1, hn0⟩, ⟨hz2, hz0⟩, h10, hHj⟩ := hH0
  obtain ⟨hw0, ⟨bu, by_, hb1, hb13, hbu, hZ, hU⟩, he3, he4, he5, hId, tx, hT, hUt, htl, htr⟩ := hA
  obtain ⟨v1, hv1⟩ : ∃ u9 : Int, M 1 (i + 1) = u9 := ⟨_, rfl⟩
  have hr1 : -2147483648 ≤ v1 ∧ v1 < 2147483648 := hv1 ▸ scr_rg hw0 (i + 1)
  obtain ⟨v2, hv2⟩ : ∃ u9 : Int, M 1 (i + 2) = u9 := ⟨_, rfl⟩
  have hr2 : -2147483648 ≤ v2 ∧ v2 < 2147483648 := hv2 ▸ scr_rg hw0 (i + 2)
  have hS1 := HD_s hD
  have hS100 := HD_y hD
  have hS448 := HD_o hD
  have hS464 := HD_u hD
  have hS465 := HD_ud hD
  refine ok_aloadn (pc' := 526) i0_525 rfl rfl <| ok_aloadn (pc' := 527) i0_526 rfl rfl <| ok_iload (pc' := 529) i0_527 rfl rfl <| ok_iconst (pc' := 530) i0_529 rfl <| ok_iadd (v := (i + 1)) (pc' := 531) i0_530 rfl rfl <| ok_iaload (v := v1) (pc' := 532) i0_531 (ShScr_k0 hS1) (by decide) (ShScr_l0 hS1) (by omega) hv1 rfl <| ok_aloadn (pc' := 533) i0_532 rfl rfl <| ok_iload (pc' := 535) i0_533 rfl rfl <| ?_
  refine ok_iconst (pc' := 536) i0_535 rfl <| ok_iadd (v := (i + 2)) (pc' := 537) i0_536 rfl rfl <| ok_iaload (v := v2) (pc' := 538) i0_537 (ShScr_k0 hS1) (by decide) (ShScr_l0 hS1) (by omega) hv2 rfl <| ?_
  refine ok_zeq (pc1 := 545) (pc2 := 541) i0_538 (by omega) rfl rfl (fun h501 => ?_) (fun h501 => ?_)
  · refine ok_iconst (pc' := 546) i0_545 rfl <| ok_aloadn (pc' := 547) i0_546 rfl rfl <| ok_cc i0_547 rfl (cl_s o0 m13_210 na281 rfl rfl (bt rfl) (bt rfl) rfl) ln281 (pd281 (aR 100) (aI v1) (aI 0) (aR 464)) <| ok_aloadn (pc' := 1) i281_0 rfl rfl <| ok_iconst (pc' := 2) i281_1 rfl <| ok_aloadn (pc' := 3) i281_2 rfl rfl <| ok_iloadn (pc' := 4) i281_3 rfl rfl <| ok_iloadn (pc' := 5) i281_4 rfl rfl <| ?_
    refine ok_cc i281_5 rfl (cl_v o281 m13_22 na100 rfl rfl (bt rfl) (bt rfl) rfl (by rw [ShYard_k0 hS100, o100])) ln100 (pd100 (aR 100) (aI v1) (aI 0)) <| ok_aloadn (pc' := 1) i100_0 rfl rfl <| ok_cc i100_1 rfl (cl_v o100 m0_132 na99 rfl rfl (bt rfl) (bt rfl) rfl (by rw [ShYard_k0 hS100, o99])) ln99 (pd99 (aR 100)) <| ok_aloadn (pc' := 1) i99_0 rfl rfl <| ok_getfi (v := 0) (pc' := 4) i99_1 o99 gi0_268 (ShYard_k0 hS100) hl rfl <| ok_kz0 (pc1 := 18) (pc2 := 7) i99_4 (by decide) rfl rfl <| ok_throw th99_7 (bt rfl) <| kt_x hh100 <| ?_
    refine kt_h hn281 hf281_5_12 hr281_13 <| kt_v (pc' := 550) rfl <| ?_
    refine ok_al hD (fun g hD => ?_)
    have hS448 := HD_o hD
    have hS1 := HD_s hD
    have hS464 := HD_u hD
    have hS465 := HD_ud hD
    refine ok_istore (pc' := 552) (ls' := [aR 1, aR 100, aR 448, aR 464, aR 465, aI i, aI 1, w7, w8]) i0_550 (bt rfl) rfl rfl <| ok_aloadn (pc' := 553) i0_552 rfl rfl <| ok_aloadn (pc' := 554) i0_553 rfl rfl <| ok_iload (pc' := 556) i0_554 rfl rfl <| ok_iconst (pc' := 557) i0_556 rfl <| ok_iadd (v := (i + 1)) (pc' := 558) i0_557 rfl rfl <| ok_iaload (v := v1) (pc' := 559) i0_558 (ShScr_k0 hS1) (by decide) (ShScr_l0 hS1) (by omega) hv1 rfl <| ok_aloadn (pc' := 560) i0_559 rfl rfl <| ?_
    refine ok_iload (pc' := 562) i0_560 rfl rfl <| ok_iconst (pc' := 563) i0_562 rfl <| ok_iadd (v := (i + 2)) (pc' := 564) i0_563 rfl rfl <| ok_iaload (v := v2) (pc' := 565) i0_564 (ShScr_k0 hS1) (by decide) (ShScr_l0 hS1) (by omega) hv2 rfl <| ?_
    refine ok_zeq (pc1 := 572) (pc2 := 568) i0_565 (by omega) rfl rfl (fun h502 => ?_) (fun h9 => by exfalso; omega)
    refine ok_iconst (pc' := 573) i0_572 rfl <| ok_cc i0_573 rfl (cl_v o0 m13_213 na193 rfl rfl (bt rfl) (bt rfl) rfl (by rw [ShModel_k0 hS448, o193])) ln193 (pd193 (aR 448) (aI v1) (aI 0)) <| ok_aloadn (pc' := 1) i193_0 rfl rfl <| ok_iloadn (pc' := 2) i193_1 rfl rfl <| ok_cc i193_2 rfl (cl_v o193 m9_238 na194 rfl rfl (bt rfl) (bt rfl) rfl (by rw [ShModel_k0 hS448, o194])) ln194 (pd194 (aR 448) (aI v1)) <| ok_aloadn (pc' := 1) i194_0 rfl rfl <| ok_cc i194_1 rfl (cl_v o194 m9_216 na188 rfl rfl (bt rfl) (bt rfl) rfl (by rw [ShModel_k0 hS448, o188])) ln188 (pd188 (aR 448)) <| ok_aloadn (pc' := 1) i188_0 rfl rfl <| ?_
    refine ok_iconst (pc' := 2) i188_1 rfl <| ok_putfj (kk := 0) (pc' := 5) i188_2 o188 pi188_63 (ShModel_k0 hS448) rfl rfl <| ok_aloadn (pc' := 6) i188_5 rfl rfl <| ok_aloadn (pc' := 7) i188_6 rfl rfl <| ok_getfi (v := 0) (pc' := 10) i188_7 o188 gi9_66 (ShModel_k0 hS448) (rd_ni (by decide) (hld.trans hl)) rfl <| ok_kz0 (pc1 := 17) (pc2 := 13) i188_10 (by decide) rfl rfl <| ok_iconst (pc' := 14) i188_13 rfl <| ok_goto (pc' := 18) i188_14 rfl <| ?_
    refine ok_iconst (pc' := 19) i188_18 rfl <| ok_cc i188_19 rfl (cl_v o188 m9_70 na165 rfl rfl (bt rfl) (bt rfl) rfl (by rw [ShModel_k0 hS448, o165])) ln165 (pd165 (aR 448) (aI 1) (aI 1)) <| ok_aloadn (pc' := 1) i165_0 rfl rfl <| ok_getfi (v := 0) (pc' := 4) i165_1 o165 gi9_63 (ShModel_k0 hS448) rd_eq rfl <| ok_kz0 (pc1 := 16) (pc2 := 7) i165_4 (by decide) rfl rfl <| ok_iloadn (pc' := 8) i165_7 rfl rfl <| ok_kz0 (pc1 := 16) (pc2 := 11) i165_8 (by decide) rfl rfl <| ok_aloadn (pc' := 12) i165_11 rfl rfl <| ?_
    refine ok_iloadn (pc' := 13) i165_12 rfl rfl <| ok_putfj (kk := 0) (pc' := 16) i165_13 o165 pi165_63 (ShModel_k0 hS448) rfl rfl <| ok_aloadn (pc' := 17) i165_16 rfl rfl <| ok_getfi (v := 1) (pc' := 20) i165_17 o165 gi9_63 (ShModel_k0 hS448) rd_eq rfl <| ok_kz0 (pc1 := 27) (pc2 := 23) i165_20 (by decide) rfl rfl <| ok_iconst (pc' := 24) i165_23 rfl <| ok_goto (pc' := 28) i165_24 rfl <| ok_iretz i165_28 rt165 (by decide) <| ?_
    refine kt_v (pc' := 22) rfl <| ok_iretz i188_22 rt188 (by decide) <| kt_v (pc' := 4) rfl <| ok_kz1 (pc1 := 34) (pc2 := 7) i194_4 (by decide) rfl rfl <| ok_iconst (pc' := 35) i194_34 rfl <| ok_goto (pc' := 39) i194_35 rfl <| ok_iretz i194_39 rt194 (by decide) <| kt_v (pc' := 5) rfl <| ?_
    refine ok_kz0 (pc1 := 12) (pc2 := 8) i193_5 (by decide) rfl rfl <| ok_iconst (pc' := 9) i193_8 rfl <| ok_goto (pc' := 31) i193_9 rfl <| ok_ireti i193_31 rt193 <| kt_v (pc' := 576) rfl <| ok_istore (pc' := 578) (ls' := [aR 1, aR 100, aR 448, aR 464, aR 465, aI i, aI 1, aI 0, w8]) i0_576 (bt rfl) rfl rfl <| ok_aloadn (pc' := 579) i0_578 rfl rfl <| ok_cc i0_579 rfl (cl_v o0 m13_188 na157 rfl rfl (bt rfl) (bt rfl) rfl (by rw [ShModel_k0 hS448, o157])) ln157 (pd157 (aR 448)) <| ?_
    refine ok_aloadn (pc' := 1) i157_0 rfl rfl <| ok_getfi (v := 1) (pc' := 4) i157_1 o157 gi9_63 (ShModel_k0 hS448) rd_eq rfl <| ok_ireti i157_4 rt157 <| kt_v (pc' := 582) rfl <| ok_iload (pc' := 584) i0_582 rfl rfl <| ok_kc1 (pc1 := 589) (pc2 := 587) i0_584 (by decide) rfl rfl <| ok_iload (pc' := 591) i0_589 rfl rfl <| ok_kz1 (pc1 := 606) (pc2 := 594) i0_591 (by decide) rfl rfl <| ?_
    refine ok_goto (pc' := 3329) i0_606 rfl <| ?_
    exact K _ _ _ _ _ _ hD (by omega) (Inv_mono (Inv_same hI (Same.thr (Same.thr Same.rfl))) (by omega))
  · refine ok_iconst (pc' := 542) i0_541 rfl <| ok_goto (pc' := 546) i0_542 rfl <| ok_aloadn (pc' := 547) i0_546 rfl rfl <| ok_cc i0_547 rfl (cl_s o0 m13_210 na281 rfl rfl (bt rfl) (bt rfl) rfl) ln281 (pd281 (aR 100) (aI v1) (aI 1) (aR 464)) <| ok_aloadn (pc' := 1) i281_0 rfl rfl <| ok_iconst (pc' := 2) i281_1 rfl <| ok_aloadn (pc' := 3) i281_2 rfl rfl <| ok_iloadn (pc' := 4) i281_3 rfl rfl <| ?_
    refine ok_iloadn (pc' := 5) i281_4 rfl rfl <| ok_cc i281_5 rfl (cl_v o281 m13_22 na100 rfl rfl (bt rfl) (bt rfl) rfl (by rw [ShYard_k0 hS100, o100])) ln100 (pd100 (aR 100) (aI v1) (aI 1)) <| ok_aloadn (pc' := 1) i100_0 rfl rfl <| ok_cc i100_1 rfl (cl_v o100 m0_132 na99 rfl rfl (bt rfl) (bt rfl) rfl (by rw [ShYard_k0 hS100, o99])) ln99 (pd99 (aR 100)) <| ok_aloadn (pc' := 1) i99_0 rfl rfl <| ok_getfi (v := 0) (pc' := 4) i99_1 o99 gi0_268 (ShYard_k0 hS100) hl rfl <| ok_kz0 (pc1 := 18) (pc2 := 7) i99_4 (by decide) rfl rfl <| ok_throw th99_7 (bt rfl) <| ?_
    refine kt_x hh100 <| kt_h hn281 hf281_5_12 hr281_13 <| kt_v (pc' := 550) rfl <| ?_
    refine ok_al hD (fun g hD => ?_)
    have hS448 := HD_o hD
    have hS1 := HD_s hD
    have hS464 := HD_u hD
    have hS465 := HD_ud hD
    refine ok_istore (pc' := 552) (ls' := [aR 1, aR 100, aR 448, aR 464, aR 465, aI i, aI 1, w7, w8]) i0_550 (bt rfl) rfl rfl <| ok_aloadn (pc' := 553) i0_552 rfl rfl <| ok_aloadn (pc' := 554) i0_553 rfl rfl <| ok_iload (pc' := 556) i0_554 rfl rfl <| ok_iconst (pc' := 557) i0_556 rfl <| ok_iadd (v := (i + 1)) (pc' := 558) i0_557 rfl rfl <| ok_iaload (v := v1) (pc' := 559) i0_558 (ShScr_k0 hS1) (by decide) (ShScr_l0 hS1) (by omega) hv1 rfl <| ok_aloadn (pc' := 560) i0_559 rfl rfl <| ?_
    refine ok_iload (pc' := 562) i0_560 rfl rfl <| ok_iconst (pc' := 563) i0_562 rfl <| ok_iadd (v := (i + 2)) (pc' := 564) i0_563 rfl rfl <| ok_iaload (v := v2) (pc' := 565) i0_564 (ShScr_k0 hS1) (by decide) (ShScr_l0 hS1) (by omega) hv2 rfl <| ?_
    refine ok_zeq (pc1 := 572) (pc2 := 568) i0_565 (by omega) rfl rfl (fun h9 => by exfalso; omega) (fun h503 => ?_)
    refine ok_iconst (pc' := 569) i0_568 rfl <| ok_goto (pc' := 573) i0_569 rfl <| ok_cc i0_573 rfl (cl_v o0 m13_213 na193 rfl rfl (bt rfl) (bt rfl) rfl (by rw [ShModel_k0 hS448, o193])) ln193 (pd193 (aR 448) (aI v1) (aI 1)) <| ok_aloadn (pc' := 1) i193_0 rfl rfl <| ok_iloadn (pc' := 2) i193_1 rfl rfl <| ok_cc i193_2 rfl (cl_v o193 m9_238 na194 rfl rfl (bt rfl) (bt rfl) rfl (by rw [ShModel_k0 hS448, o194])) ln194 (pd194 (aR 448) (aI v1)) <| ok_aloadn (pc' := 1) i194_0 rfl rfl <| ok_cc i194_1 rfl (cl_v o194 m9_216 na188 rfl rfl (bt rfl) (bt rfl) rfl (by rw [ShModel_k0 hS448, o188])) ln188 (pd188 (aR 448)) <| ?_
    refine ok_aloadn (pc' := 1) i188_0 rfl rfl <| ok_iconst (pc' := 2) i188_1 rfl <| ok_putfj (kk := 0) (pc' := 5) i188_2 o188 pi188_63 (ShModel_k0 hS448) rfl rfl <| ok_aloadn (pc' := 6) i188_5 rfl rfl <| ok_aloadn (pc' := 7) i188_6 rfl rfl <| ok_getfi (v := 0) (pc' := 10) i188_7 o188 gi9_66 (ShModel_k0 hS448) (rd_ni (by decide) (hld.trans hl)) rfl <| ok_kz0 (pc1 := 17) (pc2 := 13) i188_10 (by decide) rfl rfl <| ok_iconst (pc' := 14) i188_13 rfl <| ?_
    refine ok_goto (pc' := 18) i188_14 rfl <| ok_iconst (pc' := 19) i188_18 rfl <| ok_cc i188_19 rfl (cl_v o188 m9_70 na165 rfl rfl (bt rfl) (bt rfl) rfl (by rw [ShModel_k0 hS448, o165])) ln165 (pd165 (aR 448) (aI 1) (aI 1)) <| ok_aloadn (pc' := 1) i165_0 rfl rfl <| ok_getfi (v := 0) (pc' := 4) i165_1 o165 gi9_63 (ShModel_k0 hS448) rd_eq rfl <| ok_kz0 (pc1 := 16) (pc2 := 7) i165_4 (by decide) rfl rfl <| ok_iloadn (pc' := 8) i165_7 rfl rfl <| ok_kz0 (pc1 := 16) (pc2 := 11) i165_8 (by decide) rfl rfl <| ?_
    refine ok_aloadn (pc' := 12) i165_11 rfl rfl <| ok_iloadn (pc' := 13) i165_12 rfl rfl <| ok_putfj (kk := 0) (pc' := 16) i165_13 o165 pi165_63 (ShModel_k0 hS448) rfl rfl <| ok_aloadn (pc' := 17) i165_16 rfl rfl <| ok_getfi (v := 1) (pc' := 20) i165_17 o165 gi9_63 (ShModel_k0 hS448) rd_eq rfl <| ok_kz0 (pc1 := 27) (pc2 := 23) i165_20 (by decide) rfl rfl <| ok_iconst (pc' := 24) i165_23 rfl <| ok_goto (pc' := 28) i165_24 rfl <| ?_
    refine ok_iretz i165_28 rt165 (by decide) <| kt_v (pc' := 22) rfl <| ok_iretz i188_22 rt188 (by decide) <| kt_v (pc' := 4) rfl <| ok_kz1 (pc1 := 34) (pc2 := 7) i194_4 (by decide) rfl rfl <| ok_iconst (pc' := 35) i194_34 rfl <| ok_goto (pc' := 39) i194_35 rfl <| ok_iretz i194_39 rt194 (by decide) <| ?_
    refine kt_v (pc' := 5) rfl <| ok_kz0 (pc1 := 12) (pc2 := 8) i193_5 (by decide) rfl rfl <| ok_iconst (pc' := 9) i193_8 rfl <| ok_goto (pc' := 31) i193_9 rfl <| ok_ireti i193_31 rt193 <| kt_v (pc' := 576) rfl <| ok_istore (pc' := 578) (ls' := [aR 1, aR 100, aR 448, aR 464, aR 465, aI i, aI 1, aI 0, w8]) i0_576 (bt rfl) rfl rfl <| ok_aloadn (pc' := 579) i0_578 rfl rfl <| ?_
    refine ok_cc i0_579 rfl (cl_v o0 m13_188 na157 rfl rfl (bt rfl) (bt rfl) rfl (by rw [ShModel_k0 hS448, o157])) ln157 (pd157 (aR 448)) <| ok_aloadn (pc' := 1) i157_0 rfl rfl <| ok_getfi (v := 1) (pc' := 4) i157_1 o157 gi9_63 (ShModel_k0 hS448) rd_eq rfl <| ok_ireti i157_4 rt157 <| kt_v (pc' := 582) rfl <| ok_iload (pc' := 584) i0_582 rfl rfl <| ok_kc1 (pc1 := 589) (pc2 := 587) i0_584 (by decide) rfl rfl <| ok_iload (pc' := 591) i0_589 rfl rfl <| ?_
    refine ok_kz1 (pc1 := 606) (pc2 := 594) i0_591 (by decide) rfl rfl <| ok_goto (pc' := 3329) i0_606 rfl <| ?_
    exact K _ _ _ _ _ _ hD (by omega) (Inv_mono (Inv_same hI (Same.thr (Same.thr Same.rfl))) (by omega))
theorem c11_1 {L n : Nat} {g : AG} {M : AM} {xs : Nat → Int32} {b i : Int} {w6 w7 w8 : AV} {Q : AO → AG → AM → Prop} (hD : HD L n g) (hI : Inv xs b M) (hi : 0 ≤ i ∧ i + 6 ≤ L) (hb : 0 ≤ b ∧ b ≤ 900000) (hl : M 100 6 = 1) (K : KK L n i b xs Q) :
    Ok 10 0 801 [aR 1, aR 100, aR 448, aR 464, aR 465, aI i, w6, w7, w8] [] g M Q := by
  have hI0 := hI
  obtain ⟨hA, hld, hl01, q, hc, ⟨nx, sz, hH, hsz⟩, hS⟩ := hI0
  have hH0 := hH
  obtain ⟨⟨hn1, hn0⟩, ⟨hz2, hz0⟩, h10, hHj⟩ := hH0
  obtain ⟨hw0, ⟨bu, by_, hb1, hb13, hbu, hZ, hU⟩, he3, he4, he5, hId, tx, hT, hUt, htl, htr⟩ := hA
  obtain ⟨s, hP, hRB, hO, hV, hQ, h40⟩ := hc hl
  have ys3 := V_3 hV
  have ys4 := V_4 hV
  have yq0 := Q_0 hQ
  have yq1 := Q_1 hQ
  obtain ⟨v1, hv1⟩ : ∃ u9 : Int, M 1 (i + 1) = u9 := ⟨_, rfl⟩
  have hr1 : -2147483648 ≤ v1 ∧ v1 < 2147483648 := hv1 ▸ scr_rg hw0 (i + 1)
  obtain ⟨v2, hv2⟩ : ∃ u9 : Int, M 1 (i + 2) = u9 := ⟨_, rfl⟩
  have hr2 : -2147483648 ≤ v2 ∧ v2 < 2147483648 := hv2 ▸ scr_rg hw0 (i + 2)
  have hS1 := HD_s hD
  have hS100 := HD_y hD
  have hS138 := HD_p hD
  have hS448 := HD_o hD
  have hS464 := HD_u hD
  have hS465 := HD_ud hD
  refine ok_aloadn (pc' := 802) i0_801 rfl rfl <| ok_aloadn (pc' := 803) i0_802 rfl rfl <| ok_iload (pc' := 805) i0_803 rfl rfl <| ok_iconst (pc' := 806) i0_805 rfl <| ok_iadd (v := (i + 1)) (pc' := 807) i0_806 rfl rfl <| ok_iaload (v := v1) (pc' := 808) i0_807 (ShScr_k0 hS1) (by decide) (ShScr_l0 hS1) (by omega) hv1 rfl <| ok_aloadn (pc' := 809) i0_808 rfl rfl <| ok_iload (pc' := 811) i0_809 rfl rfl <| ?_
  refine ok_iconst (pc' := 812) i0_811 rfl <| ok_iadd (v := (i + 2)) (pc' := 813) i0_812 rfl rfl <| ok_iaload (v := v2) (pc' := 814) i0_813 (ShScr_k0 hS1) (by decide) (ShScr_l0 hS1) (by omega) hv2 rfl <| ok_aloadn (pc' := 815) i0_814 rfl rfl <| ok_cc i0_815 rfl (cl_s o0 m13_224 na285 rfl rfl (bt rfl) (bt rfl) rfl) ln285 (pd285 (aR 100) (aI v1) (aI v2) (aR 464)) <| ok_aloadn (pc' := 1) i285_0 rfl rfl <| ok_iconst (pc' := 2) i285_1 rfl <| ok_aloadn (pc' := 3) i285_2 rfl rfl <| ?_
  refine ok_iloadn (pc' := 4) i285_3 rfl rfl <| ok_iloadn (pc' := 5) i285_4 rfl rfl <| ok_cc i285_5 rfl (cl_v o285 m13_36 na109 rfl rfl (bt rfl) (bt rfl) rfl (by rw [ShYard_k0 hS100, o109])) ln109 (pd109 (aR 100) (aI v1) (aI v2)) <| ok_aloadn (pc' := 1) i109_0 rfl rfl <| ok_cc i109_1 rfl (cl_v o109 m0_132 na99 rfl rfl (bt rfl) (bt rfl) rfl (by rw [ShYard_k0 hS100, o99])) ln99 (pd99 (aR 100)) <| ok_aloadn (pc' := 1) i99_0 rfl rfl <| ok_getfi (v := 1) (pc' := 4) i99_1 o99 gi0_268 (ShYard_k0 hS100) hl rfl <| ok_kz1 (pc1 := 18) (pc2 := 7) i99_4 (by decide) rfl rfl <| ?_
  refine ok_vret i99_18 rt99 <| kt_0 (pc' := 4) rfl <| ok_aloadn (pc' := 5) i109_4 rfl rfl <| ok_iloadn (pc' := 6) i109_5 rfl rfl <| ok_cc i109_6 rfl (cl_v o109 m0_186 na108 rfl rfl (bt rfl) (bt rfl) rfl (by rw [ShYard_k0 hS100, o108])) ln108 (pd108 (aR 100) (aI v1)) <| ok_iloadn (pc' := 1) i108_0 rfl rfl <| ?_
  refine ok_zlt (pc1 := 15) (pc2 := 4) i108_1 (by omega) rfl rfl (fun h501 => ?_) (fun h501 => ?_)
  · refine ok_throw th108_15 (bt rfl) <| kt_x hh109 <| kt_h hn285 hf285_5_10 hr285_17 <| kt_v (pc' := 818) rfl <| ?_
    refine ok_al hD (fun g hD => ?_)
    have hS448 := HD_o hD
    have hS1 := HD_s hD
    have hS464 := HD_u hD
    have hS465 := HD_ud hD
    refine ok_istore (pc' := 820) (ls' := [aR 1, aR 100, aR 448, aR 464, aR 465, aI i, aI 2, w7, w8]) i0_818 (bt rfl) rfl rfl <| ok_aloadn (pc' := 821) i0_820 rfl rfl <| ok_aloadn (pc' := 822) i0_821 rfl rfl <| ok_iload (pc' := 824) i0_822 rfl rfl <| ok_iconst (pc' := 825) i0_824 rfl <| ok_iadd (v := (i + 1)) (pc' := 826) i0_825 rfl rfl <| ok_iaload (v := v1) (pc' := 827) i0_826 (ShScr_k0 hS1) (by decide) (ShScr_l0 hS1) (by omega) hv1 rfl <| ok_aloadn (pc' := 828) i0_827 rfl rfl <| ?_
    refine ok_iload (pc' := 830) i0_828 rfl rfl <| ok_iconst (pc' := 831) i0_830 rfl <| ok_iadd (v := (i + 2)) (pc' := 832) i0_831 rfl rfl <| ok_iaload (v := v2) (pc' := 833) i0_832 (ShScr_k0 hS1) (by decide) (ShScr_l0 hS1) (by omega) hv2 rfl <| ok_cc i0_833 rfl (cl_v o0 m13_226 na202 rfl rfl (bt rfl) (bt rfl) rfl (by rw [ShModel_k0 hS448, o202])) ln202 (pd202 (aR 448) (aI v1) (aI v2)) <| ok_aloadn (pc' := 1) i202_0 rfl rfl <| ok_iloadn (pc' := 2) i202_1 rfl rfl <| ok_cc i202_2 rfl (cl_v o202 m9_223 na201 rfl rfl (bt rfl) (bt rfl) rfl (by rw [ShModel_k0 hS448, o201])) ln201 (pd201 (aR 448) (aI v1)) <| ?_
    refine ok_aloadn (pc' := 1) i201_0 rfl rfl <| ok_cc i201_1 rfl (cl_v o201 m9_216 na188 rfl rfl (bt rfl) (bt rfl) rfl (by rw [ShModel_k0 hS448, o188])) ln188 (pd188 (aR 448)) <| ok_aloadn (pc' := 1) i188_0 rfl rfl <| ok_iconst (pc' := 2) i188_1 rfl <| ok_putfj (kk := 0) (pc' := 5) i188_2 o188 pi188_63 (ShModel_k0 hS448) rfl rfl <| ok_aloadn (pc' := 6) i188_5 rfl rfl <| ok_aloadn (pc' := 7) i188_6 rfl rfl <| ok_getfi (v := 1) (pc' := 10) i188_7 o188 gi9_66 (ShModel_k0 hS448) (rd_ni (by decide) (hld.trans hl)) rfl <| ?_
    refine ok_kz1 (pc1 := 17) (pc2 := 13) i188_10 (by decide) rfl rfl <| ok_iconst (pc' := 18) i188_17 rfl <| ok_iconst (pc' := 19) i188_18 rfl <| ok_cc i188_19 rfl (cl_v o188 m9_70 na165 rfl rfl (bt rfl) (bt rfl) rfl (by rw [ShModel_k0 hS448, o165])) ln165 (pd165 (aR 448) (aI 0) (aI 1)) <| ok_aloadn (pc' := 1) i165_0 rfl rfl <| ok_getfi (v := 0) (pc' := 4) i165_1 o165 gi9_63 (ShModel_k0 hS448) rd_eq rfl <| ok_kz0 (pc1 := 16) (pc2 := 7) i165_4 (by decide) rfl rfl <| ok_iloadn (pc' := 8) i165_7 rfl rfl <| ?_
    refine ok_kz1 (pc1 := 16) (pc2 := 11) i165_8 (by decide) rfl rfl <| ok_aloadn (pc' := 17) i165_16 rfl rfl <| ok_getfi (v := 0) (pc' := 20) i165_17 o165 gi9_63 (ShModel_k0 hS448) rd_eq rfl <| ok_kz1 (pc1 := 27) (pc2 := 23) i165_20 (by decide) rfl rfl <| ok_iconst (pc' := 28) i165_27 rfl <| ok_iretz i165_28 rt165 (by decide) <| kt_v (pc' := 22) rfl <| ok_iretz i188_22 rt188 (by decide) <| ?_
    refine kt_v (pc' := 4) rfl <| ok_kz0 (pc1 := 34) (pc2 := 7) i201_4 (by decide) rfl rfl <| ok_aloadn (pc' := 8) i201_7 rfl rfl <| ok_iloadn (pc' := 9) i201_8 rfl rfl <| ok_iconst (pc' := 10) i201_9 rfl <| ok_aloadn (pc' := 11) i201_10 rfl rfl <| ok_getfi (v := (q 1)) (pc' := 14) i201_11 o201 gi9_206 (ShModel_k0 hS448) (rd_ni (by decide) (RepO_f3 hO)) rfl <| ok_iconst (pc' := 15) i201_14 rfl <| ?_
    refine ok_isub (v := ((q 1) - 1)) (pc' := 16) i201_15 rfl rfl <| ok_cc i201_16 rfl (cl_s o201 m9_140 na164 rfl rfl (bt rfl) (bt rfl) rfl) ln164 (pd164 (aI v1) (aI 0) (aI ((q 1) - 1))) <| ok_iloadn (pc' := 1) i164_0 rfl rfl <| ok_iloadn (pc' := 2) i164_1 rfl rfl <| ?_
    refine ok_clt (pc1 := 14) (pc2 := 5) i164_2 (by omega) rfl rfl (fun h502 => ?_) (fun h9 => by exfalso; omega)
    refine ok_iconst (pc' := 15) i164_14 rfl <| ok_iretz i164_15 rt164 (by decide) <| kt_v (pc' := 19) rfl <| ok_kz0 (pc1 := 26) (pc2 := 22) i201_19 (by decide) rfl rfl <| ok_iconst (pc' := 23) i201_22 rfl <| ok_goto (pc' := 27) i201_23 rfl <| ok_iconst (pc' := 28) i201_27 rfl <| ok_cc i201_28 rfl (cl_v o201 m9_70 na165 rfl rfl (bt rfl) (bt rfl) rfl (by rw [ShModel_k0 hS448, o165])) ln165 (pd165 (aR 448) (aI 1) (aI 2)) <| ?_
    refine ok_aloadn (pc' := 1) i165_0 rfl rfl <| ok_getfi (v := 0) (pc' := 4) i165_1 o165 gi9_63 (ShModel_k0 hS448) rd_eq rfl <| ok_kz0 (pc1 := 16) (pc2 := 7) i165_4 (by decide) rfl rfl <| ok_iloadn (pc' := 8) i165_7 rfl rfl <| ok_kz0 (pc1 := 16) (pc2 := 11) i165_8 (by decide) rfl rfl <| ok_aloadn (pc' := 12) i165_11 rfl rfl <| ok_iloadn (pc' := 13) i165_12 rfl rfl <| ok_putfj (kk := 0) (pc' := 16) i165_13 o165 pi165_63 (ShModel_k0 hS448) rfl rfl <| ?_
    refine ok_aloadn (pc' := 17) i165_16 rfl rfl <| ok_getfi (v := 2) (pc' := 20) i165_17 o165 gi9_63 (ShModel_k0 hS448) rd_eq rfl <| ok_kz0 (pc1 := 27) (pc2 := 23) i165_20 (by decide) rfl rfl <| ok_iconst (pc' := 24) i165_23 rfl <| ok_goto (pc' := 28) i165_24 rfl <| ok_iretz i165_28 rt165 (by decide) <| kt_v (pc' := 31) rfl <| ok_kz0 (pc1 := 38) (pc2 := 34) i201_31 (by decide) rfl rfl <| ?_
    refine ok_iconst (pc' := 35) i201_34 rfl <| ok_goto (pc' := 39) i201_35 rfl <| ok_iretz i201_39 rt201 (by decide) <| kt_v (pc' := 5) rfl <| ok_kz1 (pc1 := 37) (pc2 := 8) i202_5 (by decide) rfl rfl <| ok_iconst (pc' := 38) i202_37 rfl <| ok_goto (pc' := 52) i202_38 rfl <| ok_ireti i202_52 rt202 <| ?_
    refine kt_v (pc' := 836) rfl <| ok_istore (pc' := 838) (ls' := [aR 1, aR 100, aR 448, aR 464, aR 465, aI i, aI 2, aI 0, w8]) i0_836 (bt rfl) rfl rfl <| ok_aloadn (pc' := 839) i0_838 rfl rfl <| ok_cc i0_839 rfl (cl_v o0 m13_188 na157 rfl rfl (bt rfl) (bt rfl) rfl (by rw [ShModel_k0 hS448, o157])) ln157 (pd157 (aR 448)) <| ok_aloadn (pc' := 1) i157_0 rfl rfl <| ok_getfi (v := 2) (pc' := 4) i157_1 o157 gi9_63 (ShModel_k0 hS448) rd_eq rfl <| ok_ireti i157_4 rt157 <| kt_v (pc' := 842) rfl <| ?_
    refine ok_iload (pc' := 844) i0_842 rfl rfl <| ok_kc1 (pc1 := 849) (pc2 := 847) i0_844 (by decide) rfl rfl <| ok_iload (pc' := 851) i0_849 rfl rfl <| ok_kz1 (pc1 := 866) (pc2 := 854) i0_851 (by decide) rfl rfl <| ok_goto (pc' := 3329) i0_866 rfl <| ?_
    exact K _ _ _ _ _ _ hD (by omega) (Inv_mono (Inv_same hI (Same.thr (Same.thr Same.rfl))) (by omega))
  · refine ok_iloadn (pc' := 5) i108_4 rfl rfl <| ok_aloadn (pc' := 6) i108_5 rfl rfl <| ok_getfr (r := 138) (pc' := 9) i108_6 o108 gr0_32 (ShYard_k0 hS100) (ShYard_r7 hS100) rfl <| ok_getfi (v := (q 1)) (pc' := 12) i108_9 o108 gi0_141 (ShPlan_k0 hS138) (RepP_f3 hP) rfl <| ?_
    refine ok_clt (pc1 := 26) (pc2 := 15) i108_12 (by omega) rfl rfl (fun h503 => ?_) (fun h503 => ?_)
    · refine ok_vret i108_26 rt108 <| kt_0 (pc' := 9) rfl <| ok_iloadn (pc' := 10) i109_9 rfl rfl <| ?_
      refine ok_zlt (pc1 := 26) (pc2 := 13) i109_10 (by omega) rfl rfl (fun h504 => ?_) (fun h504 => ?_)
      · refine ok_throw th109_26 (bt rfl) <| kt_h hn285 hf285_5_10 hr285_17 <| kt_v (pc' := 818) rfl <| ?_
        refine ok_al hD (fun g hD => ?_)
        have hS448 := HD_o hD
        have hS1 := HD_s hD
        have hS464 := HD_u hD
        have hS465 := HD_ud hD
        refine ok_istore (pc' := 820) (ls' := [aR 1, aR 100, aR 448, aR 464, aR 465, aI i, aI 2, w7, w8]) i0_818 (bt rfl) rfl rfl <| ok_aloadn (pc' := 821) i0_820 rfl rfl <| ok_aloadn (pc' := 822) i0_821 rfl rfl <| ok_iload (pc' := 824) i0_822 rfl rfl <| ok_iconst (pc' := 825) i0_824 rfl <| ok_iadd (v := (i + 1)) (pc' := 826) i0_825 rfl rfl <| ok_iaload (v := v1) (pc' := 827) i0_826 (ShScr_k0 hS1) (by decide) (ShScr_l0 hS1) (by omega) hv1 rfl <| ok_aloadn (pc' := 828) i0_827 rfl rfl <| ?_
        refine ok_iload (pc' := 830) i0_828 rfl rfl <| ok_iconst (pc' := 831) i0_830 rfl <| ok_iadd (v := (i + 2)) (pc' := 832) i0_831 rfl rfl <| ok_iaload (v := v2) (pc' := 833) i0_832 (ShScr_k0 hS1) (by decide) (ShScr_l0 hS1) (by omega) hv2 rfl <| ok_cc i0_833 rfl (cl_v o0 m13_226 na202 rfl rfl (bt rfl) (bt rfl) rfl (by rw [ShModel_k0 hS448, o202])) ln202 (pd202 (aR 448) (aI v1) (aI v2)) <| ok_aloadn (pc' := 1) i202_0 rfl rfl <| ok_iloadn (pc' := 2) i202_1 rfl rfl <| ok_cc i202_2 rfl (cl_v o202 m9_223 na201 rfl rfl (bt rfl) (bt rfl) rfl (by rw [ShModel_k0 hS448, o201])) ln201 (pd201 (aR 448) (aI v1)) <| ?_
        refine ok_aloadn (pc' := 1) i201_0 rfl rfl <| ok_cc i201_1 rfl (cl_v o201 m9_216 na188 rfl rfl (bt rfl) (bt rfl) rfl (by rw [ShModel_k0 hS448, o188])) ln188 (pd188 (aR 448)) <| ok_aloadn (pc' := 1) i188_0 rfl rfl <| ok_iconst (pc' := 2) i188_1 rfl <| ok_putfj (kk := 0) (pc' := 5) i188_2 o188 pi188_63 (ShModel_k0 hS448) rfl rfl <| ok_aloadn (pc' := 6) i188_5 rfl rfl <| ok_aloadn (pc' := 7) i188_6 rfl rfl <| ok_getfi (v := 1) (pc' := 10) i188_7 o188 gi9_66 (ShModel_k0 hS448) (rd_ni (by decide) (hld.trans hl)) rfl <| ?_
        refine ok_kz1 (pc1 := 17) (pc2 := 13) i188_10 (by decide) rfl rfl <| ok_iconst (pc' := 18) i188_17 rfl <| ok_iconst (pc' := 19) i188_18 rfl <| ok_cc i188_19 rfl (cl_v o188 m9_70 na165 rfl rfl (bt rfl) (bt rfl) rfl (by rw [ShModel_k0 hS448, o165])) ln165 (pd165 (aR 448) (aI 0) (aI 1)) <| ok_aloadn (pc' := 1) i165_0 rfl rfl <| ok_getfi (v := 0) (pc' := 4) i165_1 o165 gi9_63 (ShModel_k0 hS448) rd_eq rfl <| ok_kz0 (pc1 := 16) (pc2 := 7) i165_4 (by decide) rfl rfl <| ok_iloadn (pc' := 8) i165_7 rfl rfl <| ?_
        refine ok_kz1 (pc1 := 16) (pc2 := 11) i165_8 (by decide) rfl rfl <| ok_aloadn (pc' := 17) i165_16 rfl rfl <| ok_getfi (v := 0) (pc' := 20) i165_17 o165 gi9_63 (ShModel_k0 hS448) rd_eq rfl <| ok_kz1 (pc1 := 27) (pc2 := 23) i165_20 (by decide) rfl rfl <| ok_iconst (pc' := 28) i165_27 rfl <| ok_iretz i165_28 rt165 (by decide) <| kt_v (pc' := 22) rfl <| ok_iretz i188_22 rt188 (by decide) <| ?_
        refine kt_v (pc' := 4) rfl <| ok_kz0 (pc1 := 34) (pc2 := 7) i201_4 (by decide) rfl rfl <| ok_aloadn (pc' := 8) i201_7 rfl rfl <| ok_iloadn (pc' := 9) i201_8 rfl rfl <| ok_iconst (pc' := 10) i201_9 rfl <| ok_aloadn (pc' := 11) i201_10 rfl rfl <| ok_getfi (v := (q 1)) (pc' := 14) i201_11 o201 gi9_206 (ShModel_k0 hS448) (rd_ni (by decide) (RepO_f3 hO)) rfl <| ok_iconst (pc' := 15) i201_14 rfl <| ?_
        refine ok_isub (v := ((q 1) - 1)) (pc' := 16) i201_15 rfl rfl <| ok_cc i201_16 rfl (cl_s o201 m9_140 na164 rfl rfl (bt rfl) (bt rfl) rfl) ln164 (pd164 (aI v1) (aI 0) (aI ((q 1) - 1))) <| ok_iloadn (pc' := 1) i164_0 rfl rfl <| ok_iloadn (pc' := 2) i164_1 rfl rfl <| ?_
        refine ok_clt (pc1 := 14) (pc2 := 5) i164_2 (by omega) rfl rfl (fun h9 => by exfalso; omega) (fun h505 => ?_)
        refine ok_iloadn (pc' := 6) i164_5 rfl rfl <| ok_iloadn (pc' := 7) i164_6 rfl rfl <| ?_
        refine ok_cgt (pc1 := 14) (pc2 := 10) i164_7 (by omega) rfl rfl (fun h9 => by exfalso; omega) (fun h506 => ?_)
        refine ok_iconst (pc' := 11) i164_10 rfl <| ok_goto (pc' := 15) i164_11 rfl <| ok_iretz i164_15 rt164 (by decide) <| kt_v (pc' := 19) rfl <| ok_kz1 (pc1 := 26) (pc2 := 22) i201_19 (by decide) rfl rfl <| ok_iconst (pc' := 27) i201_26 rfl <| ok_iconst (pc' := 28) i201_27 rfl <| ok_cc i201_28 rfl (cl_v o201 m9_70 na165 rfl rfl (bt rfl) (bt rfl) rfl (by rw [ShModel_k0 hS448, o165])) ln165 (pd165 (aR 448) (aI 0) (aI 2)) <| ?_
        refine ok_aloadn (pc' := 1) i165_0 rfl rfl <| ok_getfi (v := 0) (pc' := 4) i165_1 o165 gi9_63 (ShModel_k0 hS448) rd_eq rfl <| ok_kz0 (pc1 := 16) (pc2 := 7) i165_4 (by decide) rfl rfl <| ok_iloadn (pc' := 8) i165_7 rfl rfl <| ok_kz1 (pc1 := 16) (pc2 := 11) i165_8 (by decide) rfl rfl <| ok_aloadn (pc' := 17) i165_16 rfl rfl <| ok_getfi (v := 0) (pc' := 20) i165_17 o165 gi9_63 (ShModel_k0 hS448) rd_eq rfl <| ok_kz1 (pc1 := 27) (pc2 := 23) i165_20 (by decide) rfl rfl <| ?_
        refine ok_iconst (pc' := 28) i165_27 rfl <| ok_iretz i165_28 rt165 (by decide) <| kt_v (pc' := 31) rfl <| ok_kz1 (pc1 := 38) (pc2 := 34) i201_31 (by decide) rfl rfl <| ok_iconst (pc' := 39) i201_38 rfl <| ok_iretz i201_39 rt201 (by decide) <| kt_v (pc' := 5) rfl <| ok_kz0 (pc1 := 37) (pc2 := 8) i202_5 (by decide) rfl rfl <| ?_
        refine ok_aloadn (pc' := 9) i202_8 rfl rfl <| ok_iloadn (pc' := 10) i202_9 rfl rfl <| ok_iconst (pc' := 11) i202_10 rfl <| ok_aloadn (pc' := 12) i202_11 rfl rfl <| ok_getfr (r := (448 + 3)) (pc' := 15) i202_12 o202 gr9_16 (ShModel_k0 hS448) (ShModel_r6 hS448) rfl <| ok_iloadn (pc' := 16) i202_15 rfl rfl <| ?_
        have z301 : 1 ≤ q (10 + v1) ∧ q (10 + v1) ≤ 6 := Q_10 hQ (i := v1) (by omega) (by omega)
        refine ok_iaload (v := (q (10 + v1))) (pc' := 17) i202_16 (ShModel_k3 hS448) (by decide) (ShModel_l3 hS448) (by omega) (rd_na (by omega) (RepO_3 hO (by omega) (by omega))) rfl <| ok_iconst (pc' := 18) i202_17 rfl <| ok_isub (v := ((q (10 + v1)) - 1)) (pc' := 19) i202_18 rfl rfl <| ok_cc i202_19 rfl (cl_s o202 m9_140 na164 rfl rfl (bt rfl) (bt rfl) rfl) ln164 (pd164 (aI v2) (aI 0) (aI ((q (10 + v1)) - 1))) <| ok_iloadn (pc' := 1) i164_0 rfl rfl <| ok_iloadn (pc' := 2) i164_1 rfl rfl <| ?_
        refine ok_clt (pc1 := 14) (pc2 := 5) i164_2 (by omega) rfl rfl (fun h507 => ?_) (fun h9 => by exfalso; omega)
        refine ok_iconst (pc' := 15) i164_14 rfl <| ok_iretz i164_15 rt164 (by decide) <| kt_v (pc' := 22) rfl <| ok_kz0 (pc1 := 29) (pc2 := 25) i202_22 (by decide) rfl rfl <| ok_iconst (pc' := 26) i202_25 rfl <| ok_goto (pc' := 30) i202_26 rfl <| ok_iconst (pc' := 31) i202_30 rfl <| ok_cc i202_31 rfl (cl_v o202 m9_70 na165 rfl rfl (bt rfl) (bt rfl) rfl (by rw [ShModel_k0 hS448, o165])) ln165 (pd165 (aR 448) (aI 1) (aI 2)) <| ?_
        refine ok_aloadn (pc' := 1) i165_0 rfl rfl <| ok_getfi (v := 0) (pc' := 4) i165_1 o165 gi9_63 (ShModel_k0 hS448) rd_eq rfl <| ok_kz0 (pc1 := 16) (pc2 := 7) i165_4 (by decide) rfl rfl <| ok_iloadn (pc' := 8) i165_7 rfl rfl <| ok_kz0 (pc1 := 16) (pc2 := 11) i165_8 (by decide) rfl rfl <| ok_aloadn (pc' := 12) i165_11 rfl rfl <| ok_iloadn (pc' := 13) i165_12 rfl rfl <| ok_putfj (kk := 0) (pc' := 16) i165_13 o165 pi165_63 (ShModel_k0 hS448) rfl rfl <| ?_
        refine ok_aloadn (pc' := 17) i165_16 rfl rfl <| ok_getfi (v := 2) (pc' := 20) i165_17 o165 gi9_63 (ShModel_k0 hS448) rd_eq rfl <| ok_kz0 (pc1 := 27) (pc2 := 23) i165_20 (by decide) rfl rfl <| ok_iconst (pc' := 24) i165_23 rfl <| ok_goto (pc' := 28) i165_24 rfl <| ok_iretz i165_28 rt165 (by decide) <| kt_v (pc' := 34) rfl <| ok_kz0 (pc1 := 41) (pc2 := 37) i202_34 (by decide) rfl rfl <| ?_
        refine ok_iconst (pc' := 38) i202_37 rfl <| ok_goto (pc' := 52) i202_38 rfl <| ok_ireti i202_52 rt202 <| kt_v (pc' := 836) rfl <| ok_istore (pc' := 838) (ls' := [aR 1, aR 100, aR 448, aR 464, aR 465, aI i, aI 2, aI 0, w8]) i0_836 (bt rfl) rfl rfl <| ok_aloadn (pc' := 839) i0_838 rfl rfl <| ok_cc i0_839 rfl (cl_v o0 m13_188 na157 rfl rfl (bt rfl) (bt rfl) rfl (by rw [ShModel_k0 hS448, o157])) ln157 (pd157 (aR 448)) <| ok_aloadn (pc' := 1) i157_0 rfl rfl <| ?_
        refine ok_getfi (v := 2) (pc' := 4) i157_1 o157 gi9_63 (ShModel_k0 hS448) rd_eq rfl <| ok_ireti i157_4 rt157 <| kt_v (pc' := 842) rfl <| ok_iload (pc' := 844) i0_842 rfl rfl <| ok_kc1 (pc1 := 849) (pc2 := 847) i0_844 (by decide) rfl rfl <| ok_iload (pc' := 851) i0_849 rfl rfl <| ok_kz1 (pc1 := 866) (pc2 := 854) i0_851 (by decide) rfl rfl <| ok_goto (pc' := 3329) i0_866 rfl <| ?_
        exact K _ _ _ _ _ _ hD (by omega) (Inv_mono (Inv_same hI (Same.thr (Same.thr Same.rfl))) (by omega))
      · refine ok_iloadn (pc' := 14) i109_13 rfl rfl <| ok_aloadn (pc' := 15) i109_14 rfl rfl <| ok_getfr (r := 138) (pc' := 18) i109_15 o109 gr0_32 (ShYard_k0 hS100) (ShYard_r7 hS100) rfl <| ok_getfr (r := (138 + 3)) (pc' := 21) i109_18 o109 gr0_189 (ShPlan_k0 hS138) (ShPlan_r4 hS138) rfl <| ok_iloadn (pc' := 22) i109_21 rfl rfl <| ?_
        have z302 : 1 ≤ q (10 + v1) ∧ q (10 + v1) ≤ 6 := Q_10 hQ (i := v1) (by omega) (by omega)
        refine ok_iaload (v := (q (10 + v1))) (pc' := 23) i109_22 (ShPlan_k3 hS138) (by decide) (ShPlan_l3 hS138) (by omega) (RepP_3 hP (by omega) (by omega)) rfl <| ?_
        refine ok_clt (pc1 := 36) (pc2 := 26) i109_23 (by omega) rfl rfl (fun h508 => ?_) (fun h508 => ?_)
        · refine ok_aloadn (pc' := 37) i109_36 rfl rfl <| ok_getfr (r := 138) (pc' := 40) i109_37 o109 gr0_32 (ShYard_k0 hS100) (ShYard_r7 hS100) rfl <| ok_getfr (r := (138 + 4)) (pc' := 43) i109_40 o109 gr0_194 (ShPlan_k0 hS138) (ShPlan_r5 hS138) rfl <| ok_iloadn (pc' := 44) i109_43 rfl rfl <| ok_aaload (r := (138 + 5 + v1.toNat)) (pc' := 45) i109_44 (ShPlan_k4 hS138) (by decide) (ShPlan_l4 hS138) (by omega) (ShPlan_ev4 hS138 (by omega) (by omega)) rfl <| ok_iloadn (pc' := 46) i109_45 rfl rfl <| ?_
          have z303 : 1 ≤ q (16 + ((6 * v1) + v2)) ∧ q (16 + ((6 * v1) + v2)) ≤ 200 := Q_16 hQ (w := v1) (i := v2) (by omega) (by omega) (by omega) (by omega)
          refine ok_iaload (v := (q (16 + ((6 * v1) + v2)))) (pc' := 47) i109_46 (ShPlan_kv4 hS138 (by omega) (by omega)) (by decide) (ShPlan_lv4 hS138 (by omega) (by omega)) (by omega) (RepP_pv hP (by omega) (by omega) (by omega) (by omega) (by omega)) rfl <| ok_ireti i109_47 rt109 <| kt_v (pc' := 8) rfl <| ok_i2l (v := (wr (q (16 + ((6 * v1) + v2))))) (pc' := 9) i285_8 rfl rfl <| ok_lastore (pc' := 10) i285_9 (ShOut_k0 hS464) (ShOut_l0 hS464) (by decide) rfl <| ok_goto (pc' := 21) i285_10 rfl <| ok_iconst (pc' := 22) i285_21 rfl <| ok_ireti i285_22 rt285 <| ?_
          refine kt_v (pc' := 818) rfl <| ok_istore (pc' := 820) (ls' := [aR 1, aR 100, aR 448, aR 464, aR 465, aI i, aI 0, w7, w8]) i0_818 (bt rfl) rfl rfl <| ok_aloadn (pc' := 821) i0_820 rfl rfl <| ok_aloadn (pc' := 822) i0_821 rfl rfl <| ok_iload (pc' := 824) i0_822 rfl rfl <| ok_iconst (pc' := 825) i0_824 rfl <| ok_iadd (v := (i + 1)) (pc' := 826) i0_825 rfl rfl <| ok_iaload (v := v1) (pc' := 827) i0_826 (ShScr_k0 hS1) (by decide) (ShScr_l0 hS1) (by omega) (rd_na (by omega) hv1) rfl <| ?_
          refine ok_aloadn (pc' := 828) i0_827 rfl rfl <| ok_iload (pc' := 830) i0_828 rfl rfl <| ok_iconst (pc' := 831) i0_830 rfl <| ok_iadd (v := (i + 2)) (pc' := 832) i0_831 rfl rfl <| ok_iaload (v := v2) (pc' := 833) i0_832 (ShScr_k0 hS1) (by decide) (ShScr_l0 hS1) (by omega) (rd_na (by omega) hv2) rfl <| ok_cc i0_833 rfl (cl_v o0 m13_226 na202 rfl rfl (bt rfl) (bt rfl) rfl (by rw [ShModel_k0 hS448, o202])) ln202 (pd202 (aR 448) (aI v1) (aI v2)) <| ok_aloadn (pc' := 1) i202_0 rfl rfl <| ok_iloadn (pc' := 2) i202_1 rfl rfl <| ?_
          refine ok_cc i202_2 rfl (cl_v o202 m9_223 na201 rfl rfl (bt rfl) (bt rfl) rfl (by rw [ShModel_k0 hS448, o201])) ln201 (pd201 (aR 448) (aI v1)) <| ok_aloadn (pc' := 1) i201_0 rfl rfl <| ok_cc i201_1 rfl (cl_v o201 m9_216 na188 rfl rfl (bt rfl) (bt rfl) rfl (by rw [ShModel_k0 hS448, o188])) ln188 (pd188 (aR 448)) <| ok_aloadn (pc' := 1) i188_0 rfl rfl <| ok_iconst (pc' := 2) i188_1 rfl <| ok_putfj (kk := 0) (pc' := 5) i188_2 o188 pi188_63 (ShModel_k0 hS448) rfl rfl <| ok_aloadn (pc' := 6) i188_5 rfl rfl <| ok_aloadn (pc' := 7) i188_6 rfl rfl <| ?_
          refine ok_getfi (v := 1) (pc' := 10) i188_7 o188 gi9_66 (ShModel_k0 hS448) (rd_ni (by decide) (rd_na (by omega) (hld.trans hl))) rfl <| ok_kz1 (pc1 := 17) (pc2 := 13) i188_10 (by decide) rfl rfl <| ok_iconst (pc' := 18) i188_17 rfl <| ok_iconst (pc' := 19) i188_18 rfl <| ok_cc i188_19 rfl (cl_v o188 m9_70 na165 rfl rfl (bt rfl) (bt rfl) rfl (by rw [ShModel_k0 hS448, o165])) ln165 (pd165 (aR 448) (aI 0) (aI 1)) <| ok_aloadn (pc' := 1) i165_0 rfl rfl <| ok_getfi (v := 0) (pc' := 4) i165_1 o165 gi9_63 (ShModel_k0 hS448) rd_eq rfl <| ok_kz0 (pc1 := 16) (pc2 := 7) i165_4 (by decide) rfl rfl <| ?_
          refine ok_iloadn (pc' := 8) i165_7 rfl rfl <| ok_kz1 (pc1 := 16) (pc2 := 11) i165_8 (by decide) rfl rfl <| ok_aloadn (pc' := 17) i165_16 rfl rfl <| ok_getfi (v := 0) (pc' := 20) i165_17 o165 gi9_63 (ShModel_k0 hS448) rd_eq rfl <| ok_kz1 (pc1 := 27) (pc2 := 23) i165_20 (by decide) rfl rfl <| ok_iconst (pc' := 28) i165_27 rfl <| ok_iretz i165_28 rt165 (by decide) <| kt_v (pc' := 22) rfl <| ?_
          refine ok_iretz i188_22 rt188 (by decide) <| kt_v (pc' := 4) rfl <| ok_kz0 (pc1 := 34) (pc2 := 7) i201_4 (by decide) rfl rfl <| ok_aloadn (pc' := 8) i201_7 rfl rfl <| ok_iloadn (pc' := 9) i201_8 rfl rfl <| ok_iconst (pc' := 10) i201_9 rfl <| ok_aloadn (pc' := 11) i201_10 rfl rfl <| ok_getfi (v := (q 1)) (pc' := 14) i201_11 o201 gi9_206 (ShModel_k0 hS448) (rd_ni (by decide) (rd_na (by omega) (RepO_f3 hO))) rfl <| ?_
          refine ok_iconst (pc' := 15) i201_14 rfl <| ok_isub (v := ((q 1) - 1)) (pc' := 16) i201_15 rfl rfl <| ok_cc i201_16 rfl (cl_s o201 m9_140 na164 rfl rfl (bt rfl) (bt rfl) rfl) ln164 (pd164 (aI v1) (aI 0) (aI ((q 1) - 1))) <| ok_iloadn (pc' := 1) i164_0 rfl rfl <| ok_iloadn (pc' := 2) i164_1 rfl rfl <| ?_
          refine ok_clt (pc1 := 14) (pc2 := 5) i164_2 (by omega) rfl rfl (fun h9 => by exfalso; omega) (fun h509 => ?_)
          refine ok_iloadn (pc' := 6) i164_5 rfl rfl <| ok_iloadn (pc' := 7) i164_6 rfl rfl <| ?_
          refine ok_cgt (pc1 := 14) (pc2 := 10) i164_7 (by omega) rfl rfl (fun h9 => by exfalso; omega) (fun h510 => ?_)
          refine ok_iconst (pc' := 11) i164_10 rfl <| ok_goto (pc' := 15) i164_11 rfl <| ok_iretz i164_15 rt164 (by decide) <| kt_v (pc' := 19) rfl <| ok_kz1 (pc1 := 26) (pc2 := 22) i201_19 (by decide) rfl rfl <| ok_iconst (pc' := 27) i201_26 rfl <| ok_iconst (pc' := 28) i201_27 rfl <| ok_cc i201_28 rfl (cl_v o201 m9_70 na165 rfl rfl (bt rfl) (bt rfl) rfl (by rw [ShModel_k0 hS448, o165])) ln165 (pd165 (aR 448) (aI 0) (aI 2)) <| ?_
          refine ok_aloadn (pc' := 1) i165_0 rfl rfl <| ok_getfi (v := 0) (pc' := 4) i165_1 o165 gi9_63 (ShModel_k0 hS448) rd_eq rfl <| ok_kz0 (pc1 := 16) (pc2 := 7) i165_4 (by decide) rfl rfl <| ok_iloadn (pc' := 8) i165_7 rfl rfl <| ok_kz1 (pc1 := 16) (pc2 := 11) i165_8 (by decide) rfl rfl <| ok_aloadn (pc' := 17) i165_16 rfl rfl <| ok_getfi (v := 0) (pc' := 20) i165_17 o165 gi9_63 (ShModel_k0 hS448) rd_eq rfl <| ok_kz1 (pc1 := 27) (pc2 := 23) i165_20 (by decide) rfl rfl <| ?_
          refine ok_iconst (pc' := 28) i165_27 rfl <| ok_iretz i165_28 rt165 (by decide) <| kt_v (pc' := 31) rfl <| ok_kz1 (pc1 := 38) (pc2 := 34) i201_31 (by decide) rfl rfl <| ok_iconst (pc' := 39) i201_38 rfl <| ok_iretz i201_39 rt201 (by decide) <| kt_v (pc' := 5) rfl <| ok_kz0 (pc1 := 37) (pc2 := 8) i202_5 (by decide) rfl rfl <| ?_
          refine ok_aloadn (pc' := 9) i202_8 rfl rfl <| ok_iloadn (pc' := 10) i202_9 rfl rfl <| ok_iconst (pc' := 11) i202_10 rfl <| ok_aloadn (pc' := 12) i202_11 rfl rfl <| ok_getfr (r := (448 + 3)) (pc' := 15) i202_12 o202 gr9_16 (ShModel_k0 hS448) (ShModel_r6 hS448) rfl <| ok_iloadn (pc' := 16) i202_15 rfl rfl <| ok_iaload (v := (q (10 + v1))) (pc' := 17) i202_16 (ShModel_k3 hS448) (by decide) (ShModel_l3 hS448) (by omega) (rd_na (by omega) (rd_na (by omega) (RepO_3 hO (by omega) (by omega)))) rfl <| ok_iconst (pc' := 18) i202_17 rfl <| ?_
          refine ok_isub (v := ((q (10 + v1)) - 1)) (pc' := 19) i202_18 rfl rfl <| ok_cc i202_19 rfl (cl_s o202 m9_140 na164 rfl rfl (bt rfl) (bt rfl) rfl) ln164 (pd164 (aI v2) (aI 0) (aI ((q (10 + v1)) - 1))) <| ok_iloadn (pc' := 1) i164_0 rfl rfl <| ok_iloadn (pc' := 2) i164_1 rfl rfl <| ?_
          refine ok_clt (pc1 := 14) (pc2 := 5) i164_2 (by omega) rfl rfl (fun h9 => by exfalso; omega) (fun h511 => ?_)
          refine ok_iloadn (pc' := 6) i164_5 rfl rfl <| ok_iloadn (pc' := 7) i164_6 rfl rfl <| ?_
          refine ok_cgt (pc1 := 14) (pc2 := 10) i164_7 (by omega) rfl rfl (fun h9 => by exfalso; omega) (fun h512 => ?_)
          refine ok_iconst (pc' := 11) i164_10 rfl <| ok_goto (pc' := 15) i164_11 rfl <| ok_iretz i164_15 rt164 (by decide) <| kt_v (pc' := 22) rfl <| ok_kz1 (pc1 := 29) (pc2 := 25) i202_22 (by decide) rfl rfl <| ok_iconst (pc' := 30) i202_29 rfl <| ok_iconst (pc' := 31) i202_30 rfl <| ok_cc i202_31 rfl (cl_v o202 m9_70 na165 rfl rfl (bt rfl) (bt rfl) rfl (by rw [ShModel_k0 hS448, o165])) ln165 (pd165 (aR 448) (aI 0) (aI 2)) <| ?_
          refine ok_aloadn (pc' := 1) i165_0 rfl rfl <| ok_getfi (v := 0) (pc' := 4) i165_1 o165 gi9_63 (ShModel_k0 hS448) rd_eq rfl <| ok_kz0 (pc1 := 16) (pc2 := 7) i165_4 (by decide) rfl rfl <| ok_iloadn (pc' := 8) i165_7 rfl rfl <| ok_kz1 (pc1 := 16) (pc2 := 11) i165_8 (by decide) rfl rfl <| ok_aloadn (pc' := 17) i165_16 rfl rfl <| ok_getfi (v := 0) (pc' := 20) i165_17 o165 gi9_63 (ShModel_k0 hS448) rd_eq rfl <| ok_kz1 (pc1 := 27) (pc2 := 23) i165_20 (by decide) rfl rfl <| ?_
          refine ok_iconst (pc' := 28) i165_27 rfl <| ok_iretz i165_28 rt165 (by decide) <| kt_v (pc' := 34) rfl <| ok_kz1 (pc1 := 41) (pc2 := 37) i202_34 (by decide) rfl rfl <| ok_aloadn (pc' := 42) i202_41 rfl rfl <| ok_getfr (r := (448 + 4)) (pc' := 45) i202_42 o202 gr9_19 (ShModel_k0 hS448) (ShModel_r7 hS448) rfl <| ok_bipush (v := 6) (pc' := 47) i202_45 rfl rfl <| ok_iloadn (pc' := 48) i202_47 rfl rfl <| ?_
          refine ok_imul (v := (6 * v1)) (pc' := 49) i202_48 rfl rfl <| ok_iloadn (pc' := 50) i202_49 rfl rfl <| ok_iadd (v := ((6 * v1) + v2)) (pc' := 51) i202_50 rfl rfl <| ok_iaload (v := (q (16 + ((6 * v1) + v2)))) (pc' := 52) i202_51 (ShModel_k4 hS448) (by decide) (ShModel_l4 hS448) (by omega) (rd_na (by omega) (rd_na (by omega) (RepO_4 hO (w := v1) (i := v2) (by omega) (by omega) (by omega) (by omega) (by omega)))) rfl <| ok_ireti i202_52 rt202 <| kt_v (pc' := 836) rfl <| ok_istore (pc' := 838) (ls' := [aR 1, aR 100, aR 448, aR 464, aR 465, aI i, aI 0, aI (q (16 + ((6 * v1) + v2))), w8]) i0_836 (bt rfl) rfl rfl <| ok_aloadn (pc' := 839) i0_838 rfl rfl <| ?_
          refine ok_cc i0_839 rfl (cl_v o0 m13_188 na157 rfl rfl (bt rfl) (bt rfl) rfl (by rw [ShModel_k0 hS448, o157])) ln157 (pd157 (aR 448)) <| ok_aloadn (pc' := 1) i157_0 rfl rfl <| ok_getfi (v := 0) (pc' := 4) i157_1 o157 gi9_63 (ShModel_k0 hS448) rd_eq rfl <| ok_ireti i157_4 rt157 <| kt_v (pc' := 842) rfl <| ok_iload (pc' := 844) i0_842 rfl rfl <| ok_kc1 (pc1 := 849) (pc2 := 847) i0_844 (by decide) rfl rfl <| ok_iload (pc' := 851) i0_849 rfl rfl <| ?_
          refine ok_kz0 (pc1 := 866) (pc2 := 854) i0_851 (by decide) rfl rfl <| ok_aloadn (pc' := 855) i0_854 rfl rfl <| ok_iconst (pc' := 856) i0_855 rfl <| ok_laload (v := (wr (q (16 + ((6 * v1) + v2))))) (pc' := 857) i0_856 (ShOut_k0 hS464) (ShOut_l0 hS464) (by decide) (rd_na (by omega) rd_eq) rfl <| ok_iload (pc' := 859) i0_857 rfl rfl <| ok_i2l (v := (wr (q (16 + ((6 * v1) + v2))))) (pc' := 860) i0_859 rfl rfl <| ok_lcmp0 (pc' := 861) i0_860 rfl <| ok_kz1 (pc1 := 866) (pc2 := 864) i0_861 (by decide) rfl rfl <| ?_
          refine ok_goto (pc' := 3329) i0_866 rfl <| ?_
          exact K _ _ _ _ _ _ hD (by omega) (Inv_mono (Inv_same hI (Same.thr (Same.out Same.rfl))) (by omega))
        · refine ok_throw th109_26 (bt rfl) <| kt_h hn285 hf285_5_10 hr285_17 <| kt_v (pc' := 818) rfl <| ?_
          refine ok_al hD (fun g hD => ?_)
          have hS448 := HD_o hD
          have hS1 := HD_s hD
          have hS464 := HD_u hD
          have hS465 := HD_ud hD
          refine ok_istore (pc' := 820) (ls' := [aR 1, aR 100, aR 448, aR 464, aR 465, aI i, aI 2, w7, w8]) i0_818 (bt rfl) rfl rfl <| ok_aloadn (pc' := 821) i0_820 rfl rfl <| ok_aloadn (pc' := 822) i0_821 rfl rfl <| ok_iload (pc' := 824) i0_822 rfl rfl <| ok_iconst (pc' := 825) i0_824 rfl <| ok_iadd (v := (i + 1)) (pc' := 826) i0_825 rfl rfl <| ok_iaload (v := v1) (pc' := 827) i0_826 (ShScr_k0 hS1) (by decide) (ShScr_l0 hS1) (by omega) hv1 rfl <| ok_aloadn (pc' := 828) i0_827 rfl rfl <| ?_
          refine ok_iload (pc' := 830) i0_828 rfl rfl <| ok_iconst (pc' := 831) i0_830 rfl <| ok_iadd (v := (i + 2)) (pc' := 832) i0_831 rfl rfl <| ok_iaload (v := v2) (pc' := 833) i0_832 (ShScr_k0 hS1) (by decide) (ShScr_l0 hS1) (by omega) hv2 rfl <| ok_cc i0_833 rfl (cl_v o0 m13_226 na202 rfl rfl (bt rfl) (bt rfl) rfl (by rw [ShModel_k0 hS448, o202])) ln202 (pd202 (aR 448) (aI v1) (aI v2)) <| ok_aloadn (pc' := 1) i202_0 rfl rfl <| ok_iloadn (pc' := 2) i202_1 rfl rfl <| ok_cc i202_2 rfl (cl_v o202 m9_223 na201 rfl rfl (bt rfl) (bt rfl) rfl (by rw [ShModel_k0 hS448, o201])) ln201 (pd201 (aR 448) (aI v1)) <| ?_
          refine ok_aloadn (pc' := 1) i201_0 rfl rfl <| ok_cc i201_1 rfl (cl_v o201 m9_216 na188 rfl rfl (bt rfl) (bt rfl) rfl (by rw [ShModel_k0 hS448, o188])) ln188 (pd188 (aR 448)) <| ok_aloadn (pc' := 1) i188_0 rfl rfl <| ok_iconst (pc' := 2) i188_1 rfl <| ok_putfj (kk := 0) (pc' := 5) i188_2 o188 pi188_63 (ShModel_k0 hS448) rfl rfl <| ok_aloadn (pc' := 6) i188_5 rfl rfl <| ok_aloadn (pc' := 7) i188_6 rfl rfl <| ok_getfi (v := 1) (pc' := 10) i188_7 o188 gi9_66 (ShModel_k0 hS448) (rd_ni (by decide) (hld.trans hl)) rfl <| ?_
          refine ok_kz1 (pc1 := 17) (pc2 := 13) i188_10 (by decide) rfl rfl <| ok_iconst (pc' := 18) i188_17 rfl <| ok_iconst (pc' := 19) i188_18 rfl <| ok_cc i188_19 rfl (cl_v o188 m9_70 na165 rfl rfl (bt rfl) (bt rfl) rfl (by rw [ShModel_k0 hS448, o165])) ln165 (pd165 (aR 448) (aI 0) (aI 1)) <| ok_aloadn (pc' := 1) i165_0 rfl rfl <| ok_getfi (v := 0) (pc' := 4) i165_1 o165 gi9_63 (ShModel_k0 hS448) rd_eq rfl <| ok_kz0 (pc1 := 16) (pc2 := 7) i165_4 (by decide) rfl rfl <| ok_iloadn (pc' := 8) i165_7 rfl rfl <| ?_
          refine ok_kz1 (pc1 := 16) (pc2 := 11) i165_8 (by decide) rfl rfl <| ok_aloadn (pc' := 17) i165_16 rfl rfl <| ok_getfi (v := 0) (pc' := 20) i165_17 o165 gi9_63 (ShModel_k0 hS448) rd_eq rfl <| ok_kz1 (pc1 := 27) (pc2 := 23) i165_20 (by decide) rfl rfl <| ok_iconst (pc' := 28) i165_27 rfl <| ok_iretz i165_28 rt165 (by decide) <| kt_v (pc' := 22) rfl <| ok_iretz i188_22 rt188 (by decide) <| ?_
          refine kt_v (pc' := 4) rfl <| ok_kz0 (pc1 := 34) (pc2 := 7) i201_4 (by decide) rfl rfl <| ok_aloadn (pc' := 8) i201_7 rfl rfl <| ok_iloadn (pc' := 9) i201_8 rfl rfl <| ok_iconst (pc' := 10) i201_9 rfl <| ok_aloadn (pc' := 11) i201_10 rfl rfl <| ok_getfi (v := (q 1)) (pc' := 14) i201_11 o201 gi9_206 (ShModel_k0 hS448) (rd_ni (by decide) (RepO_f3 hO)) rfl <| ok_iconst (pc' := 15) i201_14 rfl <| ?_
          refine ok_isub (v := ((q 1) - 1)) (pc' := 16) i201_15 rfl rfl <| ok_cc i201_16 rfl (cl_s o201 m9_140 na164 rfl rfl (bt rfl) (bt rfl) rfl) ln164 (pd164 (aI v1) (aI 0) (aI ((q 1) - 1))) <| ok_iloadn (pc' := 1) i164_0 rfl rfl <| ok_iloadn (pc' := 2) i164_1 rfl rfl <| ?_
          refine ok_clt (pc1 := 14) (pc2 := 5) i164_2 (by omega) rfl rfl (fun h9 => by exfalso; omega) (fun h513 => ?_)
          refine ok_iloadn (pc' := 6) i164_5 rfl rfl <| ok_iloadn (pc' := 7) i164_6 rfl rfl <| ?_
          refine ok_cgt (pc1 := 14) (pc2 := 10) i164_7 (by omega) rfl rfl (fun h9 => by exfalso; omega) (fun h514 => ?_)
          refine ok_iconst (pc' := 11) i164_10 rfl <| ok_goto (pc' := 15) i164_11 rfl <| ok_iretz i164_15 rt164 (by decide) <| kt_v (pc' := 19) rfl <| ok_kz1 (pc1 := 26) (pc2 := 22) i201_19 (by decide) rfl rfl <| ok_iconst (pc' := 27) i201_26 rfl <| ok_iconst (pc' := 28) i201_27 rfl <| ok_cc i201_28 rfl (cl_v o201 m9_70 na165 rfl rfl (bt rfl) (bt rfl) rfl (by rw [ShModel_k0 hS448, o165])) ln165 (pd165 (aR 448) (aI 0) (aI 2)) <| ?_
          refine ok_aloadn (pc' := 1) i165_0 rfl rfl <| ok_getfi (v := 0) (pc' := 4) i165_1 o165 gi9_63 (ShModel_k0 hS448) rd_eq rfl <| ok_kz0 (pc1 := 16) (pc2 := 7) i165_4 (by decide) rfl rfl <| ok_iloadn (pc' := 8) i165_7 rfl rfl <| ok_kz1 (pc1 := 16) (pc2 := 11) i165_8 (by decide) rfl rfl <| ok_aloadn (pc' := 17) i165_16 rfl rfl <| ok_getfi (v := 0) (pc' := 20) i165_17 o165 gi9_63 (ShModel_k0 hS448) rd_eq rfl <| ok_kz1 (pc1 := 27) (pc2 := 23) i165_20 (by decide) rfl rfl <| ?_
          refine ok_iconst (pc' := 28) i165_27 rfl <| ok_iretz i165_28 rt165 (by decide) <| kt_v (pc' := 31) rfl <| ok_kz1 (pc1 := 38) (pc2 := 34) i201_31 (by decide) rfl rfl <| ok_iconst (pc' := 39) i201_38 rfl <| ok_iretz i201_39 rt201 (by decide) <| kt_v (pc' := 5) rfl <| ok_kz0 (pc1 := 37) (pc2 := 8) i202_5 (by decide) rfl rfl <| ?_
          refine ok_aloadn (pc' := 9) i202_8 rfl rfl <| ok_iloadn (pc' := 10) i202_9 rfl rfl <| ok_iconst (pc' := 11) i202_10 rfl <| ok_aloadn (pc' := 12) i202_11 rfl rfl <| ok_getfr (r := (448 + 3)) (pc' := 15) i202_12 o202 gr9_16 (ShModel_k0 hS448) (ShModel_r6 hS448) rfl <| ok_iloadn (pc' := 16) i202_15 rfl rfl <| ok_iaload (v := (q (10 + v1))) (pc' := 17) i202_16 (ShModel_k3 hS448) (by decide) (ShModel_l3 hS448) (by omega) (rd_na (by omega) (RepO_3 hO (by omega) (by omega))) rfl <| ok_iconst (pc' := 18) i202_17 rfl <| ?_
          refine ok_isub (v := ((q (10 + v1)) - 1)) (pc' := 19) i202_18 rfl rfl <| ok_cc i202_19 rfl (cl_s o202 m9_140 na164 rfl rfl (bt rfl) (bt rfl) rfl) ln164 (pd164 (aI v2) (aI 0) (aI ((q (10 + v1)) - 1))) <| ok_iloadn (pc' := 1) i164_0 rfl rfl <| ok_iloadn (pc' := 2) i164_1 rfl rfl <| ?_
          refine ok_clt (pc1 := 14) (pc2 := 5) i164_2 (by omega) rfl rfl (fun h9 => by exfalso; omega) (fun h515 => ?_)
          refine ok_iloadn (pc' := 6) i164_5 rfl rfl <| ok_iloadn (pc' := 7) i164_6 rfl rfl <| ?_
          refine ok_cgt (pc1 := 14) (pc2 := 10) i164_7 (by omega) rfl rfl (fun h516 => ?_) (fun h9 => by exfalso; omega)
          refine ok_iconst (pc' := 15) i164_14 rfl <| ok_iretz i164_15 rt164 (by decide) <| kt_v (pc' := 22) rfl <| ok_kz0 (pc1 := 29) (pc2 := 25) i202_22 (by decide) rfl rfl <| ok_iconst (pc' := 26) i202_25 rfl <| ok_goto (pc' := 30) i202_26 rfl <| ok_iconst (pc' := 31) i202_30 rfl <| ok_cc i202_31 rfl (cl_v o202 m9_70 na165 rfl rfl (bt rfl) (bt rfl) rfl (by rw [ShModel_k0 hS448, o165])) ln165 (pd165 (aR 448) (aI 1) (aI 2)) <| ?_
          refine ok_aloadn (pc' := 1) i165_0 rfl rfl <| ok_getfi (v := 0) (pc' := 4) i165_1 o165 gi9_63 (ShModel_k0 hS448) rd_eq rfl <| ok_kz0 (pc1 := 16) (pc2 := 7) i165_4 (by decide) rfl rfl <| ok_iloadn (pc' := 8) i165_7 rfl rfl <| ok_kz0 (pc1 := 16) (pc2 := 11) i165_8 (by decide) rfl rfl <| ok_aloadn (pc' := 12) i165_11 rfl rfl <| ok_iloadn (pc' := 13) i165_12 rfl rfl <| ok_putfj (kk := 0) (pc' := 16) i165_13 o165 pi165_63 (ShModel_k0 hS448) rfl rfl <| ?_
          refine ok_aloadn (pc' := 17) i165_16 rfl rfl <| ok_getfi (v := 2) (pc' := 20) i165_17 o165 gi9_63 (ShModel_k0 hS448) rd_eq rfl <| ok_kz0 (pc1 := 27) (pc2 := 23) i165_20 (by decide) rfl rfl <| ok_iconst (pc' := 24) i165_23 rfl <| ok_goto (pc' := 28) i165_24 rfl <| ok_iretz i165_28 rt165 (by decide) <| kt_v (pc' := 34) rfl <| ok_kz0 (pc1 := 41) (pc2 := 37) i202_34 (by decide) rfl rfl <| ?_
          refine ok_iconst (pc' := 38) i202_37 rfl <| ok_goto (pc' := 52) i202_38 rfl <| ok_ireti i202_52 rt202 <| kt_v (pc' := 836) rfl <| ok_istore (pc' := 838) (ls' := [aR 1, aR 100, aR 448, aR 464, aR 465, aI i, aI 2, aI 0, w8]) i0_836 (bt rfl) rfl rfl <| ok_aloadn (pc' := 839) i0_838 rfl rfl <| ok_cc i0_839 rfl (cl_v o0 m13_188 na157 rfl rfl (bt rfl) (bt rfl) rfl (by rw [ShModel_k0 hS448, o157])) ln157 (pd157 (aR 448)) <| ok_aloadn (pc' := 1) i157_0 rfl rfl <| ?_
          refine ok_getfi (v := 2) (pc' := 4) i157_1 o157 gi9_63 (ShModel_k0 hS448) rd_eq rfl <| ok_ireti i157_4 rt157 <| kt_v (pc' := 842) rfl <| ok_iload (pc' := 844) i0_842 rfl rfl <| ok_kc1 (pc1 := 849) (pc2 := 847) i0_844 (by decide) rfl rfl <| ok_iload (pc' := 851) i0_849 rfl rfl <| ok_kz1 (pc1 := 866) (pc2 := 854) i0_851 (by decide) rfl rfl <| ok_goto (pc' := 3329) i0_866 rfl <| ?_
          exact K _ _ _ _ _ _ hD (by omega) (Inv_mono (Inv_same hI (Same.thr (Same.thr Same.rfl))) (by omega))
    · refine ok_throw th108_15 (bt rfl) <| kt_x hh109 <| kt_h hn285 hf285_5_10 hr285_17 <| kt_v (pc' := 818) rfl <| ?_
      refine ok_al hD (fun g hD => ?_)
      have hS448 := HD_o hD
      have hS1 := HD_s hD
      have hS464 := HD_u hD
      have hS465 := HD_ud hD
      refine ok_istore (pc' := 820) (ls' := [aR 1, aR 100, aR 448, aR 464, aR 465, aI i, aI 2, w7, w8]) i0_818 (bt rfl) rfl rfl <| ok_aloadn (pc' := 821) i0_820 rfl rfl <| ok_aloadn (pc' := 822) i0_821 rfl rfl <| ok_iload (pc' := 824) i0_822 rfl rfl <| ok_iconst (pc' := 825) i0_824 rfl <| ok_iadd (v := (i + 1)) (pc' := 826) i0_825 rfl rfl <| ok_iaload (v := v1) (pc' := 827) i0_826 (ShScr_k0 hS1) (by decide) (ShScr_l0 hS1) (by omega) hv1 rfl <| ok_aloadn (pc' := 828) i0_827 rfl rfl <| ?_
      refine ok_iload (pc' := 830) i0_828 rfl rfl <| ok_iconst (pc' := 831) i0_830 rfl <| ok_iadd (v := (i + 2)) (pc' := 832) i0_831 rfl rfl <| ok_iaload (v := v2) (pc' := 833) i0_832 (ShScr_k0 hS1) (by decide) (ShScr_l0 hS1) (by omega) hv2 rfl <| ok_cc i0_833 rfl (cl_v o0 m13_226 na202 rfl rfl (bt rfl) (bt rfl) rfl (by rw [ShModel_k0 hS448, o202])) ln202 (pd202 (aR 448) (aI v1) (aI v2)) <| ok_aloadn (pc' := 1) i202_0 rfl rfl <| ok_iloadn (pc' := 2) i202_1 rfl rfl <| ok_cc i202_2 rfl (cl_v o202 m9_223 na201 rfl rfl (bt rfl) (bt rfl) rfl (by rw [ShModel_k0 hS448, o201])) ln201 (pd201 (aR 448) (aI v1)) <| ?_
      refine ok_aloadn (pc' := 1) i201_0 rfl rfl <| ok_cc i201_1 rfl (cl_v o201 m9_216 na188 rfl rfl (bt rfl) (bt rfl) rfl (by rw [ShModel_k0 hS448, o188])) ln188 (pd188 (aR 448)) <| ok_aloadn (pc' := 1) i188_0 rfl rfl <| ok_iconst (pc' := 2) i188_1 rfl <| ok_putfj (kk := 0) (pc' := 5) i188_2 o188 pi188_63 (ShModel_k0 hS448) rfl rfl <| ok_aloadn (pc' := 6) i188_5 rfl rfl <| ok_aloadn (pc' := 7) i188_6 rfl rfl <| ok_getfi (v := 1) (pc' := 10) i188_7 o188 gi9_66 (ShModel_k0 hS448) (rd_ni (by decide) (hld.trans hl)) rfl <| ?_
      refine ok_kz1 (pc1 := 17) (pc2 := 13) i188_10 (by decide) rfl rfl <| ok_iconst (pc' := 18) i188_17 rfl <| ok_iconst (pc' := 19) i188_18 rfl <| ok_cc i188_19 rfl (cl_v o188 m9_70 na165 rfl rfl (bt rfl) (bt rfl) rfl (by rw [ShModel_k0 hS448, o165])) ln165 (pd165 (aR 448) (aI 0) (aI 1)) <| ok_aloadn (pc' := 1) i165_0 rfl rfl <| ok_getfi (v := 0) (pc' := 4) i165_1 o165 gi9_63 (ShModel_k0 hS448) rd_eq rfl <| ok_kz0 (pc1 := 16) (pc2 := 7) i165_4 (by decide) rfl rfl <| ok_iloadn (pc' := 8) i165_7 rfl rfl <| ?_
      refine ok_kz1 (pc1 := 16) (pc2 := 11) i165_8 (by decide) rfl rfl <| ok_aloadn (pc' := 17) i165_16 rfl rfl <| ok_getfi (v := 0) (pc' := 20) i165_17 o165 gi9_63 (ShModel_k0 hS448) rd_eq rfl <| ok_kz1 (pc1 := 27) (pc2 := 23) i165_20 (by decide) rfl rfl <| ok_iconst (pc' := 28) i165_27 rfl <| ok_iretz i165_28 rt165 (by decide) <| kt_v (pc' := 22) rfl <| ok_iretz i188_22 rt188 (by decide) <| ?_
      refine kt_v (pc' := 4) rfl <| ok_kz0 (pc1 := 34) (pc2 := 7) i201_4 (by decide) rfl rfl <| ok_aloadn (pc' := 8) i201_7 rfl rfl <| ok_iloadn (pc' := 9) i201_8 rfl rfl <| ok_iconst (pc' := 10) i201_9 rfl <| ok_aloadn (pc' := 11) i201_10 rfl rfl <| ok_getfi (v := (q 1)) (pc' := 14) i201_11 o201 gi9_206 (ShModel_k0 hS448) (rd_ni (by decide) (RepO_f3 hO)) rfl <| ok_iconst (pc' := 15) i201_14 rfl <| ?_
      refine ok_isub (v := ((q 1) - 1)) (pc' := 16) i201_15 rfl rfl <| ok_cc i201_16 rfl (cl_s o201 m9_140 na164 rfl rfl (bt rfl) (bt rfl) rfl) ln164 (pd164 (aI v1) (aI 0) (aI ((q 1) - 1))) <| ok_iloadn (pc' := 1) i164_0 rfl rfl <| ok_iloadn (pc' := 2) i164_1 rfl rfl <| ?_
      refine ok_clt (pc1 := 14) (pc2 := 5) i164_2 (by omega) rfl rfl (fun h9 => by exfalso; omega) (fun h517 => ?_)
      refine ok_iloadn (pc' := 6) i164_5 rfl rfl <| ok_iloadn (pc' := 7) i164_6 rfl rfl <| ?_
      refine ok_cgt (pc1 := 14) (pc2 := 10) i164_7 (by omega) rfl rfl (fun h518 => ?_) (fun h9 => by exfalso; omega)
      refine ok_iconst (pc' := 15) i164_14 rfl <| ok_iretz i164_15 rt164 (by decide) <| kt_v (pc' := 19) rfl <| ok_kz0 (pc1 := 26) (pc2 := 22) i201_19 (by decide) rfl rfl <| ok_iconst (pc' := 23) i201_22 rfl <| ok_goto (pc' := 27) i201_23 rfl <| ok_iconst (pc' := 28) i201_27 rfl <| ok_cc i201_28 rfl (cl_v o201 m9_70 na165 rfl rfl (bt rfl) (bt rfl) rfl (by rw [ShModel_k0 hS448, o165])) ln165 (pd165 (aR 448) (aI 1) (aI 2)) <| ?_
      refine ok_aloadn (pc' := 1) i165_0 rfl rfl <| ok_getfi (v := 0) (pc' := 4) i165_1 o165 gi9_63 (ShModel_k0 hS448) rd_eq rfl <| ok_kz0 (pc1 := 16) (pc2 := 7) i165_4 (by decide) rfl rfl <| ok_iloadn (pc' := 8) i165_7 rfl rfl <| ok_kz0 (pc1 := 16) (pc2 := 11) i165_8 (by decide) rfl rfl <| ok_aloadn (pc' := 12) i165_11 rfl rfl <| ok_iloadn (pc' := 13) i165_12 rfl rfl <| ok_putfj (kk := 0) (pc' := 16) i165_13 o165 pi165_63 (ShModel_k0 hS448) rfl rfl <| ?_
      refine ok_aloadn (pc' := 17) i165_16 rfl rfl <| ok_getfi (v := 2) (pc' := 20) i165_17 o165 gi9_63 (ShModel_k0 hS448) rd_eq rfl <| ok_kz0 (pc1 := 27) (pc2 := 23) i165_20 (by decide) rfl rfl <| ok_iconst (pc' := 24) i165_23 rfl <| ok_goto (pc' := 28) i165_24 rfl <| ok_iretz i165_28 rt165 (by decide) <| kt_v (pc' := 31) rfl <| ok_kz0 (pc1 := 38) (pc2 := 34) i201_31 (by decide) rfl rfl <| ?_
      refine ok_iconst (pc' := 35) i201_34 rfl <| ok_goto (pc' := 39) i201_35 rfl <| ok_iretz i201_39 rt201 (by decide) <| kt_v (pc' := 5) rfl <| ok_kz1 (pc1 := 37) (pc2 := 8) i202_5 (by decide) rfl rfl <| ok_iconst (pc' := 38) i202_37 rfl <| ok_goto (pc' := 52) i202_38 rfl <| ok_ireti i202_52 rt202 <| ?_
      refine kt_v (pc' := 836) rfl <| ok_istore (pc' := 838) (ls' := [aR 1, aR 100, aR 448, aR 464, aR 465, aI i, aI 2, aI 0, w8]) i0_836 (bt rfl) rfl rfl <| ok_aloadn (pc' := 839) i0_838 rfl rfl <| ok_cc i0_839 rfl (cl_v o0 m13_188 na157 rfl rfl (bt rfl) (bt rfl) rfl (by rw [ShModel_k0 hS448, o157])) ln157 (pd157 (aR 448)) <| ok_aloadn (pc' := 1) i157_0 rfl rfl <| ok_getfi (v := 2) (pc' := 4) i157_1 o157 gi9_63 (ShModel_k0 hS448) rd_eq rfl <| ok_ireti i157_4 rt157 <| kt_v (pc' := 842) rfl <| ?_
      refine ok_iload (pc' := 844) i0_842 rfl rfl <| ok_kc1 (pc1 := 849) (pc2 := 847) i0_844 (by decide) rfl rfl <| ok_iload (pc' := 851) i0_849 rfl rfl <| ok_kz1 (pc1 := 866) (pc2 := 854) i0_851 (by decide) rfl rfl <| ok_goto (pc' := 3329) i0_866 rfl <| ?_
      exact K _ _ _ _ _ _ hD (by omega) (Inv_mono (Inv_same hI (Same.thr (Same.thr Same.rfl))) (by omega))
theorem c11_0 {L n : Nat} {g : AG} {M : AM} {xs : Nat → Int32} {b i : Int} {w6 w7 w8 : AV} {Q : AO → AG → AM → Prop} (hD : HD L n g) (hI : Inv xs b M) (hi : 0 ≤ i ∧ i + 6 ≤ L) (hb : 0 ≤ b ∧ b ≤ 900000) (hl : M 100 6 = 0) (K : KK L n i b xs Q) :
    Ok 10 0 801 [aR 1, aR 100, aR 448, aR 464, aR 465, aI i, w6, w7, w8] [] g M Q := by
  have hI0 := hI
  obtain ⟨hA, hld, hl01, q, hc, ⟨nx, sz, hH, hsz⟩, hS⟩ := hI0
  have hH0 := hH
  obtain ⟨⟨hn1, hn0⟩, ⟨hz2, hz0⟩, h10, hHj⟩ := hH0
  obtain ⟨hw0, ⟨bu, by_, hb1, hb13, hbu, hZ, hU⟩, he3, he4, he5, hId, tx, hT, hUt, htl, htr⟩ := hA
  obtain ⟨v1, hv1⟩ : ∃ u9 : Int, M 1 (i + 1) = u9 := ⟨_, rfl⟩
  have hr1 : -2147483648 ≤ v1 ∧ v1 < 2147483648 := hv1 ▸ scr_rg hw0 (i + 1)
  obtain ⟨v2, hv2⟩ : ∃ u9 : Int, M 1 (i + 2) = u9 := ⟨_, rfl⟩
  have hr2 : -2147483648 ≤ v2 ∧ v2 < 2147483648 := hv2 ▸ scr_rg hw0 (i + 2)
  have hS1 := HD_s hD
  have hS100 := HD_y hD
  have hS448 := HD_o hD
  have hS464 := HD_u hD
  have hS465 := HD_ud hD
  refine ok_aloadn (pc' := 802) i0_801 rfl rfl <| ok_aloadn (pc' := 803) i0_802 rfl rfl <| ok_iload (pc' := 805) i0_803 rfl rfl <| ok_iconst (pc' := 806) i0_805 rfl <| ok_iadd (v := (i + 1)) (pc' := 807) i0_806 rfl rfl <| ok_iaload (v := v1) (pc' := 808) i0_807 (ShScr_k0 hS1) (by decide) (ShScr_l0 hS1) (by omega) hv1 rfl <| ok_aloadn (pc' := 809) i0_808 rfl rfl <| ok_iload (pc' := 811) i0_809 rfl rfl <| ?_
  refine ok_iconst (pc' := 812) i0_811 rfl <| ok_iadd (v := (i + 2)) (pc' := 813) i0_812 rfl rfl <| ok_iaload (v := v2) (pc' := 814) i0_813 (ShScr_k0 hS1) (by decide) (ShScr_l0 hS1) (by omega) hv2 rfl <| ok_aloadn (pc' := 815) i0_814 rfl rfl <| ok_cc i0_815 rfl (cl_s o0 m13_224 na285 rfl rfl (bt rfl) (bt rfl) rfl) ln285 (pd285 (aR 100) (aI v1) (aI v2) (aR 464)) <| ok_aloadn (pc' := 1) i285_0 rfl rfl <| ok_iconst (pc' := 2) i285_1 rfl <| ok_aloadn (pc' := 3) i285_2 rfl rfl <| ?_
  refine ok_iloadn (pc' := 4) i285_3 rfl rfl <| ok_iloadn (pc' := 5) i285_4 rfl rfl <| ok_cc i285_5 rfl (cl_v o285 m13_36 na109 rfl rfl (bt rfl) (bt rfl) rfl (by rw [ShYard_k0 hS100, o109])) ln109 (pd109 (aR 100) (aI v1) (aI v2)) <| ok_aloadn (pc' := 1) i109_0 rfl rfl <| ok_cc i109_1 rfl (cl_v o109 m0_132 na99 rfl rfl (bt rfl) (bt rfl) rfl (by rw [ShYard_k0 hS100, o99])) ln99 (pd99 (aR 100)) <| ok_aloadn (pc' := 1) i99_0 rfl rfl <| ok_getfi (v := 0) (pc' := 4) i99_1 o99 gi0_268 (ShYard_k0 hS100) hl rfl <| ok_kz0 (pc1 := 18) (pc2 := 7) i99_4 (by decide) rfl rfl <| ?_
  refine ok_throw th99_7 (bt rfl) <| kt_x hh109 <| kt_h hn285 hf285_5_12 hr285_13 <| kt_v (pc' := 818) rfl <| ?_
  refine ok_al hD (fun g hD => ?_)
  have hS448 := HD_o hD
  have hS1 := HD_s hD
  have hS464 := HD_u hD
  have hS465 := HD_ud hD
  refine ok_istore (pc' := 820) (ls' := [aR 1, aR 100, aR 448, aR 464, aR 465, aI i, aI 1, w7, w8]) i0_818 (bt rfl) rfl rfl <| ok_aloadn (pc' := 821) i0_820 rfl rfl <| ok_aloadn (pc' := 822) i0_821 rfl rfl <| ok_iload (pc' := 824) i0_822 rfl rfl <| ok_iconst (pc' := 825) i0_824 rfl <| ok_iadd (v := (i + 1)) (pc' := 826) i0_825 rfl rfl <| ok_iaload (v := v1) (pc' := 827) i0_826 (ShScr_k0 hS1) (by decide) (ShScr_l0 hS1) (by omega) hv1 rfl <| ok_aloadn (pc' := 828) i0_827 rfl rfl <| ?_
  refine ok_iload (pc' := 830) i0_828 rfl rfl <| ok_iconst (pc' := 831) i0_830 rfl <| ok_iadd (v := (i + 2)) (pc' := 832) i0_831 rfl rfl <| ok_iaload (v := v2) (pc' := 833) i0_832 (ShScr_k0 hS1) (by decide) (ShScr_l0 hS1) (by omega) hv2 rfl <| ok_cc i0_833 rfl (cl_v o0 m13_226 na202 rfl rfl (bt rfl) (bt rfl) rfl (by rw [ShModel_k0 hS448, o202])) ln202 (pd202 (aR 448) (aI v1) (aI v2)) <| ok_aloadn (pc' := 1) i202_0 rfl rfl <| ok_iloadn (pc' := 2) i202_1 rfl rfl <| ok_cc i202_2 rfl (cl_v o202 m9_223 na201 rfl rfl (bt rfl) (bt rfl) rfl (by rw [ShModel_k0 hS448, o201])) ln201 (pd201 (aR 448) (aI v1)) <| ?_
  refine ok_aloadn (pc' := 1) i201_0 rfl rfl <| ok_cc i201_1 rfl (cl_v o201 m9_216 na188 rfl rfl (bt rfl) (bt rfl) rfl (by rw [ShModel_k0 hS448, o188])) ln188 (pd188 (aR 448)) <| ok_aloadn (pc' := 1) i188_0 rfl rfl <| ok_iconst (pc' := 2) i188_1 rfl <| ok_putfj (kk := 0) (pc' := 5) i188_2 o188 pi188_63 (ShModel_k0 hS448) rfl rfl <| ok_aloadn (pc' := 6) i188_5 rfl rfl <| ok_aloadn (pc' := 7) i188_6 rfl rfl <| ok_getfi (v := 0) (pc' := 10) i188_7 o188 gi9_66 (ShModel_k0 hS448) (rd_ni (by decide) (hld.trans hl)) rfl <| ?_
  refine ok_kz0 (pc1 := 17) (pc2 := 13) i188_10 (by decide) rfl rfl <| ok_iconst (pc' := 14) i188_13 rfl <| ok_goto (pc' := 18) i188_14 rfl <| ok_iconst (pc' := 19) i188_18 rfl <| ok_cc i188_19 rfl (cl_v o188 m9_70 na165 rfl rfl (bt rfl) (bt rfl) rfl (by rw [ShModel_k0 hS448, o165])) ln165 (pd165 (aR 448) (aI 1) (aI 1)) <| ok_aloadn (pc' := 1) i165_0 rfl rfl <| ok_getfi (v := 0) (pc' := 4) i165_1 o165 gi9_63 (ShModel_k0 hS448) rd_eq rfl <| ok_kz0 (pc1 := 16) (pc2 := 7) i165_4 (by decide) rfl rfl <| ?_
  refine ok_iloadn (pc' := 8) i165_7 rfl rfl <| ok_kz0 (pc1 := 16) (pc2 := 11) i165_8 (by decide) rfl rfl <| ok_aloadn (pc' := 12) i165_11 rfl rfl <| ok_iloadn (pc' := 13) i165_12 rfl rfl <| ok_putfj (kk := 0) (pc' := 16) i165_13 o165 pi165_63 (ShModel_k0 hS448) rfl rfl <| ok_aloadn (pc' := 17) i165_16 rfl rfl <| ok_getfi (v := 1) (pc' := 20) i165_17 o165 gi9_63 (ShModel_k0 hS448) rd_eq rfl <| ok_kz0 (pc1 := 27) (pc2 := 23) i165_20 (by decide) rfl rfl <| ?_
  refine ok_iconst (pc' := 24) i165_23 rfl <| ok_goto (pc' := 28) i165_24 rfl <| ok_iretz i165_28 rt165 (by decide) <| kt_v (pc' := 22) rfl <| ok_iretz i188_22 rt188 (by decide) <| kt_v (pc' := 4) rfl <| ok_kz1 (pc1 := 34) (pc2 := 7) i201_4 (by decide) rfl rfl <| ok_iconst (pc' := 35) i201_34 rfl <| ?_
  refine ok_goto (pc' := 39) i201_35 rfl <| ok_iretz i201_39 rt201 (by decide) <| kt_v (pc' := 5) rfl <| ok_kz1 (pc1 := 37) (pc2 := 8) i202_5 (by decide) rfl rfl <| ok_iconst (pc' := 38) i202_37 rfl <| ok_goto (pc' := 52) i202_38 rfl <| ok_ireti i202_52 rt202 <| kt_v (pc' := 836) rfl <| ?_
  refine ok_istore (pc' := 838) (ls' := [aR 1, aR 100, aR 448, aR 464, aR 465, aI i, aI 1, aI 0, w8]) i0_836 (bt rfl) rfl rfl <| ok_aloadn (pc' := 839) i0_838 rfl rfl <| ok_cc i0_839 rfl (cl_v o0 m13_188 na157 rfl rfl (bt rfl) (bt rfl) rfl (by rw [ShModel_k0 hS448, o157])) ln157 (pd157 (aR 448)) <| ok_aloadn (pc' := 1) i157_0 rfl rfl <| ok_getfi (v := 1) (pc' := 4) i157_1 o157 gi9_63 (ShModel_k0 hS448) rd_eq rfl <| ok_ireti i157_4 rt157 <| kt_v (pc' := 842) rfl <| ok_iload (pc' := 844) i0_842 rfl rfl <| ?_
  refine ok_kc1 (pc1 := 849) (pc2 := 847) i0_844 (by decide) rfl rfl <| ok_iload (pc' := 851) i0_849 rfl rfl <| ok_kz1 (pc1 := 866) (pc2 := 854) i0_851 (by decide) rfl rfl <| ok_goto (pc' := 3329) i0_866 rfl <| ?_
  exact K _ _ _ _ _ _ hD (by omega) (Inv_mono (Inv_same hI (Same.thr (Same.thr Same.rfl))) (by omega))
theorem c36_1 {L n : Nat} {g : AG} {M : AM} {xs : Nat → Int32} {b i : Int} {w6 w7 w8 : AV} {Q : AO → AG → AM → Prop} (hD : HD L n g) (hI : Inv xs b M) (hi : 0 ≤ i ∧ i + 6 ≤ L) (hb : 0 ≤ b ∧ b ≤ 900000) (hl : M 100 6 = 1) (K : KK L n i b xs Q) :
    Ok 10 0 2172 [aR 1, aR 100, aR 448, aR 464, aR 465, aI i, w6, w7, w8] [] g M Q := by
  have hI0 := hI
  obtain ⟨hA, hld, hl01, q, hc, ⟨nx, sz, hH, hsz⟩, hS⟩ := hI0
  have hH0 := hH
  obtain ⟨⟨hn1, hn0⟩, ⟨hz2, hz0⟩, h10, hHj⟩ := hH0
  obtain ⟨hw0, ⟨bu, by_, hb1, hb13, hbu, hZ, hU⟩, he3, he4, he5, hId, tx, hT, hUt, htl, htr⟩ := hA
  obtain ⟨s, hP, hRB, hO, hV, hQ, h40⟩ := hc hl
  have ys3 := V_3 hV
  have ys4 := V_4 hV
  have yq0 := Q_0 hQ
  have yq1 := Q_1 hQ
  obtain ⟨v1, hv1⟩ : ∃ u9 : Int, M 1 (i + 1) = u9 := ⟨_, rfl⟩
  have hr1 : -2147483648 ≤ v1 ∧ v1 < 2147483648 := hv1 ▸ scr_rg hw0 (i + 1)
  have hS1 := HD_s hD
  have hS100 := HD_y hD
  have hS149 := HD_b hD
  have hS448 := HD_o hD
  have hS464 := HD_u hD
  have hS465 := HD_ud hD
  refine ok_aloadn (pc' := 2173) i0_2172 rfl rfl <| ok_aloadn (pc' := 2174) i0_2173 rfl rfl <| ok_iload (pc' := 2176) i0_2174 rfl rfl <| ok_iconst (pc' := 2177) i0_2176 rfl <| ok_iadd (v := (i + 1)) (pc' := 2178) i0_2177 rfl rfl <| ok_iaload (v := v1) (pc' := 2179) i0_2178 (ShScr_k0 hS1) (by decide) (ShScr_l0 hS1) (by omega) hv1 rfl <| ok_aloadn (pc' := 2180) i0_2179 rfl rfl <| ok_cc i0_2180 rfl (cl_s o0 m13_300 na310 rfl rfl (bt rfl) (bt rfl) rfl) ln310 (pd310 (aR 100) (aI v1) (aR 464)) <| ?_
  refine ok_aloadn (pc' := 1) i310_0 rfl rfl <| ok_iconst (pc' := 2) i310_1 rfl <| ok_aloadn (pc' := 3) i310_2 rfl rfl <| ok_iloadn (pc' := 4) i310_3 rfl rfl <| ok_cc i310_4 rfl (cl_v o310 m13_113 na135 rfl rfl (bt rfl) (bt rfl) rfl (by rw [ShYard_k0 hS100, o135])) ln135 (pd135 (aR 100) (aI v1)) <| ok_aloadn (pc' := 1) i135_0 rfl rfl <| ok_cc i135_1 rfl (cl_v o135 m0_132 na99 rfl rfl (bt rfl) (bt rfl) rfl (by rw [ShYard_k0 hS100, o99])) ln99 (pd99 (aR 100)) <| ok_aloadn (pc' := 1) i99_0 rfl rfl <| ?_
  refine ok_getfi (v := 1) (pc' := 4) i99_1 o99 gi0_268 (ShYard_k0 hS100) hl rfl <| ok_kz1 (pc1 := 18) (pc2 := 7) i99_4 (by decide) rfl rfl <| ok_vret i99_18 rt99 <| kt_0 (pc' := 4) rfl <| ok_iloadn (pc' := 5) i135_4 rfl rfl <| ok_iconst (pc' := 6) i135_5 rfl <| ok_bipush (v := 7) (pc' := 8) i135_6 rfl rfl <| ok_cc i135_8 rfl (cl_s o135 m0_172 na104 rfl rfl (bt rfl) (bt rfl) rfl) ln104 (pd104 (aI v1) (aI 0) (aI 7)) <| ?_
  refine ok_iloadn (pc' := 1) i104_0 rfl rfl <| ok_iloadn (pc' := 2) i104_1 rfl rfl <| ?_
  refine ok_clt (pc1 := 10) (pc2 := 5) i104_2 (by omega) rfl rfl (fun h501 => ?_) (fun h501 => ?_)
  · refine ok_throw th104_10 (bt rfl) <| kt_x hh135 <| kt_h hn310 hf310_4_11 hr310_15 <| kt_v (pc' := 2183) rfl <| ?_
    refine ok_al hD (fun g hD => ?_)
    have hS448 := HD_o hD
    have hS1 := HD_s hD
    have hS464 := HD_u hD
    have hS465 := HD_ud hD
    refine ok_istore (pc' := 2185) (ls' := [aR 1, aR 100, aR 448, aR 464, aR 465, aI i, aI 2, w7, w8]) i0_2183 (bt rfl) rfl rfl <| ok_aloadn (pc' := 2186) i0_2185 rfl rfl <| ok_aloadn (pc' := 2187) i0_2186 rfl rfl <| ok_iload (pc' := 2189) i0_2187 rfl rfl <| ok_iconst (pc' := 2190) i0_2189 rfl <| ok_iadd (v := (i + 1)) (pc' := 2191) i0_2190 rfl rfl <| ok_iaload (v := v1) (pc' := 2192) i0_2191 (ShScr_k0 hS1) (by decide) (ShScr_l0 hS1) (by omega) hv1 rfl <| ok_cc i0_2192 rfl (cl_v o0 m13_302 na254 rfl rfl (bt rfl) (bt rfl) rfl (by rw [ShModel_k0 hS448, o254])) ln254 (pd254 (aR 448) (aI v1)) <| ?_
    refine ok_aloadn (pc' := 1) i254_0 rfl rfl <| ok_cc i254_1 rfl (cl_v o254 m9_216 na188 rfl rfl (bt rfl) (bt rfl) rfl (by rw [ShModel_k0 hS448, o188])) ln188 (pd188 (aR 448)) <| ok_aloadn (pc' := 1) i188_0 rfl rfl <| ok_iconst (pc' := 2) i188_1 rfl <| ok_putfj (kk := 0) (pc' := 5) i188_2 o188 pi188_63 (ShModel_k0 hS448) rfl rfl <| ok_aloadn (pc' := 6) i188_5 rfl rfl <| ok_aloadn (pc' := 7) i188_6 rfl rfl <| ok_getfi (v := 1) (pc' := 10) i188_7 o188 gi9_66 (ShModel_k0 hS448) (rd_ni (by decide) (hld.trans hl)) rfl <| ?_
    refine ok_kz1 (pc1 := 17) (pc2 := 13) i188_10 (by decide) rfl rfl <| ok_iconst (pc' := 18) i188_17 rfl <| ok_iconst (pc' := 19) i188_18 rfl <| ok_cc i188_19 rfl (cl_v o188 m9_70 na165 rfl rfl (bt rfl) (bt rfl) rfl (by rw [ShModel_k0 hS448, o165])) ln165 (pd165 (aR 448) (aI 0) (aI 1)) <| ok_aloadn (pc' := 1) i165_0 rfl rfl <| ok_getfi (v := 0) (pc' := 4) i165_1 o165 gi9_63 (ShModel_k0 hS448) rd_eq rfl <| ok_kz0 (pc1 := 16) (pc2 := 7) i165_4 (by decide) rfl rfl <| ok_iloadn (pc' := 8) i165_7 rfl rfl <| ?_
    refine ok_kz1 (pc1 := 16) (pc2 := 11) i165_8 (by decide) rfl rfl <| ok_aloadn (pc' := 17) i165_16 rfl rfl <| ok_getfi (v := 0) (pc' := 20) i165_17 o165 gi9_63 (ShModel_k0 hS448) rd_eq rfl <| ok_kz1 (pc1 := 27) (pc2 := 23) i165_20 (by decide) rfl rfl <| ok_iconst (pc' := 28) i165_27 rfl <| ok_iretz i165_28 rt165 (by decide) <| kt_v (pc' := 22) rfl <| ok_iretz i188_22 rt188 (by decide) <| ?_
    refine kt_v (pc' := 4) rfl <| ok_kz0 (pc1 := 30) (pc2 := 7) i254_4 (by decide) rfl rfl <| ok_aloadn (pc' := 8) i254_7 rfl rfl <| ok_iloadn (pc' := 9) i254_8 rfl rfl <| ok_iconst (pc' := 10) i254_9 rfl <| ok_bipush (v := 7) (pc' := 12) i254_10 rfl rfl <| ok_cc i254_12 rfl (cl_s o254 m9_140 na164 rfl rfl (bt rfl) (bt rfl) rfl) ln164 (pd164 (aI v1) (aI 0) (aI 7)) <| ok_iloadn (pc' := 1) i164_0 rfl rfl <| ?_
    refine ok_iloadn (pc' := 2) i164_1 rfl rfl <| ?_
    refine ok_clt (pc1 := 14) (pc2 := 5) i164_2 (by omega) rfl rfl (fun h502 => ?_) (fun h9 => by exfalso; omega)
    refine ok_iconst (pc' := 15) i164_14 rfl <| ok_iretz i164_15 rt164 (by decide) <| kt_v (pc' := 15) rfl <| ok_kz0 (pc1 := 22) (pc2 := 18) i254_15 (by decide) rfl rfl <| ok_iconst (pc' := 19) i254_18 rfl <| ok_goto (pc' := 23) i254_19 rfl <| ok_iconst (pc' := 24) i254_23 rfl <| ok_cc i254_24 rfl (cl_v o254 m9_70 na165 rfl rfl (bt rfl) (bt rfl) rfl (by rw [ShModel_k0 hS448, o165])) ln165 (pd165 (aR 448) (aI 1) (aI 2)) <| ?_
    refine ok_aloadn (pc' := 1) i165_0 rfl rfl <| ok_getfi (v := 0) (pc' := 4) i165_1 o165 gi9_63 (ShModel_k0 hS448) rd_eq rfl <| ok_kz0 (pc1 := 16) (pc2 := 7) i165_4 (by decide) rfl rfl <| ok_iloadn (pc' := 8) i165_7 rfl rfl <| ok_kz0 (pc1 := 16) (pc2 := 11) i165_8 (by decide) rfl rfl <| ok_aloadn (pc' := 12) i165_11 rfl rfl <| ok_iloadn (pc' := 13) i165_12 rfl rfl <| ok_putfj (kk := 0) (pc' := 16) i165_13 o165 pi165_63 (ShModel_k0 hS448) rfl rfl <| ?_
    refine ok_aloadn (pc' := 17) i165_16 rfl rfl <| ok_getfi (v := 2) (pc' := 20) i165_17 o165 gi9_63 (ShModel_k0 hS448) rd_eq rfl <| ok_kz0 (pc1 := 27) (pc2 := 23) i165_20 (by decide) rfl rfl <| ok_iconst (pc' := 24) i165_23 rfl <| ok_goto (pc' := 28) i165_24 rfl <| ok_iretz i165_28 rt165 (by decide) <| kt_v (pc' := 27) rfl <| ok_kz0 (pc1 := 34) (pc2 := 30) i254_27 (by decide) rfl rfl <| ?_
    refine ok_iconst (pc' := 31) i254_30 rfl <| ok_goto (pc' := 43) i254_31 rfl <| ok_ireti i254_43 rt254 <| kt_v (pc' := 2195) rfl <| ok_istore (pc' := 2197) (ls' := [aR 1, aR 100, aR 448, aR 464, aR 465, aI i, aI 2, aI 0, w8]) i0_2195 (bt rfl) rfl rfl <| ok_aloadn (pc' := 2198) i0_2197 rfl rfl <| ok_cc i0_2198 rfl (cl_v o0 m13_188 na157 rfl rfl (bt rfl) (bt rfl) rfl (by rw [ShModel_k0 hS448, o157])) ln157 (pd157 (aR 448)) <| ok_aloadn (pc' := 1) i157_0 rfl rfl <| ?_
    refine ok_getfi (v := 2) (pc' := 4) i157_1 o157 gi9_63 (ShModel_k0 hS448) rd_eq rfl <| ok_ireti i157_4 rt157 <| kt_v (pc' := 2201) rfl <| ok_iload (pc' := 2203) i0_2201 rfl rfl <| ok_kc1 (pc1 := 2208) (pc2 := 2206) i0_2203 (by decide) rfl rfl <| ok_iload (pc' := 2210) i0_2208 rfl rfl <| ok_kz1 (pc1 := 2225) (pc2 := 2213) i0_2210 (by decide) rfl rfl <| ok_goto (pc' := 3329) i0_2225 rfl <| ?_
    exact K _ _ _ _ _ _ hD (by omega) (Inv_mono (Inv_same hI (Same.thr (Same.thr Same.rfl))) (by omega))
  · refine ok_iloadn (pc' := 6) i104_5 rfl rfl <| ok_iloadn (pc' := 7) i104_6 rfl rfl <| ?_
    refine ok_cle (pc1 := 21) (pc2 := 10) i104_7 (by omega) rfl rfl (fun h503 => ?_) (fun h503 => ?_)
    · refine ok_vret i104_21 rt104 <| kt_0 (pc' := 11) rfl <| ok_aloadn (pc' := 12) i135_11 rfl rfl <| ok_getfr (r := 149) (pc' := 15) i135_12 o135 gr0_39 (ShYard_k0 hS100) (ShYard_r8 hS100) rfl <| ok_getfr (r := (149 + 23)) (pc' := 18) i135_15 o135 gr0_265 (ShState_k0 hS149) (ShState_r9 hS149) rfl <| ok_iloadn (pc' := 19) i135_18 rfl rfl <| ok_iaload (v := (s (6 + v1))) (pc' := 20) i135_19 (ShState_k23 hS149) (by decide) (ShState_l23 hS149) (by omega) (RepS_23 hRB (by omega) (by omega)) rfl <| ok_ireti i135_20 rt135 <| ?_
      refine kt_v (pc' := 7) rfl <| ok_i2l (v := (wr (s (6 + v1)))) (pc' := 8) i310_7 rfl rfl <| ok_lastore (pc' := 9) i310_8 (ShOut_k0 hS464) (ShOut_l0 hS464) (by decide) rfl <| ok_goto (pc' := 18) i310_9 rfl <| ok_iconst (pc' := 19) i310_18 rfl <| ok_ireti i310_19 rt310 <| kt_v (pc' := 2183) rfl <| ok_istore (pc' := 2185) (ls' := [aR 1, aR 100, aR 448, aR 464, aR 465, aI i, aI 0, w7, w8]) i0_2183 (bt rfl) rfl rfl <| ?_
      refine ok_aloadn (pc' := 2186) i0_2185 rfl rfl <| ok_aloadn (pc' := 2187) i0_2186 rfl rfl <| ok_iload (pc' := 2189) i0_2187 rfl rfl <| ok_iconst (pc' := 2190) i0_2189 rfl <| ok_iadd (v := (i + 1)) (pc' := 2191) i0_2190 rfl rfl <| ok_iaload (v := v1) (pc' := 2192) i0_2191 (ShScr_k0 hS1) (by decide) (ShScr_l0 hS1) (by omega) (rd_na (by omega) hv1) rfl <| ok_cc i0_2192 rfl (cl_v o0 m13_302 na254 rfl rfl (bt rfl) (bt rfl) rfl (by rw [ShModel_k0 hS448, o254])) ln254 (pd254 (aR 448) (aI v1)) <| ok_aloadn (pc' := 1) i254_0 rfl rfl <| ?_
      refine ok_cc i254_1 rfl (cl_v o254 m9_216 na188 rfl rfl (bt rfl) (bt rfl) rfl (by rw [ShModel_k0 hS448, o188])) ln188 (pd188 (aR 448)) <| ok_aloadn (pc' := 1) i188_0 rfl rfl <| ok_iconst (pc' := 2) i188_1 rfl <| ok_putfj (kk := 0) (pc' := 5) i188_2 o188 pi188_63 (ShModel_k0 hS448) rfl rfl <| ok_aloadn (pc' := 6) i188_5 rfl rfl <| ok_aloadn (pc' := 7) i188_6 rfl rfl <| ok_getfi (v := 1) (pc' := 10) i188_7 o188 gi9_66 (ShModel_k0 hS448) (rd_ni (by decide) (rd_na (by omega) (hld.trans hl))) rfl <| ok_kz1 (pc1 := 17) (pc2 := 13) i188_10 (by decide) rfl rfl <| ?_
      refine ok_iconst (pc' := 18) i188_17 rfl <| ok_iconst (pc' := 19) i188_18 rfl <| ok_cc i188_19 rfl (cl_v o188 m9_70 na165 rfl rfl (bt rfl) (bt rfl) rfl (by rw [ShModel_k0 hS448, o165])) ln165 (pd165 (aR 448) (aI 0) (aI 1)) <| ok_aloadn (pc' := 1) i165_0 rfl rfl <| ok_getfi (v := 0) (pc' := 4) i165_1 o165 gi9_63 (ShModel_k0 hS448) rd_eq rfl <| ok_kz0 (pc1 := 16) (pc2 := 7) i165_4 (by decide) rfl rfl <| ok_iloadn (pc' := 8) i165_7 rfl rfl <| ok_kz1 (pc1 := 16) (pc2 := 11) i165_8 (by decide) rfl rfl <| ?_
      refine ok_aloadn (pc' := 17) i165_16 rfl rfl <| ok_getfi (v := 0) (pc' := 20) i165_17 o165 gi9_63 (ShModel_k0 hS448) rd_eq rfl <| ok_kz1 (pc1 := 27) (pc2 := 23) i165_20 (by decide) rfl rfl <| ok_iconst (pc' := 28) i165_27 rfl <| ok_iretz i165_28 rt165 (by decide) <| kt_v (pc' := 22) rfl <| ok_iretz i188_22 rt188 (by decide) <| kt_v (pc' := 4) rfl <| ?_
      refine ok_kz0 (pc1 := 30) (pc2 := 7) i254_4 (by decide) rfl rfl <| ok_aloadn (pc' := 8) i254_7 rfl rfl <| ok_iloadn (pc' := 9) i254_8 rfl rfl <| ok_iconst (pc' := 10) i254_9 rfl <| ok_bipush (v := 7) (pc' := 12) i254_10 rfl rfl <| ok_cc i254_12 rfl (cl_s o254 m9_140 na164 rfl rfl (bt rfl) (bt rfl) rfl) ln164 (pd164 (aI v1) (aI 0) (aI 7)) <| ok_iloadn (pc' := 1) i164_0 rfl rfl <| ok_iloadn (pc' := 2) i164_1 rfl rfl <| ?_
      refine ok_clt (pc1 := 14) (pc2 := 5) i164_2 (by omega) rfl rfl (fun h9 => by exfalso; omega) (fun h504 => ?_)
      refine ok_iloadn (pc' := 6) i164_5 rfl rfl <| ok_iloadn (pc' := 7) i164_6 rfl rfl <| ?_
      refine ok_cgt (pc1 := 14) (pc2 := 10) i164_7 (by omega) rfl rfl (fun h9 => by exfalso; omega) (fun h505 => ?_)
      refine ok_iconst (pc' := 11) i164_10 rfl <| ok_goto (pc' := 15) i164_11 rfl <| ok_iretz i164_15 rt164 (by decide) <| kt_v (pc' := 15) rfl <| ok_kz1 (pc1 := 22) (pc2 := 18) i254_15 (by decide) rfl rfl <| ok_iconst (pc' := 23) i254_22 rfl <| ok_iconst (pc' := 24) i254_23 rfl <| ok_cc i254_24 rfl (cl_v o254 m9_70 na165 rfl rfl (bt rfl) (bt rfl) rfl (by rw [ShModel_k0 hS448, o165])) ln165 (pd165 (aR 448) (aI 0) (aI 2)) <| ?_
      refine ok_aloadn (pc' := 1) i165_0 rfl rfl <| ok_getfi (v := 0) (pc' := 4) i165_1 o165 gi9_63 (ShModel_k0 hS448) rd_eq rfl <| ok_kz0 (pc1 := 16) (pc2 := 7) i165_4 (by decide) rfl rfl <| ok_iloadn (pc' := 8) i165_7 rfl rfl <| ok_kz1 (pc1 := 16) (pc2 := 11) i165_8 (by decide) rfl rfl <| ok_aloadn (pc' := 17) i165_16 rfl rfl <| ok_getfi (v := 0) (pc' := 20) i165_17 o165 gi9_63 (ShModel_k0 hS448) rd_eq rfl <| ok_kz1 (pc1 := 27) (pc2 := 23) i165_20 (by decide) rfl rfl <| ?_
      refine ok_iconst (pc' := 28) i165_27 rfl <| ok_iretz i165_28 rt165 (by decide) <| kt_v (pc' := 27) rfl <| ok_kz1 (pc1 := 34) (pc2 := 30) i254_27 (by decide) rfl rfl <| ok_aloadn (pc' := 35) i254_34 rfl rfl <| ok_getfr (r := (448 + 5)) (pc' := 38) i254_35 o254 gr9_22 (ShModel_k0 hS448) (ShModel_r8 hS448) rfl <| ok_bipush (v := 6) (pc' := 40) i254_38 rfl rfl <| ok_iloadn (pc' := 41) i254_40 rfl rfl <| ?_
      refine ok_iadd (v := (6 + v1)) (pc' := 42) i254_41 rfl rfl <| ok_iaload (v := (s (6 + v1))) (pc' := 43) i254_42 (ShModel_k5 hS448) (by decide) (ShModel_l5 hS448) (by omega) (rd_na (by omega) (rd_na (by omega) (RepO_s hO))) rfl <| ok_ireti i254_43 rt254 <| kt_v (pc' := 2195) rfl <| ok_istore (pc' := 2197) (ls' := [aR 1, aR 100, aR 448, aR 464, aR 465, aI i, aI 0, aI (s (6 + v1)), w8]) i0_2195 (bt rfl) rfl rfl <| ok_aloadn (pc' := 2198) i0_2197 rfl rfl <| ok_cc i0_2198 rfl (cl_v o0 m13_188 na157 rfl rfl (bt rfl) (bt rfl) rfl (by rw [ShModel_k0 hS448, o157])) ln157 (pd157 (aR 448)) <| ok_aloadn (pc' := 1) i157_0 rfl rfl <| ?_
      refine ok_getfi (v := 0) (pc' := 4) i157_1 o157 gi9_63 (ShModel_k0 hS448) rd_eq rfl <| ok_ireti i157_4 rt157 <| kt_v (pc' := 2201) rfl <| ok_iload (pc' := 2203) i0_2201 rfl rfl <| ok_kc1 (pc1 := 2208) (pc2 := 2206) i0_2203 (by decide) rfl rfl <| ok_iload (pc' := 2210) i0_2208 rfl rfl <| ok_kz0 (pc1 := 2225) (pc2 := 2213) i0_2210 (by decide) rfl rfl <| ok_aloadn (pc' := 2214) i0_2213 rfl rfl <| ?_
      refine ok_iconst (pc' := 2215) i0_2214 rfl <| ok_laload (v := (wr (s (6 + v1)))) (pc' := 2216) i0_2215 (ShOut_k0 hS464) (ShOut_l0 hS464) (by decide) (rd_na (by omega) rd_eq) rfl <| ok_iload (pc' := 2218) i0_2216 rfl rfl <| ok_i2l (v := (wr (s (6 + v1)))) (pc' := 2219) i0_2218 rfl rfl <| ok_lcmp0 (pc' := 2220) i0_2219 rfl <| ok_kz1 (pc1 := 2225) (pc2 := 2223) i0_2220 (by decide) rfl rfl <| ok_goto (pc' := 3329) i0_2225 rfl <| ?_
      exact K _ _ _ _ _ _ hD (by omega) (Inv_mono (Inv_same hI (Same.thr (Same.out Same.rfl))) (by omega))
    · refine ok_throw th104_10 (bt rfl) <| kt_x hh135 <| kt_h hn310 hf310_4_11 hr310_15 <| kt_v (pc' := 2183) rfl <| ?_
      refine ok_al hD (fun g hD => ?_)
      have hS448 := HD_o hD
      have hS1 := HD_s hD
      have hS464 := HD_u hD
      have hS465 := HD_ud hD
      refine ok_istore (pc' := 2185) (ls' := [aR 1, aR 100, aR 448, aR 464, aR 465, aI i, aI 2, w7, w8]) i0_2183 (bt rfl) rfl rfl <| ok_aloadn (pc' := 2186) i0_2185 rfl rfl <| ok_aloadn (pc' := 2187) i0_2186 rfl rfl <| ok_iload (pc' := 2189) i0_2187 rfl rfl <| ok_iconst (pc' := 2190) i0_2189 rfl <| ok_iadd (v := (i + 1)) (pc' := 2191) i0_2190 rfl rfl <| ok_iaload (v := v1) (pc' := 2192) i0_2191 (ShScr_k0 hS1) (by decide) (ShScr_l0 hS1) (by omega) hv1 rfl <| ok_cc i0_2192 rfl (cl_v o0 m13_302 na254 rfl rfl (bt rfl) (bt rfl) rfl (by rw [ShModel_k0 hS448, o254])) ln254 (pd254 (aR 448) (aI v1)) <| ?_
      refine ok_aloadn (pc' := 1) i254_0 rfl rfl <| ok_cc i254_1 rfl (cl_v o254 m9_216 na188 rfl rfl (bt rfl) (bt rfl) rfl (by rw [ShModel_k0 hS448, o188])) ln188 (pd188 (aR 448)) <| ok_aloadn (pc' := 1) i188_0 rfl rfl <| ok_iconst (pc' := 2) i188_1 rfl <| ok_putfj (kk := 0) (pc' := 5) i188_2 o188 pi188_63 (ShModel_k0 hS448) rfl rfl <| ok_aloadn (pc' := 6) i188_5 rfl rfl <| ok_aloadn (pc' := 7) i188_6 rfl rfl <| ok_getfi (v := 1) (pc' := 10) i188_7 o188 gi9_66 (ShModel_k0 hS448) (rd_ni (by decide) (hld.trans hl)) rfl <| ?_
      refine ok_kz1 (pc1 := 17) (pc2 := 13) i188_10 (by decide) rfl rfl <| ok_iconst (pc' := 18) i188_17 rfl <| ok_iconst (pc' := 19) i188_18 rfl <| ok_cc i188_19 rfl (cl_v o188 m9_70 na165 rfl rfl (bt rfl) (bt rfl) rfl (by rw [ShModel_k0 hS448, o165])) ln165 (pd165 (aR 448) (aI 0) (aI 1)) <| ok_aloadn (pc' := 1) i165_0 rfl rfl <| ok_getfi (v := 0) (pc' := 4) i165_1 o165 gi9_63 (ShModel_k0 hS448) rd_eq rfl <| ok_kz0 (pc1 := 16) (pc2 := 7) i165_4 (by decide) rfl rfl <| ok_iloadn (pc' := 8) i165_7 rfl rfl <| ?_
      refine ok_kz1 (pc1 := 16) (pc2 := 11) i165_8 (by decide) rfl rfl <| ok_aloadn (pc' := 17) i165_16 rfl rfl <| ok_getfi (v := 0) (pc' := 20) i165_17 o165 gi9_63 (ShModel_k0 hS448) rd_eq rfl <| ok_kz1 (pc1 := 27) (pc2 := 23) i165_20 (by decide) rfl rfl <| ok_iconst (pc' := 28) i165_27 rfl <| ok_iretz i165_28 rt165 (by decide) <| kt_v (pc' := 22) rfl <| ok_iretz i188_22 rt188 (by decide) <| ?_
      refine kt_v (pc' := 4) rfl <| ok_kz0 (pc1 := 30) (pc2 := 7) i254_4 (by decide) rfl rfl <| ok_aloadn (pc' := 8) i254_7 rfl rfl <| ok_iloadn (pc' := 9) i254_8 rfl rfl <| ok_iconst (pc' := 10) i254_9 rfl <| ok_bipush (v := 7) (pc' := 12) i254_10 rfl rfl <| ok_cc i254_12 rfl (cl_s o254 m9_140 na164 rfl rfl (bt rfl) (bt rfl) rfl) ln164 (pd164 (aI v1) (aI 0) (aI 7)) <| ok_iloadn (pc' := 1) i164_0 rfl rfl <| ?_
      refine ok_iloadn (pc' := 2) i164_1 rfl rfl <| ?_
      refine ok_clt (pc1 := 14) (pc2 := 5) i164_2 (by omega) rfl rfl (fun h9 => by exfalso; omega) (fun h506 => ?_)
      refine ok_iloadn (pc' := 6) i164_5 rfl rfl <| ok_iloadn (pc' := 7) i164_6 rfl rfl <| ?_
      refine ok_cgt (pc1 := 14) (pc2 := 10) i164_7 (by omega) rfl rfl (fun h507 => ?_) (fun h9 => by exfalso; omega)
      refine ok_iconst (pc' := 15) i164_14 rfl <| ok_iretz i164_15 rt164 (by decide) <| kt_v (pc' := 15) rfl <| ok_kz0 (pc1 := 22) (pc2 := 18) i254_15 (by decide) rfl rfl <| ok_iconst (pc' := 19) i254_18 rfl <| ok_goto (pc' := 23) i254_19 rfl <| ok_iconst (pc' := 24) i254_23 rfl <| ok_cc i254_24 rfl (cl_v o254 m9_70 na165 rfl rfl (bt rfl) (bt rfl) rfl (by rw [ShModel_k0 hS448, o165])) ln165 (pd165 (aR 448) (aI 1) (aI 2)) <| ?_
      refine ok_aloadn (pc' := 1) i165_0 rfl rfl <| ok_getfi (v := 0) (pc' := 4) i165_1 o165 gi9_63 (ShModel_k0 hS448) rd_eq rfl <| ok_kz0 (pc1 := 16) (pc2 := 7) i165_4 (by decide) rfl rfl <| ok_iloadn (pc' := 8) i165_7 rfl rfl <| ok_kz0 (pc1 := 16) (pc2 := 11) i165_8 (by decide) rfl rfl <| ok_aloadn (pc' := 12) i165_11 rfl rfl <| ok_iloadn (pc' := 13) i165_12 rfl rfl <| ok_putfj (kk := 0) (pc' := 16) i165_13 o165 pi165_63 (ShModel_k0 hS448) rfl rfl <| ?_
      refine ok_aloadn (pc' := 17) i165_16 rfl rfl <| ok_getfi (v := 2) (pc' := 20) i165_17 o165 gi9_63 (ShModel_k0 hS448) rd_eq rfl <| ok_kz0 (pc1 := 27) (pc2 := 23) i165_20 (by decide) rfl rfl <| ok_iconst (pc' := 24) i165_23 rfl <| ok_goto (pc' := 28) i165_24 rfl <| ok_iretz i165_28 rt165 (by decide) <| kt_v (pc' := 27) rfl <| ok_kz0 (pc1 := 34) (pc2 := 30) i254_27 (by decide) rfl rfl <| ?_
      refine ok_iconst (pc' := 31) i254_30 rfl <| ok_goto (pc' := 43) i254_31 rfl <| ok_ireti i254_43 rt254 <| kt_v (pc' := 2195) rfl <| ok_istore (pc' := 2197) (ls' := [aR 1, aR 100, aR 448, aR 464, aR 465, aI i, aI 2, aI 0, w8]) i0_2195 (bt rfl) rfl rfl <| ok_aloadn (pc' := 2198) i0_2197 rfl rfl <| ok_cc i0_2198 rfl (cl_v o0 m13_188 na157 rfl rfl (bt rfl) (bt rfl) rfl (by rw [ShModel_k0 hS448, o157])) ln157 (pd157 (aR 448)) <| ok_aloadn (pc' := 1) i157_0 rfl rfl <| ?_
      refine ok_getfi (v := 2) (pc' := 4) i157_1 o157 gi9_63 (ShModel_k0 hS448) rd_eq rfl <| ok_ireti i157_4 rt157 <| kt_v (pc' := 2201) rfl <| ok_iload (pc' := 2203) i0_2201 rfl rfl <| ok_kc1 (pc1 := 2208) (pc2 := 2206) i0_2203 (by decide) rfl rfl <| ok_iload (pc' := 2210) i0_2208 rfl rfl <| ok_kz1 (pc1 := 2225) (pc2 := 2213) i0_2210 (by decide) rfl rfl <| ok_goto (pc' := 3329) i0_2225 rfl <| ?_
      exact K _ _ _ _ _ _ hD (by omega) (Inv_mono (Inv_same hI (Same.thr (Same.thr Same.rfl))) (by omega))
theorem c36_0 {L n : Nat} {g : AG} {M : AM} {xs : Nat → Int32} {b i : Int} {w6 w7 w8 : AV} {Q : AO → AG → AM → Prop} (hD : HD L n g) (hI : Inv xs b M) (hi : 0 ≤ i ∧ i + 6 ≤ L) (hb : 0 ≤ b ∧ b ≤ 900000) (hl : M 100 6 = 0) (K : KK L n i b xs Q) :
    Ok 10 0 2172 [aR 1, aR 100, aR 448, aR 464, aR 465, aI i, w6, w7, w8] [] g M Q := by
  have hI0 := hI
  obtain ⟨hA, hld, hl01, q, hc, ⟨nx, sz, hH, hsz⟩, hS⟩ := hI0
  have hH0 := hH
  obtain ⟨⟨hn1, hn0⟩, ⟨hz2, hz0⟩, h10, hHj⟩ := hH0
  obtain ⟨hw0, ⟨bu, by_, hb1, hb13, hbu, hZ, hU⟩, he3, he4, he5, hId, tx, hT, hUt, htl, htr⟩ := hA
  obtain ⟨v1, hv1⟩ : ∃ u9 : Int, M 1 (i + 1) = u9 := ⟨_, rfl⟩
  have hr1 : -2147483648 ≤ v1 ∧ v1 < 2147483648 := hv1 ▸ scr_rg hw0 (i + 1)
  have hS1 := HD_s hD
  have hS100 := HD_y hD
  have hS448 := HD_o hD
  have hS464 := HD_u hD
  have hS465 := HD_ud hD
  refine ok_aloadn (pc' := 2173) i0_2172 rfl rfl <| ok_aloadn (pc' := 2174) i0_2173 rfl rfl <| ok_iload (pc' := 2176) i0_2174 rfl rfl <| ok_iconst (pc' := 2177) i0_2176 rfl <| ok_iadd (v := (i + 1)) (pc' := 2178) i0_2177 rfl rfl <| ok_iaload (v := v1) (pc' := 2179) i0_2178 (ShScr_k0 hS1) (by decide) (ShScr_l0 hS1) (by omega) hv1 rfl <| ok_aloadn (pc' := 2180) i0_2179 rfl rfl <| ok_cc i0_2180 rfl (cl_s o0 m13_300 na310 rfl rfl (bt rfl) (bt rfl) rfl) ln310 (pd310 (aR 100) (aI v1) (aR 464)) <| ?_
  refine ok_aloadn (pc' := 1) i310_0 rfl rfl <| ok_iconst (pc' := 2) i310_1 rfl <| ok_aloadn (pc' := 3) i310_2 rfl rfl <| ok_iloadn (pc' := 4) i310_3 rfl rfl <| ok_cc i310_4 rfl (cl_v o310 m13_113 na135 rfl rfl (bt rfl) (bt rfl) rfl (by rw [ShYard_k0 hS100, o135])) ln135 (pd135 (aR 100) (aI v1)) <| ok_aloadn (pc' := 1) i135_0 rfl rfl <| ok_cc i135_1 rfl (cl_v o135 m0_132 na99 rfl rfl (bt rfl) (bt rfl) rfl (by rw [ShYard_k0 hS100, o99])) ln99 (pd99 (aR 100)) <| ok_aloadn (pc' := 1) i99_0 rfl rfl <| ?_
  refine ok_getfi (v := 0) (pc' := 4) i99_1 o99 gi0_268 (ShYard_k0 hS100) hl rfl <| ok_kz0 (pc1 := 18) (pc2 := 7) i99_4 (by decide) rfl rfl <| ok_throw th99_7 (bt rfl) <| kt_x hh135 <| kt_h hn310 hf310_4_12 hr310_12 <| kt_v (pc' := 2183) rfl <| ?_
  refine ok_al hD (fun g hD => ?_)
  have hS448 := HD_o hD
  have hS1 := HD_s hD
  have hS464 := HD_u hD
  have hS465 := HD_ud hD
  refine ok_istore (pc' := 2185) (ls' := [aR 1, aR 100, aR 448, aR 464, aR 465, aI i, aI 1, w7, w8]) i0_2183 (bt rfl) rfl rfl <| ok_aloadn (pc' := 2186) i0_2185 rfl rfl <| ok_aloadn (pc' := 2187) i0_2186 rfl rfl <| ok_iload (pc' := 2189) i0_2187 rfl rfl <| ok_iconst (pc' := 2190) i0_2189 rfl <| ok_iadd (v := (i + 1)) (pc' := 2191) i0_2190 rfl rfl <| ok_iaload (v := v1) (pc' := 2192) i0_2191 (ShScr_k0 hS1) (by decide) (ShScr_l0 hS1) (by omega) hv1 rfl <| ok_cc i0_2192 rfl (cl_v o0 m13_302 na254 rfl rfl (bt rfl) (bt rfl) rfl (by rw [ShModel_k0 hS448, o254])) ln254 (pd254 (aR 448) (aI v1)) <| ?_
  refine ok_aloadn (pc' := 1) i254_0 rfl rfl <| ok_cc i254_1 rfl (cl_v o254 m9_216 na188 rfl rfl (bt rfl) (bt rfl) rfl (by rw [ShModel_k0 hS448, o188])) ln188 (pd188 (aR 448)) <| ok_aloadn (pc' := 1) i188_0 rfl rfl <| ok_iconst (pc' := 2) i188_1 rfl <| ok_putfj (kk := 0) (pc' := 5) i188_2 o188 pi188_63 (ShModel_k0 hS448) rfl rfl <| ok_aloadn (pc' := 6) i188_5 rfl rfl <| ok_aloadn (pc' := 7) i188_6 rfl rfl <| ok_getfi (v := 0) (pc' := 10) i188_7 o188 gi9_66 (ShModel_k0 hS448) (rd_ni (by decide) (hld.trans hl)) rfl <| ?_
  refine ok_kz0 (pc1 := 17) (pc2 := 13) i188_10 (by decide) rfl rfl <| ok_iconst (pc' := 14) i188_13 rfl <| ok_goto (pc' := 18) i188_14 rfl <| ok_iconst (pc' := 19) i188_18 rfl <| ok_cc i188_19 rfl (cl_v o188 m9_70 na165 rfl rfl (bt rfl) (bt rfl) rfl (by rw [ShModel_k0 hS448, o165])) ln165 (pd165 (aR 448) (aI 1) (aI 1)) <| ok_aloadn (pc' := 1) i165_0 rfl rfl <| ok_getfi (v := 0) (pc' := 4) i165_1 o165 gi9_63 (ShModel_k0 hS448) rd_eq rfl <| ok_kz0 (pc1 := 16) (pc2 := 7) i165_4 (by decide) rfl rfl <| ?_
  refine ok_iloadn (pc' := 8) i165_7 rfl rfl <| ok_kz0 (pc1 := 16) (pc2 := 11) i165_8 (by decide) rfl rfl <| ok_aloadn (pc' := 12) i165_11 rfl rfl <| ok_iloadn (pc' := 13) i165_12 rfl rfl <| ok_putfj (kk := 0) (pc' := 16) i165_13 o165 pi165_63 (ShModel_k0 hS448) rfl rfl <| ok_aloadn (pc' := 17) i165_16 rfl rfl <| ok_getfi (v := 1) (pc' := 20) i165_17 o165 gi9_63 (ShModel_k0 hS448) rd_eq rfl <| ok_kz0 (pc1 := 27) (pc2 := 23) i165_20 (by decide) rfl rfl <| ?_
  refine ok_iconst (pc' := 24) i165_23 rfl <| ok_goto (pc' := 28) i165_24 rfl <| ok_iretz i165_28 rt165 (by decide) <| kt_v (pc' := 22) rfl <| ok_iretz i188_22 rt188 (by decide) <| kt_v (pc' := 4) rfl <| ok_kz1 (pc1 := 30) (pc2 := 7) i254_4 (by decide) rfl rfl <| ok_iconst (pc' := 31) i254_30 rfl <| ?_
  refine ok_goto (pc' := 43) i254_31 rfl <| ok_ireti i254_43 rt254 <| kt_v (pc' := 2195) rfl <| ok_istore (pc' := 2197) (ls' := [aR 1, aR 100, aR 448, aR 464, aR 465, aI i, aI 1, aI 0, w8]) i0_2195 (bt rfl) rfl rfl <| ok_aloadn (pc' := 2198) i0_2197 rfl rfl <| ok_cc i0_2198 rfl (cl_v o0 m13_188 na157 rfl rfl (bt rfl) (bt rfl) rfl (by rw [ShModel_k0 hS448, o157])) ln157 (pd157 (aR 448)) <| ok_aloadn (pc' := 1) i157_0 rfl rfl <| ok_getfi (v := 1) (pc' := 4) i157_1 o157 gi9_63 (ShModel_k0 hS448) rd_eq rfl <| ?_
  refine ok_ireti i157_4 rt157 <| kt_v (pc' := 2201) rfl <| ok_iload (pc' := 2203) i0_2201 rfl rfl <| ok_kc1 (pc1 := 2208) (pc2 := 2206) i0_2203 (by decide) rfl rfl <| ok_iload (pc' := 2210) i0_2208 rfl rfl <| ok_kz1 (pc1 := 2225) (pc2 := 2213) i0_2210 (by decide) rfl rfl <| ok_goto (pc' := 3329) i0_2225 rfl <| ?_
  exact K _ _ _ _ _ _ hD (by omega) (Inv_mono (Inv_same hI (Same.thr (Same.thr Same.rfl))) (by omega))
