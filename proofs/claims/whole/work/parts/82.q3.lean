/-! THE LAW'S CASES, 2b (by program, wip/gen) -/
theorem m13_270 : am_mlk 13 270 1 300 = true := by decide +kernel
theorem na300 : am_na 300 = 2 := by decide +kernel
theorem nl300 : am_nL 300 = 3 := by decide +kernel
theorem pd300 : ∀ a0 a1 : AV, am_pad 300 [a0, a1] = [a0, a1, aU] := by intros; unfold am_pad; rw [nl300]; rfl
theorem ln300 : 2 ≤ am_nL 300 := by rw [nl300]; decide
theorem o300 : am_oc 300 = 13 := by decide +kernel
theorem m13_83 : am_mlk 13 83 0 125 = true := by decide +kernel
theorem na125 : am_na 125 = 0 := by decide +kernel
theorem nl125 : am_nL 125 = 3 := by decide +kernel
theorem pd125 : ∀ a0 : AV, am_pad 125 [a0] = [a0, aU, aU] := by intros; unfold am_pad; rw [nl125]; rfl
theorem ln125 : 1 ≤ am_nL 125 := by rw [nl125]; decide
theorem rt125 : am_rt 125 = some .int := by decide +kernel
theorem rt300 : am_rt 300 = some .int := by decide +kernel
theorem m13_272 : am_mlk 13 272 0 226 = true := by decide +kernel
theorem na226 : am_na 226 = 0 := by decide +kernel
theorem nl226 : am_nL 226 = 3 := by decide +kernel
theorem pd226 : ∀ a0 : AV, am_pad 226 [a0] = [a0, aU, aU] := by intros; unfold am_pad; rw [nl226]; rfl
theorem ln226 : 1 ≤ am_nL 226 := by rw [nl226]; decide
theorem rt226 : am_rt 226 = some .int := by decide +kernel
theorem m13_273 : am_mlk 13 273 1 301 = true := by decide +kernel
theorem na301 : am_na 301 = 3 := by decide +kernel
theorem nl301 : am_nL 301 = 4 := by decide +kernel
theorem pd301 : ∀ a0 a1 a2 : AV, am_pad 301 [a0, a1, a2] = [a0, a1, a2, aU] := by intros; unfold am_pad; rw [nl301]; rfl
theorem ln301 : 3 ≤ am_nL 301 := by rw [nl301]; decide
theorem o301 : am_oc 301 = 13 := by decide +kernel
theorem m13_86 : am_mlk 13 86 0 126 = true := by decide +kernel
theorem na126 : am_na 126 = 1 := by decide +kernel
theorem nl126 : am_nL 126 = 2 := by decide +kernel
theorem pd126 : ∀ a0 a1 : AV, am_pad 126 [a0, a1] = [a0, a1] := by intros; unfold am_pad; rw [nl126]; rfl
theorem ln126 : 2 ≤ am_nL 126 := by rw [nl126]; decide
theorem o126 : am_oc 126 = 0 := by decide +kernel
theorem hh126 : am_hh 126 = [] := rfl
theorem hn301 : am_hh 301 ≠ [] := by decide +kernel
theorem hf301_4_10 : am_find 301 4 10 (am_hh 301) = some (15, 13) := by decide +kernel
theorem hr301_15 : am_hret 301 15 = some 2 := by decide +kernel
theorem m13_275 : am_mlk 13 275 0 228 = true := by decide +kernel
theorem na228 : am_na 228 = 1 := by decide +kernel
theorem nl228 : am_nL 228 = 2 := by decide +kernel
theorem pd228 : ∀ a0 a1 : AV, am_pad 228 [a0, a1] = [a0, a1] := by intros; unfold am_pad; rw [nl228]; rfl
theorem ln228 : 2 ≤ am_nL 228 := by rw [nl228]; decide
theorem o228 : am_oc 228 = 9 := by decide +kernel
theorem rt228 : am_rt 228 = some .int := by decide +kernel
theorem gr0_64 : am_gfr 0 64 0 11 = true := by decide +kernel
theorem m0_238 : am_mlk 0 238 0 60 = true := by decide +kernel
theorem na60 : am_na 60 = 1 := by decide +kernel
theorem nl60 : am_nL 60 = 6 := by decide +kernel
theorem pd60 : ∀ a0 a1 : AV, am_pad 60 [a0, a1] = [a0, a1, aU, aU, aU, aU] := by intros; unfold am_pad; rw [nl60]; rfl
theorem ln60 : 2 ≤ am_nL 60 := by rw [nl60]; decide
theorem gi0_241 : am_gfi 0 241 2 2 = true := by decide +kernel
theorem rt126 : am_rt 126 = some .int := by decide +kernel
theorem rt301 : am_rt 301 = some .int := by decide +kernel
theorem m9_289 : am_mlk 9 289 0 229 = true := by decide +kernel
theorem na229 : am_na 229 = 1 := by decide +kernel
theorem nl229 : am_nL 229 = 9 := by decide +kernel
theorem pd229 : ∀ a0 a1 : AV, am_pad 229 [a0, a1] = [a0, a1, aU, aU, aU, aU, aU, aU, aU] := by intros; unfold am_pad; rw [nl229]; rfl
theorem ln229 : 2 ≤ am_nL 229 := by rw [nl229]; decide
theorem m13_276 : am_mlk 13 276 1 302 = true := by decide +kernel
theorem na302 : am_na 302 = 3 := by decide +kernel
theorem nl302 : am_nL 302 = 4 := by decide +kernel
theorem pd302 : ∀ a0 a1 a2 : AV, am_pad 302 [a0, a1, a2] = [a0, a1, a2, aU] := by intros; unfold am_pad; rw [nl302]; rfl
theorem ln302 : 3 ≤ am_nL 302 := by rw [nl302]; decide
theorem o302 : am_oc 302 = 13 := by decide +kernel
theorem m13_89 : am_mlk 13 89 0 127 = true := by decide +kernel
theorem na127 : am_na 127 = 1 := by decide +kernel
theorem nl127 : am_nL 127 = 2 := by decide +kernel
theorem pd127 : ∀ a0 a1 : AV, am_pad 127 [a0, a1] = [a0, a1] := by intros; unfold am_pad; rw [nl127]; rfl
theorem ln127 : 2 ≤ am_nL 127 := by rw [nl127]; decide
theorem o127 : am_oc 127 = 0 := by decide +kernel
theorem hh127 : am_hh 127 = [] := rfl
theorem hn302 : am_hh 302 ≠ [] := by decide +kernel
theorem hf302_4_10 : am_find 302 4 10 (am_hh 302) = some (15, 13) := by decide +kernel
theorem hr302_15 : am_hret 302 15 = some 2 := by decide +kernel
theorem m13_278 : am_mlk 13 278 0 230 = true := by decide +kernel
theorem na230 : am_na 230 = 1 := by decide +kernel
theorem nl230 : am_nL 230 = 2 := by decide +kernel
theorem pd230 : ∀ a0 a1 : AV, am_pad 230 [a0, a1] = [a0, a1] := by intros; unfold am_pad; rw [nl230]; rfl
theorem ln230 : 2 ≤ am_nL 230 := by rw [nl230]; decide
theorem o230 : am_oc 230 = 9 := by decide +kernel
theorem rt230 : am_rt 230 = some .int := by decide +kernel
theorem gi0_244 : am_gfi 0 244 2 3 = true := by decide +kernel
theorem rt127 : am_rt 127 = some .int := by decide +kernel
theorem rt302 : am_rt 302 = some .int := by decide +kernel
theorem m13_279 : am_mlk 13 279 1 303 = true := by decide +kernel
theorem na303 : am_na 303 = 3 := by decide +kernel
theorem nl303 : am_nL 303 = 4 := by decide +kernel
theorem pd303 : ∀ a0 a1 a2 : AV, am_pad 303 [a0, a1, a2] = [a0, a1, a2, aU] := by intros; unfold am_pad; rw [nl303]; rfl
theorem ln303 : 3 ≤ am_nL 303 := by rw [nl303]; decide
theorem o303 : am_oc 303 = 13 := by decide +kernel
theorem m13_92 : am_mlk 13 92 0 128 = true := by decide +kernel
theorem na128 : am_na 128 = 1 := by decide +kernel
theorem nl128 : am_nL 128 = 2 := by decide +kernel
theorem pd128 : ∀ a0 a1 : AV, am_pad 128 [a0, a1] = [a0, a1] := by intros; unfold am_pad; rw [nl128]; rfl
theorem ln128 : 2 ≤ am_nL 128 := by rw [nl128]; decide
theorem o128 : am_oc 128 = 0 := by decide +kernel
theorem hh128 : am_hh 128 = [] := rfl
theorem hn303 : am_hh 303 ≠ [] := by decide +kernel
theorem hf303_4_11 : am_find 303 4 11 (am_hh 303) = some (15, 15) := by decide +kernel
theorem hr303_15 : am_hret 303 15 = some 2 := by decide +kernel
theorem m13_281 : am_mlk 13 281 0 231 = true := by decide +kernel
theorem na231 : am_na 231 = 1 := by decide +kernel
theorem nl231 : am_nL 231 = 2 := by decide +kernel
theorem pd231 : ∀ a0 a1 : AV, am_pad 231 [a0, a1] = [a0, a1] := by intros; unfold am_pad; rw [nl231]; rfl
theorem ln231 : 2 ≤ am_nL 231 := by rw [nl231]; decide
theorem o231 : am_oc 231 = 9 := by decide +kernel
theorem m9_326 : am_mlk 9 326 0 232 = true := by decide +kernel
theorem na232 : am_na 232 = 1 := by decide +kernel
theorem nl232 : am_nL 232 = 2 := by decide +kernel
theorem pd232 : ∀ a0 a1 : AV, am_pad 232 [a0, a1] = [a0, a1] := by intros; unfold am_pad; rw [nl232]; rfl
theorem ln232 : 2 ≤ am_nL 232 := by rw [nl232]; decide
theorem o232 : am_oc 232 = 9 := by decide +kernel
theorem rt232 : am_rt 232 = some .boolean := by decide +kernel
theorem rt231 : am_rt 231 = some .int := by decide +kernel
theorem rt128 : am_rt 128 = some .int := by decide +kernel
theorem rt303 : am_rt 303 = some .int := by decide +kernel
theorem m13_282 : am_mlk 13 282 1 304 = true := by decide +kernel
theorem na304 : am_na 304 = 3 := by decide +kernel
theorem nl304 : am_nL 304 = 4 := by decide +kernel
theorem pd304 : ∀ a0 a1 a2 : AV, am_pad 304 [a0, a1, a2] = [a0, a1, a2, aU] := by intros; unfold am_pad; rw [nl304]; rfl
theorem ln304 : 3 ≤ am_nL 304 := by rw [nl304]; decide
theorem o304 : am_oc 304 = 13 := by decide +kernel
theorem m13_95 : am_mlk 13 95 0 129 = true := by decide +kernel
theorem na129 : am_na 129 = 1 := by decide +kernel
theorem nl129 : am_nL 129 = 2 := by decide +kernel
theorem pd129 : ∀ a0 a1 : AV, am_pad 129 [a0, a1] = [a0, a1] := by intros; unfold am_pad; rw [nl129]; rfl
theorem ln129 : 2 ≤ am_nL 129 := by rw [nl129]; decide
theorem o129 : am_oc 129 = 0 := by decide +kernel
theorem hh129 : am_hh 129 = [] := rfl
theorem hn304 : am_hh 304 ≠ [] := by decide +kernel
theorem hf304_4_11 : am_find 304 4 11 (am_hh 304) = some (15, 15) := by decide +kernel
theorem hr304_15 : am_hret 304 15 = some 2 := by decide +kernel
theorem m13_284 : am_mlk 13 284 0 243 = true := by decide +kernel
theorem na243 : am_na 243 = 1 := by decide +kernel
theorem nl243 : am_nL 243 = 2 := by decide +kernel
theorem pd243 : ∀ a0 a1 : AV, am_pad 243 [a0, a1] = [a0, a1] := by intros; unfold am_pad; rw [nl243]; rfl
theorem ln243 : 2 ≤ am_nL 243 := by rw [nl243]; decide
theorem o243 : am_oc 243 = 9 := by decide +kernel
theorem rt243 : am_rt 243 = some .int := by decide +kernel
theorem rt129 : am_rt 129 = some .int := by decide +kernel
theorem rt304 : am_rt 304 = some .int := by decide +kernel
theorem m13_288 : am_mlk 13 288 1 306 = true := by decide +kernel
theorem na306 : am_na 306 = 2 := by decide +kernel
theorem nl306 : am_nL 306 = 3 := by decide +kernel
theorem pd306 : ∀ a0 a1 : AV, am_pad 306 [a0, a1] = [a0, a1, aU] := by intros; unfold am_pad; rw [nl306]; rfl
theorem ln306 : 2 ≤ am_nL 306 := by rw [nl306]; decide
theorem o306 : am_oc 306 = 13 := by decide +kernel
theorem m13_101 : am_mlk 13 101 0 131 = true := by decide +kernel
theorem na131 : am_na 131 = 0 := by decide +kernel
theorem nl131 : am_nL 131 = 7 := by decide +kernel
theorem pd131 : ∀ a0 : AV, am_pad 131 [a0] = [a0, aU, aU, aU, aU, aU, aU] := by intros; unfold am_pad; rw [nl131]; rfl
theorem ln131 : 1 ≤ am_nL 131 := by rw [nl131]; decide
theorem rt306 : am_rt 306 = some .int := by decide +kernel
theorem m13_290 : am_mlk 13 290 0 248 = true := by decide +kernel
theorem na248 : am_na 248 = 0 := by decide +kernel
theorem nl248 : am_nL 248 = 4 := by decide +kernel
theorem pd248 : ∀ a0 : AV, am_pad 248 [a0] = [a0, aU, aU, aU] := by intros; unfold am_pad; rw [nl248]; rfl
theorem ln248 : 1 ≤ am_nL 248 := by rw [nl248]; decide
theorem m13_291 : am_mlk 13 291 1 307 = true := by decide +kernel
theorem na307 : am_na 307 = 3 := by decide +kernel
theorem nl307 : am_nL 307 = 4 := by decide +kernel
theorem pd307 : ∀ a0 a1 a2 : AV, am_pad 307 [a0, a1, a2] = [a0, a1, a2, aU] := by intros; unfold am_pad; rw [nl307]; rfl
theorem ln307 : 3 ≤ am_nL 307 := by rw [nl307]; decide
theorem o307 : am_oc 307 = 13 := by decide +kernel
theorem m13_104 : am_mlk 13 104 0 132 = true := by decide +kernel
theorem na132 : am_na 132 = 1 := by decide +kernel
theorem nl132 : am_nL 132 = 2 := by decide +kernel
theorem pd132 : ∀ a0 a1 : AV, am_pad 132 [a0, a1] = [a0, a1] := by intros; unfold am_pad; rw [nl132]; rfl
theorem ln132 : 2 ≤ am_nL 132 := by rw [nl132]; decide
theorem o132 : am_oc 132 = 0 := by decide +kernel
theorem hh132 : am_hh 132 = [] := rfl
theorem hn307 : am_hh 307 ≠ [] := by decide +kernel
theorem hf307_4_10 : am_find 307 4 10 (am_hh 307) = some (15, 13) := by decide +kernel
theorem hr307_15 : am_hret 307 15 = some 2 := by decide +kernel
theorem m13_293 : am_mlk 13 293 0 249 = true := by decide +kernel
theorem na249 : am_na 249 = 1 := by decide +kernel
theorem nl249 : am_nL 249 = 2 := by decide +kernel
theorem pd249 : ∀ a0 a1 : AV, am_pad 249 [a0, a1] = [a0, a1] := by intros; unfold am_pad; rw [nl249]; rfl
theorem ln249 : 2 ≤ am_nL 249 := by rw [nl249]; decide
theorem o249 : am_oc 249 = 9 := by decide +kernel
theorem rt249 : am_rt 249 = some .int := by decide +kernel
theorem m0_256 : am_mlk 0 256 0 56 = true := by decide +kernel
theorem rt132 : am_rt 132 = some .int := by decide +kernel
theorem rt307 : am_rt 307 = some .int := by decide +kernel
theorem m13_294 : am_mlk 13 294 1 308 = true := by decide +kernel
theorem na308 : am_na 308 = 2 := by decide +kernel
theorem nl308 : am_nL 308 = 3 := by decide +kernel
theorem pd308 : ∀ a0 a1 : AV, am_pad 308 [a0, a1] = [a0, a1, aU] := by intros; unfold am_pad; rw [nl308]; rfl
theorem ln308 : 2 ≤ am_nL 308 := by rw [nl308]; decide
theorem o308 : am_oc 308 = 13 := by decide +kernel
theorem m13_107 : am_mlk 13 107 0 133 = true := by decide +kernel
theorem na133 : am_na 133 = 0 := by decide +kernel
theorem nl133 : am_nL 133 = 1 := by decide +kernel
theorem pd133 : ∀ a0 : AV, am_pad 133 [a0] = [a0] := by intros; unfold am_pad; rw [nl133]; rfl
theorem ln133 : 1 ≤ am_nL 133 := by rw [nl133]; decide
theorem o133 : am_oc 133 = 0 := by decide +kernel
theorem m0_259 : am_mlk 0 259 0 57 = true := by decide +kernel
theorem na57 : am_na 57 = 0 := by decide +kernel
theorem nl57 : am_nL 57 = 6 := by decide +kernel
theorem pd57 : ∀ a0 : AV, am_pad 57 [a0] = [a0, aU, aU, aU, aU, aU] := by intros; unfold am_pad; rw [nl57]; rfl
theorem ln57 : 1 ≤ am_nL 57 := by rw [nl57]; decide
theorem rt133 : am_rt 133 = some .int := by decide +kernel
theorem rt308 : am_rt 308 = some .int := by decide +kernel
theorem m13_296 : am_mlk 13 296 0 252 = true := by decide +kernel
theorem na252 : am_na 252 = 0 := by decide +kernel
theorem nl252 : am_nL 252 = 6 := by decide +kernel
theorem pd252 : ∀ a0 : AV, am_pad 252 [a0] = [a0, aU, aU, aU, aU, aU] := by intros; unfold am_pad; rw [nl252]; rfl
theorem ln252 : 1 ≤ am_nL 252 := by rw [nl252]; decide
theorem m13_297 : am_mlk 13 297 1 309 = true := by decide +kernel
theorem na309 : am_na 309 = 3 := by decide +kernel
theorem nl309 : am_nL 309 = 4 := by decide +kernel
theorem pd309 : ∀ a0 a1 a2 : AV, am_pad 309 [a0, a1, a2] = [a0, a1, a2, aU] := by intros; unfold am_pad; rw [nl309]; rfl
theorem ln309 : 3 ≤ am_nL 309 := by rw [nl309]; decide
theorem o309 : am_oc 309 = 13 := by decide +kernel
theorem m13_110 : am_mlk 13 110 0 134 = true := by decide +kernel
theorem na134 : am_na 134 = 1 := by decide +kernel
theorem nl134 : am_nL 134 = 2 := by decide +kernel
theorem pd134 : ∀ a0 a1 : AV, am_pad 134 [a0, a1] = [a0, a1] := by intros; unfold am_pad; rw [nl134]; rfl
theorem ln134 : 2 ≤ am_nL 134 := by rw [nl134]; decide
theorem o134 : am_oc 134 = 0 := by decide +kernel
theorem hh134 : am_hh 134 = [] := rfl
theorem hn309 : am_hh 309 ≠ [] := by decide +kernel
theorem hf309_4_10 : am_find 309 4 10 (am_hh 309) = some (15, 13) := by decide +kernel
theorem hr309_15 : am_hret 309 15 = some 2 := by decide +kernel
theorem m13_299 : am_mlk 13 299 0 253 = true := by decide +kernel
theorem na253 : am_na 253 = 1 := by decide +kernel
theorem nl253 : am_nL 253 = 5 := by decide +kernel
theorem pd253 : ∀ a0 a1 : AV, am_pad 253 [a0, a1] = [a0, a1, aU, aU, aU] := by intros; unfold am_pad; rw [nl253]; rfl
theorem ln253 : 2 ≤ am_nL 253 := by rw [nl253]; decide
theorem m0_262 : am_mlk 0 262 0 58 = true := by decide +kernel
theorem na58 : am_na 58 = 1 := by decide +kernel
theorem nl58 : am_nL 58 = 3 := by decide +kernel
theorem pd58 : ∀ a0 a1 : AV, am_pad 58 [a0, a1] = [a0, a1, aU] := by intros; unfold am_pad; rw [nl58]; rfl
theorem ln58 : 2 ≤ am_nL 58 := by rw [nl58]; decide
theorem rt134 : am_rt 134 = some .int := by decide +kernel
theorem rt309 : am_rt 309 = some .int := by decide +kernel
theorem m13_310 : am_mlk 13 310 0 94 = true := by decide +kernel
theorem na94 : am_na 94 = 0 := by decide +kernel
theorem nl94 : am_nL 94 = 1 := by decide +kernel
theorem pd94 : ∀ a0 : AV, am_pad 94 [a0] = [a0] := by intros; unfold am_pad; rw [nl94]; rfl
theorem ln94 : 1 ≤ am_nL 94 := by rw [nl94]; decide
theorem o94 : am_oc 94 = 0 := by decide +kernel
theorem gi0_272 : am_gfi 0 272 5 7 = true := by decide +kernel
theorem rt94 : am_rt 94 = some .int := by decide +kernel
theorem m13_313 : am_mlk 13 313 0 257 = true := by decide +kernel
theorem na257 : am_na 257 = 0 := by decide +kernel
theorem nl257 : am_nL 257 = 1 := by decide +kernel
theorem pd257 : ∀ a0 : AV, am_pad 257 [a0] = [a0] := by intros; unfold am_pad; rw [nl257]; rfl
theorem ln257 : 1 ≤ am_nL 257 := by rw [nl257]; decide
theorem o257 : am_oc 257 = 9 := by decide +kernel
theorem m9_341 : am_mlk 9 341 0 258 = true := by decide +kernel
theorem na258 : am_na 258 = 1 := by decide +kernel
theorem nl258 : am_nL 258 = 2 := by decide +kernel
theorem pd258 : ∀ a0 a1 : AV, am_pad 258 [a0, a1] = [a0, a1] := by intros; unfold am_pad; rw [nl258]; rfl
theorem ln258 : 2 ≤ am_nL 258 := by rw [nl258]; decide
theorem o258 : am_oc 258 = 9 := by decide +kernel
theorem pi258_63 : am_pfi 258 9 63 9 0 = true := by decide +kernel
theorem rt258 : am_rt 258 = some .int := by decide +kernel
theorem rt257 : am_rt 257 = some .int := by decide +kernel
theorem m13_314 : am_mlk 13 314 1 313 = true := by decide +kernel
theorem na313 : am_na 313 = 4 := by decide +kernel
theorem nl313 : am_nL 313 = 5 := by decide +kernel
theorem pd313 : ∀ a0 a1 a2 a3 : AV, am_pad 313 [a0, a1, a2, a3] = [a0, a1, a2, a3, aU] := by intros; unfold am_pad; rw [nl313]; rfl
theorem ln313 : 4 ≤ am_nL 313 := by rw [nl313]; decide
theorem o313 : am_oc 313 = 13 := by decide +kernel
theorem m13_124 : am_mlk 13 124 0 138 = true := by decide +kernel
theorem na138 : am_na 138 = 2 := by decide +kernel
theorem nl138 : am_nL 138 = 3 := by decide +kernel
theorem pd138 : ∀ a0 a1 a2 : AV, am_pad 138 [a0, a1, a2] = [a0, a1, a2] := by intros; unfold am_pad; rw [nl138]; rfl
theorem ln138 : 3 ≤ am_nL 138 := by rw [nl138]; decide
theorem o138 : am_oc 138 = 0 := by decide +kernel
theorem th138_19 : am_thk 138 19 10 = true := by decide +kernel
theorem hn313 : am_hh 313 ≠ [] := by decide +kernel
theorem hf313_5_10 : am_find 313 5 10 (am_hh 313) = some (17, 13) := by decide +kernel
theorem hr313_17 : am_hret 313 17 = some 2 := by decide +kernel
theorem m13_316 : am_mlk 13 316 0 260 = true := by decide +kernel
theorem na260 : am_na 260 = 2 := by decide +kernel
theorem nl260 : am_nL 260 = 3 := by decide +kernel
theorem pd260 : ∀ a0 a1 a2 : AV, am_pad 260 [a0, a1, a2] = [a0, a1, a2] := by intros; unfold am_pad; rw [nl260]; rfl
theorem ln260 : 3 ≤ am_nL 260 := by rw [nl260]; decide
theorem o260 : am_oc 260 = 9 := by decide +kernel
theorem rt260 : am_rt 260 = some .int := by decide +kernel
theorem hh138 : am_hh 138 = [] := rfl
theorem hf313_5_11 : am_find 313 5 11 (am_hh 313) = some (21, 15) := by decide +kernel
theorem hr313_21 : am_hret 313 21 = some 3 := by decide +kernel
theorem gr0_277 : am_gfr 0 277 5 8 = true := by decide +kernel
theorem rt138 : am_rt 138 = some .int := by decide +kernel
theorem rt313 : am_rt 313 = some .int := by decide +kernel
theorem m13_207 : am_mlk 13 207 1 280 = true := by decide +kernel
theorem na280 : am_na 280 = 3 := by decide +kernel
theorem nl280 : am_nL 280 = 4 := by decide +kernel
theorem pd280 : ∀ a0 a1 a2 : AV, am_pad 280 [a0, a1, a2] = [a0, a1, a2, aU] := by intros; unfold am_pad; rw [nl280]; rfl
theorem ln280 : 3 ≤ am_nL 280 := by rw [nl280]; decide
theorem o280 : am_oc 280 = 13 := by decide +kernel
theorem m13_17 : am_mlk 13 17 0 98 = true := by decide +kernel
theorem na98 : am_na 98 = 1 := by decide +kernel
theorem nl98 : am_nL 98 = 2 := by decide +kernel
theorem pd98 : ∀ a0 a1 : AV, am_pad 98 [a0, a1] = [a0, a1] := by intros; unfold am_pad; rw [nl98]; rfl
theorem ln98 : 2 ≤ am_nL 98 := by rw [nl98]; decide
theorem o98 : am_oc 98 = 0 := by decide +kernel
theorem rt98 : am_rt 98 = some .int := by decide +kernel
theorem rt280 : am_rt 280 = some .int := by decide +kernel
theorem m13_209 : am_mlk 13 209 0 187 = true := by decide +kernel
theorem na187 : am_na 187 = 1 := by decide +kernel
theorem nl187 : am_nL 187 = 4 := by decide +kernel
theorem pd187 : ∀ a0 a1 : AV, am_pad 187 [a0, a1] = [a0, a1, aU, aU] := by intros; unfold am_pad; rw [nl187]; rfl
theorem ln187 : 2 ≤ am_nL 187 := by rw [nl187]; decide
theorem rt187 : am_rt 187 = some .int := by decide +kernel
theorem m0_144 : am_mlk 0 144 0 18 = true := by decide +kernel
theorem na18 : am_na 18 = 0 := by decide +kernel
theorem nl18 : am_nL 18 = 3 := by decide +kernel
theorem pd18 : ∀ a0 : AV, am_pad 18 [a0] = [a0, aU, aU] := by intros; unfold am_pad; rw [nl18]; rfl
theorem ln18 : 1 ≤ am_nL 18 := by rw [nl18]; decide
theorem m0_147 : am_mlk 0 147 0 19 = true := by decide +kernel
theorem na19 : am_na 19 = 0 := by decide +kernel
theorem nl19 : am_nL 19 = 3 := by decide +kernel
theorem pd19 : ∀ a0 : AV, am_pad 19 [a0] = [a0, aU, aU] := by intros; unfold am_pad; rw [nl19]; rfl
theorem ln19 : 1 ≤ am_nL 19 := by rw [nl19]; decide
theorem m0_150 : am_mlk 0 150 0 20 = true := by decide +kernel
theorem m0_153 : am_mlk 0 153 0 21 = true := by decide +kernel
theorem na21 : am_na 21 = 0 := by decide +kernel
theorem nl21 : am_nL 21 = 3 := by decide +kernel
theorem pd21 : ∀ a0 : AV, am_pad 21 [a0] = [a0, aU, aU] := by intros; unfold am_pad; rw [nl21]; rfl
theorem ln21 : 1 ≤ am_nL 21 := by rw [nl21]; decide
theorem c26_1 {L n : Nat} {g : AG} {M : AM} {xs : Nat → Int32} {b i : Int} {w6 w7 w8 : AV} {Q : AO → AG → AM → Prop} (hD : HD L n g) (hI : Inv xs b M) (hi : 0 ≤ i ∧ i + 6 ≤ L) (hb : 0 ≤ b ∧ b ≤ 900000) (hl : M 100 6 = 1) (K : KK L n i b xs Q) :
    Ok 10 0 1636 [aR 1, aR 100, aR 448, aR 464, aR 465, aI i, w6, w7, w8] [] g M Q := by
  have hI0 := hI
  obtain ⟨hA, hld, hl01, q, hc, ⟨nx, sz, hH, hsz⟩, hS⟩ := hI0
  have hH0 := hH
  obtain ⟨⟨hn1, hn0⟩, ⟨hz2, hz0⟩, h10, hHj⟩ := hH0
  obtain ⟨hw0, ⟨bu, by_, hb1, hb13, hbu, hZ, hU⟩, he3, he4, he5, hId, tx, hT, hUt, htl, htr⟩ := hA
  obtain ⟨s, hP, hRB, hO, hV, hQ, h40⟩ := hc hl
  have ys3 := V_3 hV
  have ys4 := V_4 hV
  have yq0 := Q_0 hQ
  have yq1 := Q_1 hQ
  have hS100 := HD_y hD
  have hS138 := HD_p hD
  have hS149 := HD_b hD
  have hS173 := HD_w hD
  have hS448 := HD_o hD
  have hS464 := HD_u hD
  refine ok_aloadn (pc' := 1637) i0_1636 rfl rfl <| ok_aloadn (pc' := 1638) i0_1637 rfl rfl <| ok_cc i0_1638 rfl (cl_s o0 m13_270 na300 rfl rfl (bt rfl) (bt rfl) rfl) ln300 (pd300 (aR 100) (aR 464)) <| ok_aloadn (pc' := 1) i300_0 rfl rfl <| ok_iconst (pc' := 2) i300_1 rfl <| ok_aloadn (pc' := 3) i300_2 rfl rfl <| ok_cc i300_3 rfl (cl_v o300 m13_83 na125 rfl rfl (bt rfl) (bt rfl) rfl (by rw [ShYard_k0 hS100, o125])) ln125 (pd125 (aR 100)) <| ok_aloadn (pc' := 1) i125_0 rfl rfl <| ?_
  refine ok_cc i125_1 rfl (cl_v o125 m0_132 na99 rfl rfl (bt rfl) (bt rfl) rfl (by rw [ShYard_k0 hS100, o99])) ln99 (pd99 (aR 100)) <| ok_aloadn (pc' := 1) i99_0 rfl rfl <| ok_getfi (v := 1) (pc' := 4) i99_1 o99 gi0_268 (ShYard_k0 hS100) hl rfl <| ok_kz1 (pc1 := 18) (pc2 := 7) i99_4 (by decide) rfl rfl <| ok_vret i99_18 rt99 <| kt_0 (pc' := 4) rfl <| ok_iconst (pc' := 5) i125_4 rfl <| ok_istoren (pc' := 6) (ls' := [aR 100, aI 0, aU]) i125_5 (bt rfl) rfl rfl <| ?_
  refine ok_iconst (pc' := 7) i125_6 rfl <| ok_istoren (pc' := 8) (ls' := [aR 100, aI 0, aI 0]) i125_7 (bt rfl) rfl rfl <| ?_
  refine w125_8 hS100 hS173 hS138 hS149 hP hRB hQ hV  (?_)
  refine ok_iloadn (pc' := 43) i125_42 rfl rfl <| ok_ireti i125_43 rt125 <| kt_v (pc' := 6) rfl <| ok_i2l (v := (wr (itv (f125_8 q s) 0 0 ((q 1).toNat)))) (pc' := 7) i300_6 rfl rfl <| ok_lastore (pc' := 8) i300_7 (ShOut_k0 hS464) (ShOut_l0 hS464) (by decide) rfl <| ok_goto (pc' := 14) i300_8 rfl <| ok_iconst (pc' := 15) i300_14 rfl <| ok_ireti i300_15 rt300 <| ?_
  refine kt_v (pc' := 1641) rfl <| ok_istore (pc' := 1643) (ls' := [aR 1, aR 100, aR 448, aR 464, aR 465, aI i, aI 0, w7, w8]) i0_1641 (bt rfl) rfl rfl <| ok_aloadn (pc' := 1644) i0_1643 rfl rfl <| ok_cc i0_1644 rfl (cl_v o0 m13_272 na226 rfl rfl (bt rfl) (bt rfl) rfl (by rw [ShModel_k0 hS448, o226])) ln226 (pd226 (aR 448)) <| ok_aloadn (pc' := 1) i226_0 rfl rfl <| ok_cc i226_1 rfl (cl_v o226 m9_216 na188 rfl rfl (bt rfl) (bt rfl) rfl (by rw [ShModel_k0 hS448, o188])) ln188 (pd188 (aR 448)) <| ok_aloadn (pc' := 1) i188_0 rfl rfl <| ok_iconst (pc' := 2) i188_1 rfl <| ?_
  refine ok_putfj (kk := 0) (pc' := 5) i188_2 o188 pi188_63 (ShModel_k0 hS448) rfl rfl <| ok_aloadn (pc' := 6) i188_5 rfl rfl <| ok_aloadn (pc' := 7) i188_6 rfl rfl <| ok_getfi (v := 1) (pc' := 10) i188_7 o188 gi9_66 (ShModel_k0 hS448) (rd_ni (by decide) (rd_na (by omega) (hld.trans hl))) rfl <| ok_kz1 (pc1 := 17) (pc2 := 13) i188_10 (by decide) rfl rfl <| ok_iconst (pc' := 18) i188_17 rfl <| ok_iconst (pc' := 19) i188_18 rfl <| ok_cc i188_19 rfl (cl_v o188 m9_70 na165 rfl rfl (bt rfl) (bt rfl) rfl (by rw [ShModel_k0 hS448, o165])) ln165 (pd165 (aR 448) (aI 0) (aI 1)) <| ?_
  refine ok_aloadn (pc' := 1) i165_0 rfl rfl <| ok_getfi (v := 0) (pc' := 4) i165_1 o165 gi9_63 (ShModel_k0 hS448) rd_eq rfl <| ok_kz0 (pc1 := 16) (pc2 := 7) i165_4 (by decide) rfl rfl <| ok_iloadn (pc' := 8) i165_7 rfl rfl <| ok_kz1 (pc1 := 16) (pc2 := 11) i165_8 (by decide) rfl rfl <| ok_aloadn (pc' := 17) i165_16 rfl rfl <| ok_getfi (v := 0) (pc' := 20) i165_17 o165 gi9_63 (ShModel_k0 hS448) rd_eq rfl <| ok_kz1 (pc1 := 27) (pc2 := 23) i165_20 (by decide) rfl rfl <| ?_
  refine ok_iconst (pc' := 28) i165_27 rfl <| ok_iretz i165_28 rt165 (by decide) <| kt_v (pc' := 22) rfl <| ok_iretz i188_22 rt188 (by decide) <| kt_v (pc' := 4) rfl <| ok_kz1 (pc1 := 9) (pc2 := 7) i226_4 (by decide) rfl rfl <| ok_iconst (pc' := 10) i226_9 rfl <| ok_istoren (pc' := 11) (ls' := [aR 448, aI 0, aU]) i226_10 (bt rfl) rfl rfl <| ?_
  refine ok_iconst (pc' := 12) i226_11 rfl <| ok_istoren (pc' := 13) (ls' := [aR 448, aI 0, aI 0]) i226_12 (bt rfl) rfl rfl <| ?_
  refine w226_13 hS448 (RepO.fr hO ⟨(by rw [up2_rd, if_neg (by omega), up2_na (by omega)]), (by rw [up2_rd, if_neg (by omega), up2_na (by omega)])⟩ (fun a h1 h2 => (by rw [up2_na (by omega), up2_na (by omega)]))) hV hQ  (?_)
  refine ok_iloadn (pc' := 46) i226_45 rfl rfl <| ok_ireti i226_46 rt226 <| kt_v (pc' := 1647) rfl <| ok_istore (pc' := 1649) (ls' := [aR 1, aR 100, aR 448, aR 464, aR 465, aI i, aI 0, aI (itv (f226_13 s q) 0 0 ((q 1).toNat)), w8]) i0_1647 (bt rfl) rfl rfl <| ok_aloadn (pc' := 1650) i0_1649 rfl rfl <| ok_cc i0_1650 rfl (cl_v o0 m13_188 na157 rfl rfl (bt rfl) (bt rfl) rfl (by rw [ShModel_k0 hS448, o157])) ln157 (pd157 (aR 448)) <| ok_aloadn (pc' := 1) i157_0 rfl rfl <| ok_getfi (v := 0) (pc' := 4) i157_1 o157 gi9_63 (ShModel_k0 hS448) rd_eq rfl <| ?_
  refine ok_ireti i157_4 rt157 <| kt_v (pc' := 1653) rfl <| ok_iload (pc' := 1655) i0_1653 rfl rfl <| ok_kc1 (pc1 := 1660) (pc2 := 1658) i0_1655 (by decide) rfl rfl <| ok_iload (pc' := 1662) i0_1660 rfl rfl <| ok_kz0 (pc1 := 1677) (pc2 := 1665) i0_1662 (by decide) rfl rfl <| ok_aloadn (pc' := 1666) i0_1665 rfl rfl <| ok_iconst (pc' := 1667) i0_1666 rfl <| ?_
  refine ok_laload (v := (wr (itv (f125_8 q s) 0 0 ((q 1).toNat)))) (pc' := 1668) i0_1667 (ShOut_k0 hS464) (ShOut_l0 hS464) (by decide) (rd_na (by omega) rd_eq) rfl <| ok_iload (pc' := 1670) i0_1668 rfl rfl <| ok_i2l (v := (wr (itv (f226_13 s q) 0 0 ((q 1).toNat)))) (pc' := 1671) i0_1670 rfl rfl <| ok_lcmpe (congrArg wr (e_226 (q := q) (s := s) _)) (pc' := 1672) i0_1671 rfl <| ok_kz1 (pc1 := 1677) (pc2 := 1675) i0_1672 (by decide) rfl rfl <| ok_goto (pc' := 3329) i0_1677 rfl <| ?_
  exact K _ _ _ _ _ _ hD (by omega) (Inv_mono (Inv_same hI (Same.thr (Same.out Same.rfl))) (by omega))
theorem c27_1 {L n : Nat} {g : AG} {M : AM} {xs : Nat → Int32} {b i : Int} {w6 w7 w8 : AV} {Q : AO → AG → AM → Prop} (hD : HD L n g) (hI : Inv xs b M) (hi : 0 ≤ i ∧ i + 6 ≤ L) (hb : 0 ≤ b ∧ b ≤ 900000) (hl : M 100 6 = 1) (K : KK L n i b xs Q) :
    Ok 10 0 1680 [aR 1, aR 100, aR 448, aR 464, aR 465, aI i, w6, w7, w8] [] g M Q := by
  have hI0 := hI
  obtain ⟨hA, hld, hl01, q, hc, ⟨nx, sz, hH, hsz⟩, hS⟩ := hI0
  have hH0 := hH
  obtain ⟨⟨hn1, hn0⟩, ⟨hz2, hz0⟩, h10, hHj⟩ := hH0
  obtain ⟨hw0, ⟨bu, by_, hb1, hb13, hbu, hZ, hU⟩, he3, he4, he5, hId, tx, hT, hUt, htl, htr⟩ := hA
  obtain ⟨s, hP, hRB, hO, hV, hQ, h40⟩ := hc hl
  have ys3 := V_3 hV
  have ys4 := V_4 hV
  have yq0 := Q_0 hQ
  have yq1 := Q_1 hQ
  obtain ⟨v1, hv1⟩ : ∃ u9 : Int, M 1 (i + 1) = u9 := ⟨_, rfl⟩
  have hr1 : -2147483648 ≤ v1 ∧ v1 < 2147483648 := hv1 ▸ scr_rg hw0 (i + 1)
  have hS1 := HD_s hD
  have hS100 := HD_y hD
  have hS149 := HD_b hD
  have hS200 := HD_k hD
  have hS448 := HD_o hD
  have hS464 := HD_u hD
  have hS465 := HD_ud hD
  refine ok_aloadn (pc' := 1681) i0_1680 rfl rfl <| ok_aloadn (pc' := 1682) i0_1681 rfl rfl <| ok_iload (pc' := 1684) i0_1682 rfl rfl <| ok_iconst (pc' := 1685) i0_1684 rfl <| ok_iadd (v := (i + 1)) (pc' := 1686) i0_1685 rfl rfl <| ok_iaload (v := v1) (pc' := 1687) i0_1686 (ShScr_k0 hS1) (by decide) (ShScr_l0 hS1) (by omega) hv1 rfl <| ok_aloadn (pc' := 1688) i0_1687 rfl rfl <| ok_cc i0_1688 rfl (cl_s o0 m13_273 na301 rfl rfl (bt rfl) (bt rfl) rfl) ln301 (pd301 (aR 100) (aI v1) (aR 464)) <| ?_
  refine ok_aloadn (pc' := 1) i301_0 rfl rfl <| ok_iconst (pc' := 2) i301_1 rfl <| ok_aloadn (pc' := 3) i301_2 rfl rfl <| ok_iloadn (pc' := 4) i301_3 rfl rfl <| ok_cc i301_4 rfl (cl_v o301 m13_86 na126 rfl rfl (bt rfl) (bt rfl) rfl (by rw [ShYard_k0 hS100, o126])) ln126 (pd126 (aR 100) (aI v1)) <| ok_aloadn (pc' := 1) i126_0 rfl rfl <| ok_cc i126_1 rfl (cl_v o126 m0_132 na99 rfl rfl (bt rfl) (bt rfl) rfl (by rw [ShYard_k0 hS100, o99])) ln99 (pd99 (aR 100)) <| ok_aloadn (pc' := 1) i99_0 rfl rfl <| ?_
  refine ok_getfi (v := 1) (pc' := 4) i99_1 o99 gi0_268 (ShYard_k0 hS100) hl rfl <| ok_kz1 (pc1 := 18) (pc2 := 7) i99_4 (by decide) rfl rfl <| ok_vret i99_18 rt99 <| kt_0 (pc' := 4) rfl <| ok_aloadn (pc' := 5) i126_4 rfl rfl <| ok_iloadn (pc' := 6) i126_5 rfl rfl <| ok_cc i126_6 rfl (cl_v o126 m0_169 na103 rfl rfl (bt rfl) (bt rfl) rfl (by rw [ShYard_k0 hS100, o103])) ln103 (pd103 (aR 100) (aI v1)) <| ok_iloadn (pc' := 1) i103_0 rfl rfl <| ?_
  refine ok_zlt (pc1 := 15) (pc2 := 4) i103_1 (by omega) rfl rfl (fun h501 => ?_) (fun h501 => ?_)
  · refine ok_throw th103_15 (bt rfl) <| kt_x hh126 <| kt_h hn301 hf301_4_10 hr301_15 <| kt_v (pc' := 1691) rfl <| ?_
    refine ok_al hD (fun g hD => ?_)
    have hS448 := HD_o hD
    have hS1 := HD_s hD
    have hS464 := HD_u hD
    have hS465 := HD_ud hD
    refine ok_istore (pc' := 1693) (ls' := [aR 1, aR 100, aR 448, aR 464, aR 465, aI i, aI 2, w7, w8]) i0_1691 (bt rfl) rfl rfl <| ok_aloadn (pc' := 1694) i0_1693 rfl rfl <| ok_aloadn (pc' := 1695) i0_1694 rfl rfl <| ok_iload (pc' := 1697) i0_1695 rfl rfl <| ok_iconst (pc' := 1698) i0_1697 rfl <| ok_iadd (v := (i + 1)) (pc' := 1699) i0_1698 rfl rfl <| ok_iaload (v := v1) (pc' := 1700) i0_1699 (ShScr_k0 hS1) (by decide) (ShScr_l0 hS1) (by omega) hv1 rfl <| ok_cc i0_1700 rfl (cl_v o0 m13_275 na228 rfl rfl (bt rfl) (bt rfl) rfl (by rw [ShModel_k0 hS448, o228])) ln228 (pd228 (aR 448) (aI v1)) <| ?_
    refine ok_aloadn (pc' := 1) i228_0 rfl rfl <| ok_iloadn (pc' := 2) i228_1 rfl rfl <| ok_cc i228_2 rfl (cl_v o228 m9_241 na196 rfl rfl (bt rfl) (bt rfl) rfl (by rw [ShModel_k0 hS448, o196])) ln196 (pd196 (aR 448) (aI v1)) <| ok_aloadn (pc' := 1) i196_0 rfl rfl <| ok_cc i196_1 rfl (cl_v o196 m9_216 na188 rfl rfl (bt rfl) (bt rfl) rfl (by rw [ShModel_k0 hS448, o188])) ln188 (pd188 (aR 448)) <| ok_aloadn (pc' := 1) i188_0 rfl rfl <| ok_iconst (pc' := 2) i188_1 rfl <| ok_putfj (kk := 0) (pc' := 5) i188_2 o188 pi188_63 (ShModel_k0 hS448) rfl rfl <| ?_
    refine ok_aloadn (pc' := 6) i188_5 rfl rfl <| ok_aloadn (pc' := 7) i188_6 rfl rfl <| ok_getfi (v := 1) (pc' := 10) i188_7 o188 gi9_66 (ShModel_k0 hS448) (rd_ni (by decide) (hld.trans hl)) rfl <| ok_kz1 (pc1 := 17) (pc2 := 13) i188_10 (by decide) rfl rfl <| ok_iconst (pc' := 18) i188_17 rfl <| ok_iconst (pc' := 19) i188_18 rfl <| ok_cc i188_19 rfl (cl_v o188 m9_70 na165 rfl rfl (bt rfl) (bt rfl) rfl (by rw [ShModel_k0 hS448, o165])) ln165 (pd165 (aR 448) (aI 0) (aI 1)) <| ok_aloadn (pc' := 1) i165_0 rfl rfl <| ?_
    refine ok_getfi (v := 0) (pc' := 4) i165_1 o165 gi9_63 (ShModel_k0 hS448) rd_eq rfl <| ok_kz0 (pc1 := 16) (pc2 := 7) i165_4 (by decide) rfl rfl <| ok_iloadn (pc' := 8) i165_7 rfl rfl <| ok_kz1 (pc1 := 16) (pc2 := 11) i165_8 (by decide) rfl rfl <| ok_aloadn (pc' := 17) i165_16 rfl rfl <| ok_getfi (v := 0) (pc' := 20) i165_17 o165 gi9_63 (ShModel_k0 hS448) rd_eq rfl <| ok_kz1 (pc1 := 27) (pc2 := 23) i165_20 (by decide) rfl rfl <| ok_iconst (pc' := 28) i165_27 rfl <| ?_
    refine ok_iretz i165_28 rt165 (by decide) <| kt_v (pc' := 22) rfl <| ok_iretz i188_22 rt188 (by decide) <| kt_v (pc' := 4) rfl <| ok_kz0 (pc1 := 28) (pc2 := 7) i196_4 (by decide) rfl rfl <| ok_aloadn (pc' := 8) i196_7 rfl rfl <| ok_aloadn (pc' := 9) i196_8 rfl rfl <| ok_iloadn (pc' := 10) i196_9 rfl rfl <| ?_
    refine ok_cc i196_10 rfl (cl_v o196 m9_220 na197 rfl rfl (bt rfl) (bt rfl) rfl (by rw [ShModel_k0 hS448, o197])) ln197 (pd197 (aR 448) (aI v1)) <| ok_iloadn (pc' := 1) i197_0 rfl rfl <| ok_iconst (pc' := 2) i197_1 rfl <| ok_aloadn (pc' := 3) i197_2 rfl rfl <| ok_getfr (r := (448 + 5)) (pc' := 6) i197_3 o197 gr9_22 (ShModel_k0 hS448) (ShModel_r8 hS448) rfl <| ok_iconst (pc' := 7) i197_6 rfl <| ok_iaload (v := (s 3)) (pc' := 8) i197_7 (ShModel_k5 hS448) (by decide) (ShModel_l5 hS448) (by decide) (rd_na (by omega) (RepO_s hO)) rfl <| ok_iconst (pc' := 9) i197_8 rfl <| ?_
    refine ok_isub (v := ((s 3) - 1)) (pc' := 10) i197_9 rfl rfl <| ok_cc i197_10 rfl (cl_s o197 m9_140 na164 rfl rfl (bt rfl) (bt rfl) rfl) ln164 (pd164 (aI v1) (aI 0) (aI ((s 3) - 1))) <| ok_iloadn (pc' := 1) i164_0 rfl rfl <| ok_iloadn (pc' := 2) i164_1 rfl rfl <| ?_
    refine ok_clt (pc1 := 14) (pc2 := 5) i164_2 (by omega) rfl rfl (fun h502 => ?_) (fun h9 => by exfalso; omega)
    refine ok_iconst (pc' := 15) i164_14 rfl <| ok_iretz i164_15 rt164 (by decide) <| kt_v (pc' := 13) rfl <| ok_iretz i197_13 rt197 (by decide) <| kt_v (pc' := 13) rfl <| ok_kz0 (pc1 := 20) (pc2 := 16) i196_13 (by decide) rfl rfl <| ok_iconst (pc' := 17) i196_16 rfl <| ok_goto (pc' := 21) i196_17 rfl <| ?_
    refine ok_iconst (pc' := 22) i196_21 rfl <| ok_cc i196_22 rfl (cl_v o196 m9_70 na165 rfl rfl (bt rfl) (bt rfl) rfl (by rw [ShModel_k0 hS448, o165])) ln165 (pd165 (aR 448) (aI 1) (aI 2)) <| ok_aloadn (pc' := 1) i165_0 rfl rfl <| ok_getfi (v := 0) (pc' := 4) i165_1 o165 gi9_63 (ShModel_k0 hS448) rd_eq rfl <| ok_kz0 (pc1 := 16) (pc2 := 7) i165_4 (by decide) rfl rfl <| ok_iloadn (pc' := 8) i165_7 rfl rfl <| ok_kz0 (pc1 := 16) (pc2 := 11) i165_8 (by decide) rfl rfl <| ok_aloadn (pc' := 12) i165_11 rfl rfl <| ?_
    refine ok_iloadn (pc' := 13) i165_12 rfl rfl <| ok_putfj (kk := 0) (pc' := 16) i165_13 o165 pi165_63 (ShModel_k0 hS448) rfl rfl <| ok_aloadn (pc' := 17) i165_16 rfl rfl <| ok_getfi (v := 2) (pc' := 20) i165_17 o165 gi9_63 (ShModel_k0 hS448) rd_eq rfl <| ok_kz0 (pc1 := 27) (pc2 := 23) i165_20 (by decide) rfl rfl <| ok_iconst (pc' := 24) i165_23 rfl <| ok_goto (pc' := 28) i165_24 rfl <| ok_iretz i165_28 rt165 (by decide) <| ?_
    refine kt_v (pc' := 25) rfl <| ok_kz0 (pc1 := 32) (pc2 := 28) i196_25 (by decide) rfl rfl <| ok_iconst (pc' := 29) i196_28 rfl <| ok_goto (pc' := 33) i196_29 rfl <| ok_iretz i196_33 rt196 (by decide) <| kt_v (pc' := 5) rfl <| ok_kz0 (pc1 := 10) (pc2 := 8) i228_5 (by decide) rfl rfl <| ok_iconst (pc' := 9) i228_8 rfl <| ?_
    refine ok_ireti i228_9 rt228 <| kt_v (pc' := 1703) rfl <| ok_istore (pc' := 1705) (ls' := [aR 1, aR 100, aR 448, aR 464, aR 465, aI i, aI 2, aI 0, w8]) i0_1703 (bt rfl) rfl rfl <| ok_aloadn (pc' := 1706) i0_1705 rfl rfl <| ok_cc i0_1706 rfl (cl_v o0 m13_188 na157 rfl rfl (bt rfl) (bt rfl) rfl (by rw [ShModel_k0 hS448, o157])) ln157 (pd157 (aR 448)) <| ok_aloadn (pc' := 1) i157_0 rfl rfl <| ok_getfi (v := 2) (pc' := 4) i157_1 o157 gi9_63 (ShModel_k0 hS448) rd_eq rfl <| ok_ireti i157_4 rt157 <| ?_
    refine kt_v (pc' := 1709) rfl <| ok_iload (pc' := 1711) i0_1709 rfl rfl <| ok_kc1 (pc1 := 1716) (pc2 := 1714) i0_1711 (by decide) rfl rfl <| ok_iload (pc' := 1718) i0_1716 rfl rfl <| ok_kz1 (pc1 := 1733) (pc2 := 1721) i0_1718 (by decide) rfl rfl <| ok_goto (pc' := 3329) i0_1733 rfl <| ?_
    exact K _ _ _ _ _ _ hD (by omega) (Inv_mono (Inv_same hI (Same.thr (Same.thr Same.rfl))) (by omega))
  · refine ok_iloadn (pc' := 5) i103_4 rfl rfl <| ok_aloadn (pc' := 6) i103_5 rfl rfl <| ok_getfr (r := 149) (pc' := 9) i103_6 o103 gr0_39 (ShYard_k0 hS100) (ShYard_r8 hS100) rfl <| ok_getfi (v := (s 3)) (pc' := 12) i103_9 o103 gi0_129 (ShState_k0 hS149) (RepS_f2 hRB) rfl <| ?_
    refine ok_clt (pc1 := 26) (pc2 := 15) i103_12 (by omega) rfl rfl (fun h503 => ?_) (fun h503 => ?_)
    · refine ok_vret i103_26 rt103 <| kt_0 (pc' := 9) rfl <| ok_aloadn (pc' := 10) i126_9 rfl rfl <| ok_getfr (r := 200) (pc' := 13) i126_10 o126 gr0_64 (ShYard_k0 hS100) (ShYard_r11 hS100) rfl <| ok_aloadn (pc' := 14) i126_13 rfl rfl <| ok_getfr (r := 149) (pc' := 17) i126_14 o126 gr0_39 (ShYard_k0 hS100) (ShYard_r8 hS100) rfl <| ok_getfr (r := (149 + 2)) (pc' := 20) i126_17 o126 gr0_176 (ShState_k0 hS149) (ShState_r3 hS149) rfl <| ok_iconst (pc' := 21) i126_20 rfl <| ?_
      refine ok_aaload (r := (149 + 4)) (pc' := 22) i126_21 (ShState_k2 hS149) (by decide) (ShState_l2 hS149) (by decide) (ShState_e2_1 hS149) rfl <| ok_iloadn (pc' := 23) i126_22 rfl rfl <| ?_
      have z301 : 0 ≤ s (94 + v1) ∧ s (94 + v1) ≤ 200 := V_d1 hV (i := v1) (by omega) (by omega)
      refine ok_iaload (v := (s (94 + v1))) (pc' := 24) i126_23 (ShState_k4 hS149) (by decide) (ShState_l4 hS149) (by omega) (RepS_4 hRB (by omega) (by omega)) rfl <| ?_
      refine ok_cn0 (pc' := 27) (d0 := 1) i126_24 rfl (cl_v o126 m0_238 na60 rfl rfl (bt rfl) (bt rfl) rfl (by rw [ShPacking_k0 hS200, o60])) ln60 (pd60 (aR 200) (aI (s (94 + v1)))) (by omega) (t60 (r0 := v1) hS200 hS149 hRB hV hQ (by omega) rfl (by omega)) rfl (fun M504 p505 => ?_)
      refine ok_aloadn (pc' := 28) i126_27 rfl rfl <| ok_getfr (r := 200) (pc' := 31) i126_28 o126 gr0_64 (ShYard_k0 hS100) (ShYard_r11 hS100) rfl <| ok_getfi (v := (bestS s v1).1) (pc' := 34) i126_31 o126 gi0_241 (ShPacking_k0 hS200) p505.1 rfl <| ok_ireti i126_34 rt126 <| kt_v (pc' := 7) rfl <| ok_i2l (v := (wr ((bestS s v1).1))) (pc' := 8) i301_7 rfl rfl <| ok_lastore (pc' := 9) i301_8 (ShOut_k0 hS464) (ShOut_l0 hS464) (by decide) rfl <| ok_goto (pc' := 18) i301_9 rfl <| ?_
      refine ok_iconst (pc' := 19) i301_18 rfl <| ok_ireti i301_19 rt301 <| kt_v (pc' := 1691) rfl <| ok_istore (pc' := 1693) (ls' := [aR 1, aR 100, aR 448, aR 464, aR 465, aI i, aI 0, w7, w8]) i0_1691 (bt rfl) rfl rfl <| ok_aloadn (pc' := 1694) i0_1693 rfl rfl <| ok_aloadn (pc' := 1695) i0_1694 rfl rfl <| ok_iload (pc' := 1697) i0_1695 rfl rfl <| ok_iconst (pc' := 1698) i0_1697 rfl <| ?_
      refine ok_iadd (v := (i + 1)) (pc' := 1699) i0_1698 rfl rfl <| ok_iaload (v := v1) (pc' := 1700) i0_1699 (ShScr_k0 hS1) (by decide) (ShScr_l0 hS1) (by omega) (rd_na (by omega) (Eq.trans (congrFun (p505.2.2 1 (by omega)) (i + 1)) hv1)) rfl <| ok_cc i0_1700 rfl (cl_v o0 m13_275 na228 rfl rfl (bt rfl) (bt rfl) rfl (by rw [ShModel_k0 hS448, o228])) ln228 (pd228 (aR 448) (aI v1)) <| ok_aloadn (pc' := 1) i228_0 rfl rfl <| ok_iloadn (pc' := 2) i228_1 rfl rfl <| ok_cc i228_2 rfl (cl_v o228 m9_241 na196 rfl rfl (bt rfl) (bt rfl) rfl (by rw [ShModel_k0 hS448, o196])) ln196 (pd196 (aR 448) (aI v1)) <| ok_aloadn (pc' := 1) i196_0 rfl rfl <| ok_cc i196_1 rfl (cl_v o196 m9_216 na188 rfl rfl (bt rfl) (bt rfl) rfl (by rw [ShModel_k0 hS448, o188])) ln188 (pd188 (aR 448)) <| ?_
      refine ok_aloadn (pc' := 1) i188_0 rfl rfl <| ok_iconst (pc' := 2) i188_1 rfl <| ok_putfj (kk := 0) (pc' := 5) i188_2 o188 pi188_63 (ShModel_k0 hS448) rfl rfl <| ok_aloadn (pc' := 6) i188_5 rfl rfl <| ok_aloadn (pc' := 7) i188_6 rfl rfl <| ?_
      have hCM504_448 : RepO M504 448 q s := RepO.fr hO ⟨((congrFun (p505.2.2 448 (by omega)) 2).trans (by rfl)), ((congrFun (p505.2.2 448 (by omega)) 3).trans (by rfl))⟩ (fun a h1 h2 => (p505.2.2 a (by omega)).trans rfl)
      refine ok_getfi (v := 1) (pc' := 10) i188_7 o188 gi9_66 (ShModel_k0 hS448) (rd_ni (by decide) (rd_na (by omega) (Eq.trans (congrFun (p505.2.2 448 (by omega)) 1) (hld.trans hl)))) rfl <| ok_kz1 (pc1 := 17) (pc2 := 13) i188_10 (by decide) rfl rfl <| ok_iconst (pc' := 18) i188_17 rfl <| ok_iconst (pc' := 19) i188_18 rfl <| ok_cc i188_19 rfl (cl_v o188 m9_70 na165 rfl rfl (bt rfl) (bt rfl) rfl (by rw [ShModel_k0 hS448, o165])) ln165 (pd165 (aR 448) (aI 0) (aI 1)) <| ok_aloadn (pc' := 1) i165_0 rfl rfl <| ok_getfi (v := 0) (pc' := 4) i165_1 o165 gi9_63 (ShModel_k0 hS448) rd_eq rfl <| ok_kz0 (pc1 := 16) (pc2 := 7) i165_4 (by decide) rfl rfl <| ?_
      refine ok_iloadn (pc' := 8) i165_7 rfl rfl <| ok_kz1 (pc1 := 16) (pc2 := 11) i165_8 (by decide) rfl rfl <| ok_aloadn (pc' := 17) i165_16 rfl rfl <| ok_getfi (v := 0) (pc' := 20) i165_17 o165 gi9_63 (ShModel_k0 hS448) rd_eq rfl <| ok_kz1 (pc1 := 27) (pc2 := 23) i165_20 (by decide) rfl rfl <| ok_iconst (pc' := 28) i165_27 rfl <| ok_iretz i165_28 rt165 (by decide) <| kt_v (pc' := 22) rfl <| ?_
      refine ok_iretz i188_22 rt188 (by decide) <| kt_v (pc' := 4) rfl <| ok_kz0 (pc1 := 28) (pc2 := 7) i196_4 (by decide) rfl rfl <| ok_aloadn (pc' := 8) i196_7 rfl rfl <| ok_aloadn (pc' := 9) i196_8 rfl rfl <| ok_iloadn (pc' := 10) i196_9 rfl rfl <| ok_cc i196_10 rfl (cl_v o196 m9_220 na197 rfl rfl (bt rfl) (bt rfl) rfl (by rw [ShModel_k0 hS448, o197])) ln197 (pd197 (aR 448) (aI v1)) <| ok_iloadn (pc' := 1) i197_0 rfl rfl <| ?_
      refine ok_iconst (pc' := 2) i197_1 rfl <| ok_aloadn (pc' := 3) i197_2 rfl rfl <| ok_getfr (r := (448 + 5)) (pc' := 6) i197_3 o197 gr9_22 (ShModel_k0 hS448) (ShModel_r8 hS448) rfl <| ok_iconst (pc' := 7) i197_6 rfl <| ok_iaload (v := (s 3)) (pc' := 8) i197_7 (ShModel_k5 hS448) (by decide) (ShModel_l5 hS448) (by decide) (rd_na (by omega) (rd_na (by omega) (RepO_s hCM504_448))) rfl <| ok_iconst (pc' := 9) i197_8 rfl <| ok_isub (v := ((s 3) - 1)) (pc' := 10) i197_9 rfl rfl <| ok_cc i197_10 rfl (cl_s o197 m9_140 na164 rfl rfl (bt rfl) (bt rfl) rfl) ln164 (pd164 (aI v1) (aI 0) (aI ((s 3) - 1))) <| ?_
      refine ok_iloadn (pc' := 1) i164_0 rfl rfl <| ok_iloadn (pc' := 2) i164_1 rfl rfl <| ?_
      refine ok_clt (pc1 := 14) (pc2 := 5) i164_2 (by omega) rfl rfl (fun h9 => by exfalso; omega) (fun h506 => ?_)
      refine ok_iloadn (pc' := 6) i164_5 rfl rfl <| ok_iloadn (pc' := 7) i164_6 rfl rfl <| ?_
      refine ok_cgt (pc1 := 14) (pc2 := 10) i164_7 (by omega) rfl rfl (fun h9 => by exfalso; omega) (fun h507 => ?_)
      refine ok_iconst (pc' := 11) i164_10 rfl <| ok_goto (pc' := 15) i164_11 rfl <| ok_iretz i164_15 rt164 (by decide) <| kt_v (pc' := 13) rfl <| ok_iretz i197_13 rt197 (by decide) <| kt_v (pc' := 13) rfl <| ok_kz1 (pc1 := 20) (pc2 := 16) i196_13 (by decide) rfl rfl <| ok_iconst (pc' := 21) i196_20 rfl <| ?_
      refine ok_iconst (pc' := 22) i196_21 rfl <| ok_cc i196_22 rfl (cl_v o196 m9_70 na165 rfl rfl (bt rfl) (bt rfl) rfl (by rw [ShModel_k0 hS448, o165])) ln165 (pd165 (aR 448) (aI 0) (aI 2)) <| ok_aloadn (pc' := 1) i165_0 rfl rfl <| ok_getfi (v := 0) (pc' := 4) i165_1 o165 gi9_63 (ShModel_k0 hS448) rd_eq rfl <| ok_kz0 (pc1 := 16) (pc2 := 7) i165_4 (by decide) rfl rfl <| ok_iloadn (pc' := 8) i165_7 rfl rfl <| ok_kz1 (pc1 := 16) (pc2 := 11) i165_8 (by decide) rfl rfl <| ok_aloadn (pc' := 17) i165_16 rfl rfl <| ?_
      refine ok_getfi (v := 0) (pc' := 20) i165_17 o165 gi9_63 (ShModel_k0 hS448) rd_eq rfl <| ok_kz1 (pc1 := 27) (pc2 := 23) i165_20 (by decide) rfl rfl <| ok_iconst (pc' := 28) i165_27 rfl <| ok_iretz i165_28 rt165 (by decide) <| kt_v (pc' := 25) rfl <| ok_kz1 (pc1 := 32) (pc2 := 28) i196_25 (by decide) rfl rfl <| ok_iconst (pc' := 33) i196_32 rfl <| ok_iretz i196_33 rt196 (by decide) <| ?_
      refine kt_v (pc' := 5) rfl <| ok_kz1 (pc1 := 10) (pc2 := 8) i228_5 (by decide) rfl rfl <| ok_aloadn (pc' := 11) i228_10 rfl rfl <| ok_iloadn (pc' := 12) i228_11 rfl rfl <| ?_
      refine ok_cn0 (pc' := 15) (d0 := 1) i228_12 rfl (cl_v o228 m9_289 na229 rfl rfl (bt rfl) (bt rfl) rfl (by rw [ShModel_k0 hS448, o229])) ln229 (pd229 (aR 448) (aI v1)) (by omega) (t229 (x1 := v1) hS448 (RepO.fr hCM504_448 ⟨(by rw [up2_rd, if_neg (by omega), up2_na (by omega)]), (by rw [up2_rd, if_neg (by omega), up2_na (by omega)])⟩ (fun a h1 h2 => (by rw [up2_na (by omega), up2_na (by omega)]))) hV hQ (by omega)) rfl (fun M508 p509 => ?_)
      refine ok_aloadn (pc' := 16) i228_15 rfl rfl <| ok_getfi (v := (bestS s v1).1) (pc' := 19) i228_16 o228 gi9_283 (ShModel_k0 hS448) p509.1 rfl <| ok_ireti i228_19 rt228 <| kt_v (pc' := 1703) rfl <| ok_istore (pc' := 1705) (ls' := [aR 1, aR 100, aR 448, aR 464, aR 465, aI i, aI 0, aI (bestS s v1).1, w8]) i0_1703 (bt rfl) rfl rfl <| ok_aloadn (pc' := 1706) i0_1705 rfl rfl <| ok_cc i0_1706 rfl (cl_v o0 m13_188 na157 rfl rfl (bt rfl) (bt rfl) rfl (by rw [ShModel_k0 hS448, o157])) ln157 (pd157 (aR 448)) <| ok_aloadn (pc' := 1) i157_0 rfl rfl <| ?_
      have hCM508_448 : RepO M508 448 q s := RepO.fr hCM504_448 ⟨((p509.2.2.2 2 (by omega)).trans (by rw [up2_rd, if_neg (by omega), up2_na (by omega)])), ((p509.2.2.2 3 (by omega)).trans (by rw [up2_rd, if_neg (by omega), up2_na (by omega)]))⟩ (fun a h1 h2 => (p509.2.2.1 a (by omega)).trans (by rw [up2_na (by omega), up2_na (by omega)]))
      refine ok_getfi (v := 0) (pc' := 4) i157_1 o157 gi9_63 (ShModel_k0 hS448) (Eq.trans (p509.2.2.2 0 (by omega)) rd_eq) rfl <| ok_ireti i157_4 rt157 <| kt_v (pc' := 1709) rfl <| ok_iload (pc' := 1711) i0_1709 rfl rfl <| ok_kc1 (pc1 := 1716) (pc2 := 1714) i0_1711 (by decide) rfl rfl <| ok_iload (pc' := 1718) i0_1716 rfl rfl <| ok_kz0 (pc1 := 1733) (pc2 := 1721) i0_1718 (by decide) rfl rfl <| ok_aloadn (pc' := 1722) i0_1721 rfl rfl <| ?_
      refine ok_iconst (pc' := 1723) i0_1722 rfl <| ok_laload (v := (wr ((bestS s v1).1))) (pc' := 1724) i0_1723 (ShOut_k0 hS464) (ShOut_l0 hS464) (by decide) (Eq.trans (congrFun (p509.2.2.1 464 (by omega)) 0) (rd_na (by omega) rd_eq)) rfl <| ok_iload (pc' := 1726) i0_1724 rfl rfl <| ok_i2l (v := (wr ((bestS s v1).1))) (pc' := 1727) i0_1726 rfl rfl <| ok_lcmp0 (pc' := 1728) i0_1727 rfl <| ok_kz1 (pc1 := 1733) (pc2 := 1731) i0_1728 (by decide) rfl rfl <| ok_goto (pc' := 3329) i0_1733 rfl <| ?_
      exact K _ _ _ _ _ _ hD (by omega) (Inv_mono (Inv_same hI (Same.pr (Same.thr (Same.out (Same.pk Same.rfl p505.2.2))) p509.2.2.1 p509.2.2.2)) (by omega))
    · refine ok_throw th103_15 (bt rfl) <| kt_x hh126 <| kt_h hn301 hf301_4_10 hr301_15 <| kt_v (pc' := 1691) rfl <| ?_
      refine ok_al hD (fun g hD => ?_)
      have hS448 := HD_o hD
      have hS1 := HD_s hD
      have hS464 := HD_u hD
      have hS465 := HD_ud hD
      refine ok_istore (pc' := 1693) (ls' := [aR 1, aR 100, aR 448, aR 464, aR 465, aI i, aI 2, w7, w8]) i0_1691 (bt rfl) rfl rfl <| ok_aloadn (pc' := 1694) i0_1693 rfl rfl <| ok_aloadn (pc' := 1695) i0_1694 rfl rfl <| ok_iload (pc' := 1697) i0_1695 rfl rfl <| ok_iconst (pc' := 1698) i0_1697 rfl <| ok_iadd (v := (i + 1)) (pc' := 1699) i0_1698 rfl rfl <| ok_iaload (v := v1) (pc' := 1700) i0_1699 (ShScr_k0 hS1) (by decide) (ShScr_l0 hS1) (by omega) hv1 rfl <| ok_cc i0_1700 rfl (cl_v o0 m13_275 na228 rfl rfl (bt rfl) (bt rfl) rfl (by rw [ShModel_k0 hS448, o228])) ln228 (pd228 (aR 448) (aI v1)) <| ?_
      refine ok_aloadn (pc' := 1) i228_0 rfl rfl <| ok_iloadn (pc' := 2) i228_1 rfl rfl <| ok_cc i228_2 rfl (cl_v o228 m9_241 na196 rfl rfl (bt rfl) (bt rfl) rfl (by rw [ShModel_k0 hS448, o196])) ln196 (pd196 (aR 448) (aI v1)) <| ok_aloadn (pc' := 1) i196_0 rfl rfl <| ok_cc i196_1 rfl (cl_v o196 m9_216 na188 rfl rfl (bt rfl) (bt rfl) rfl (by rw [ShModel_k0 hS448, o188])) ln188 (pd188 (aR 448)) <| ok_aloadn (pc' := 1) i188_0 rfl rfl <| ok_iconst (pc' := 2) i188_1 rfl <| ok_putfj (kk := 0) (pc' := 5) i188_2 o188 pi188_63 (ShModel_k0 hS448) rfl rfl <| ?_
      refine ok_aloadn (pc' := 6) i188_5 rfl rfl <| ok_aloadn (pc' := 7) i188_6 rfl rfl <| ok_getfi (v := 1) (pc' := 10) i188_7 o188 gi9_66 (ShModel_k0 hS448) (rd_ni (by decide) (hld.trans hl)) rfl <| ok_kz1 (pc1 := 17) (pc2 := 13) i188_10 (by decide) rfl rfl <| ok_iconst (pc' := 18) i188_17 rfl <| ok_iconst (pc' := 19) i188_18 rfl <| ok_cc i188_19 rfl (cl_v o188 m9_70 na165 rfl rfl (bt rfl) (bt rfl) rfl (by rw [ShModel_k0 hS448, o165])) ln165 (pd165 (aR 448) (aI 0) (aI 1)) <| ok_aloadn (pc' := 1) i165_0 rfl rfl <| ?_
      refine ok_getfi (v := 0) (pc' := 4) i165_1 o165 gi9_63 (ShModel_k0 hS448) rd_eq rfl <| ok_kz0 (pc1 := 16) (pc2 := 7) i165_4 (by decide) rfl rfl <| ok_iloadn (pc' := 8) i165_7 rfl rfl <| ok_kz1 (pc1 := 16) (pc2 := 11) i165_8 (by decide) rfl rfl <| ok_aloadn (pc' := 17) i165_16 rfl rfl <| ok_getfi (v := 0) (pc' := 20) i165_17 o165 gi9_63 (ShModel_k0 hS448) rd_eq rfl <| ok_kz1 (pc1 := 27) (pc2 := 23) i165_20 (by decide) rfl rfl <| ok_iconst (pc' := 28) i165_27 rfl <| ?_
      refine ok_iretz i165_28 rt165 (by decide) <| kt_v (pc' := 22) rfl <| ok_iretz i188_22 rt188 (by decide) <| kt_v (pc' := 4) rfl <| ok_kz0 (pc1 := 28) (pc2 := 7) i196_4 (by decide) rfl rfl <| ok_aloadn (pc' := 8) i196_7 rfl rfl <| ok_aloadn (pc' := 9) i196_8 rfl rfl <| ok_iloadn (pc' := 10) i196_9 rfl rfl <| ?_
      refine ok_cc i196_10 rfl (cl_v o196 m9_220 na197 rfl rfl (bt rfl) (bt rfl) rfl (by rw [ShModel_k0 hS448, o197])) ln197 (pd197 (aR 448) (aI v1)) <| ok_iloadn (pc' := 1) i197_0 rfl rfl <| ok_iconst (pc' := 2) i197_1 rfl <| ok_aloadn (pc' := 3) i197_2 rfl rfl <| ok_getfr (r := (448 + 5)) (pc' := 6) i197_3 o197 gr9_22 (ShModel_k0 hS448) (ShModel_r8 hS448) rfl <| ok_iconst (pc' := 7) i197_6 rfl <| ok_iaload (v := (s 3)) (pc' := 8) i197_7 (ShModel_k5 hS448) (by decide) (ShModel_l5 hS448) (by decide) (rd_na (by omega) (RepO_s hO)) rfl <| ok_iconst (pc' := 9) i197_8 rfl <| ?_
      refine ok_isub (v := ((s 3) - 1)) (pc' := 10) i197_9 rfl rfl <| ok_cc i197_10 rfl (cl_s o197 m9_140 na164 rfl rfl (bt rfl) (bt rfl) rfl) ln164 (pd164 (aI v1) (aI 0) (aI ((s 3) - 1))) <| ok_iloadn (pc' := 1) i164_0 rfl rfl <| ok_iloadn (pc' := 2) i164_1 rfl rfl <| ?_
      refine ok_clt (pc1 := 14) (pc2 := 5) i164_2 (by omega) rfl rfl (fun h9 => by exfalso; omega) (fun h510 => ?_)
      refine ok_iloadn (pc' := 6) i164_5 rfl rfl <| ok_iloadn (pc' := 7) i164_6 rfl rfl <| ?_
      refine ok_cgt (pc1 := 14) (pc2 := 10) i164_7 (by omega) rfl rfl (fun h511 => ?_) (fun h9 => by exfalso; omega)
      refine ok_iconst (pc' := 15) i164_14 rfl <| ok_iretz i164_15 rt164 (by decide) <| kt_v (pc' := 13) rfl <| ok_iretz i197_13 rt197 (by decide) <| kt_v (pc' := 13) rfl <| ok_kz0 (pc1 := 20) (pc2 := 16) i196_13 (by decide) rfl rfl <| ok_iconst (pc' := 17) i196_16 rfl <| ok_goto (pc' := 21) i196_17 rfl <| ?_
      refine ok_iconst (pc' := 22) i196_21 rfl <| ok_cc i196_22 rfl (cl_v o196 m9_70 na165 rfl rfl (bt rfl) (bt rfl) rfl (by rw [ShModel_k0 hS448, o165])) ln165 (pd165 (aR 448) (aI 1) (aI 2)) <| ok_aloadn (pc' := 1) i165_0 rfl rfl <| ok_getfi (v := 0) (pc' := 4) i165_1 o165 gi9_63 (ShModel_k0 hS448) rd_eq rfl <| ok_kz0 (pc1 := 16) (pc2 := 7) i165_4 (by decide) rfl rfl <| ok_iloadn (pc' := 8) i165_7 rfl rfl <| ok_kz0 (pc1 := 16) (pc2 := 11) i165_8 (by decide) rfl rfl <| ok_aloadn (pc' := 12) i165_11 rfl rfl <| ?_
      refine ok_iloadn (pc' := 13) i165_12 rfl rfl <| ok_putfj (kk := 0) (pc' := 16) i165_13 o165 pi165_63 (ShModel_k0 hS448) rfl rfl <| ok_aloadn (pc' := 17) i165_16 rfl rfl <| ok_getfi (v := 2) (pc' := 20) i165_17 o165 gi9_63 (ShModel_k0 hS448) rd_eq rfl <| ok_kz0 (pc1 := 27) (pc2 := 23) i165_20 (by decide) rfl rfl <| ok_iconst (pc' := 24) i165_23 rfl <| ok_goto (pc' := 28) i165_24 rfl <| ok_iretz i165_28 rt165 (by decide) <| ?_
      refine kt_v (pc' := 25) rfl <| ok_kz0 (pc1 := 32) (pc2 := 28) i196_25 (by decide) rfl rfl <| ok_iconst (pc' := 29) i196_28 rfl <| ok_goto (pc' := 33) i196_29 rfl <| ok_iretz i196_33 rt196 (by decide) <| kt_v (pc' := 5) rfl <| ok_kz0 (pc1 := 10) (pc2 := 8) i228_5 (by decide) rfl rfl <| ok_iconst (pc' := 9) i228_8 rfl <| ?_
      refine ok_ireti i228_9 rt228 <| kt_v (pc' := 1703) rfl <| ok_istore (pc' := 1705) (ls' := [aR 1, aR 100, aR 448, aR 464, aR 465, aI i, aI 2, aI 0, w8]) i0_1703 (bt rfl) rfl rfl <| ok_aloadn (pc' := 1706) i0_1705 rfl rfl <| ok_cc i0_1706 rfl (cl_v o0 m13_188 na157 rfl rfl (bt rfl) (bt rfl) rfl (by rw [ShModel_k0 hS448, o157])) ln157 (pd157 (aR 448)) <| ok_aloadn (pc' := 1) i157_0 rfl rfl <| ok_getfi (v := 2) (pc' := 4) i157_1 o157 gi9_63 (ShModel_k0 hS448) rd_eq rfl <| ok_ireti i157_4 rt157 <| ?_
      refine kt_v (pc' := 1709) rfl <| ok_iload (pc' := 1711) i0_1709 rfl rfl <| ok_kc1 (pc1 := 1716) (pc2 := 1714) i0_1711 (by decide) rfl rfl <| ok_iload (pc' := 1718) i0_1716 rfl rfl <| ok_kz1 (pc1 := 1733) (pc2 := 1721) i0_1718 (by decide) rfl rfl <| ok_goto (pc' := 3329) i0_1733 rfl <| ?_
      exact K _ _ _ _ _ _ hD (by omega) (Inv_mono (Inv_same hI (Same.thr (Same.thr Same.rfl))) (by omega))
theorem c28_1 {L n : Nat} {g : AG} {M : AM} {xs : Nat → Int32} {b i : Int} {w6 w7 w8 : AV} {Q : AO → AG → AM → Prop} (hD : HD L n g) (hI : Inv xs b M) (hi : 0 ≤ i ∧ i + 6 ≤ L) (hb : 0 ≤ b ∧ b ≤ 900000) (hl : M 100 6 = 1) (K : KK L n i b xs Q) :
    Ok 10 0 1736 [aR 1, aR 100, aR 448, aR 464, aR 465, aI i, w6, w7, w8] [] g M Q := by
  have hI0 := hI
  obtain ⟨hA, hld, hl01, q, hc, ⟨nx, sz, hH, hsz⟩, hS⟩ := hI0
  have hH0 := hH
  obtain ⟨⟨hn1, hn0⟩, ⟨hz2, hz0⟩, h10, hHj⟩ := hH0
  obtain ⟨hw0, ⟨bu, by_, hb1, hb13, hbu, hZ, hU⟩, he3, he4, he5, hId, tx, hT, hUt, htl, htr⟩ := hA
  obtain ⟨s, hP, hRB, hO, hV, hQ, h40⟩ := hc hl
  have ys3 := V_3 hV
  have ys4 := V_4 hV
  have yq0 := Q_0 hQ
  have yq1 := Q_1 hQ
  obtain ⟨v1, hv1⟩ : ∃ u9 : Int, M 1 (i + 1) = u9 := ⟨_, rfl⟩
  have hr1 : -2147483648 ≤ v1 ∧ v1 < 2147483648 := hv1 ▸ scr_rg hw0 (i + 1)
  have hS1 := HD_s hD
  have hS100 := HD_y hD
  have hS149 := HD_b hD
  have hS200 := HD_k hD
  have hS448 := HD_o hD
  have hS464 := HD_u hD
  have hS465 := HD_ud hD
  refine ok_aloadn (pc' := 1737) i0_1736 rfl rfl <| ok_aloadn (pc' := 1738) i0_1737 rfl rfl <| ok_iload (pc' := 1740) i0_1738 rfl rfl <| ok_iconst (pc' := 1741) i0_1740 rfl <| ok_iadd (v := (i + 1)) (pc' := 1742) i0_1741 rfl rfl <| ok_iaload (v := v1) (pc' := 1743) i0_1742 (ShScr_k0 hS1) (by decide) (ShScr_l0 hS1) (by omega) hv1 rfl <| ok_aloadn (pc' := 1744) i0_1743 rfl rfl <| ok_cc i0_1744 rfl (cl_s o0 m13_276 na302 rfl rfl (bt rfl) (bt rfl) rfl) ln302 (pd302 (aR 100) (aI v1) (aR 464)) <| ?_
  refine ok_aloadn (pc' := 1) i302_0 rfl rfl <| ok_iconst (pc' := 2) i302_1 rfl <| ok_aloadn (pc' := 3) i302_2 rfl rfl <| ok_iloadn (pc' := 4) i302_3 rfl rfl <| ok_cc i302_4 rfl (cl_v o302 m13_89 na127 rfl rfl (bt rfl) (bt rfl) rfl (by rw [ShYard_k0 hS100, o127])) ln127 (pd127 (aR 100) (aI v1)) <| ok_aloadn (pc' := 1) i127_0 rfl rfl <| ok_cc i127_1 rfl (cl_v o127 m0_132 na99 rfl rfl (bt rfl) (bt rfl) rfl (by rw [ShYard_k0 hS100, o99])) ln99 (pd99 (aR 100)) <| ok_aloadn (pc' := 1) i99_0 rfl rfl <| ?_
  refine ok_getfi (v := 1) (pc' := 4) i99_1 o99 gi0_268 (ShYard_k0 hS100) hl rfl <| ok_kz1 (pc1 := 18) (pc2 := 7) i99_4 (by decide) rfl rfl <| ok_vret i99_18 rt99 <| kt_0 (pc' := 4) rfl <| ok_aloadn (pc' := 5) i127_4 rfl rfl <| ok_iloadn (pc' := 6) i127_5 rfl rfl <| ok_cc i127_6 rfl (cl_v o127 m0_169 na103 rfl rfl (bt rfl) (bt rfl) rfl (by rw [ShYard_k0 hS100, o103])) ln103 (pd103 (aR 100) (aI v1)) <| ok_iloadn (pc' := 1) i103_0 rfl rfl <| ?_
  refine ok_zlt (pc1 := 15) (pc2 := 4) i103_1 (by omega) rfl rfl (fun h501 => ?_) (fun h501 => ?_)
  · refine ok_throw th103_15 (bt rfl) <| kt_x hh127 <| kt_h hn302 hf302_4_10 hr302_15 <| kt_v (pc' := 1747) rfl <| ?_
    refine ok_al hD (fun g hD => ?_)
    have hS448 := HD_o hD
    have hS1 := HD_s hD
    have hS464 := HD_u hD
    have hS465 := HD_ud hD
    refine ok_istore (pc' := 1749) (ls' := [aR 1, aR 100, aR 448, aR 464, aR 465, aI i, aI 2, w7, w8]) i0_1747 (bt rfl) rfl rfl <| ok_aloadn (pc' := 1750) i0_1749 rfl rfl <| ok_aloadn (pc' := 1751) i0_1750 rfl rfl <| ok_iload (pc' := 1753) i0_1751 rfl rfl <| ok_iconst (pc' := 1754) i0_1753 rfl <| ok_iadd (v := (i + 1)) (pc' := 1755) i0_1754 rfl rfl <| ok_iaload (v := v1) (pc' := 1756) i0_1755 (ShScr_k0 hS1) (by decide) (ShScr_l0 hS1) (by omega) hv1 rfl <| ok_cc i0_1756 rfl (cl_v o0 m13_278 na230 rfl rfl (bt rfl) (bt rfl) rfl (by rw [ShModel_k0 hS448, o230])) ln230 (pd230 (aR 448) (aI v1)) <| ?_
    refine ok_aloadn (pc' := 1) i230_0 rfl rfl <| ok_iloadn (pc' := 2) i230_1 rfl rfl <| ok_cc i230_2 rfl (cl_v o230 m9_241 na196 rfl rfl (bt rfl) (bt rfl) rfl (by rw [ShModel_k0 hS448, o196])) ln196 (pd196 (aR 448) (aI v1)) <| ok_aloadn (pc' := 1) i196_0 rfl rfl <| ok_cc i196_1 rfl (cl_v o196 m9_216 na188 rfl rfl (bt rfl) (bt rfl) rfl (by rw [ShModel_k0 hS448, o188])) ln188 (pd188 (aR 448)) <| ok_aloadn (pc' := 1) i188_0 rfl rfl <| ok_iconst (pc' := 2) i188_1 rfl <| ok_putfj (kk := 0) (pc' := 5) i188_2 o188 pi188_63 (ShModel_k0 hS448) rfl rfl <| ?_
    refine ok_aloadn (pc' := 6) i188_5 rfl rfl <| ok_aloadn (pc' := 7) i188_6 rfl rfl <| ok_getfi (v := 1) (pc' := 10) i188_7 o188 gi9_66 (ShModel_k0 hS448) (rd_ni (by decide) (hld.trans hl)) rfl <| ok_kz1 (pc1 := 17) (pc2 := 13) i188_10 (by decide) rfl rfl <| ok_iconst (pc' := 18) i188_17 rfl <| ok_iconst (pc' := 19) i188_18 rfl <| ok_cc i188_19 rfl (cl_v o188 m9_70 na165 rfl rfl (bt rfl) (bt rfl) rfl (by rw [ShModel_k0 hS448, o165])) ln165 (pd165 (aR 448) (aI 0) (aI 1)) <| ok_aloadn (pc' := 1) i165_0 rfl rfl <| ?_
    refine ok_getfi (v := 0) (pc' := 4) i165_1 o165 gi9_63 (ShModel_k0 hS448) rd_eq rfl <| ok_kz0 (pc1 := 16) (pc2 := 7) i165_4 (by decide) rfl rfl <| ok_iloadn (pc' := 8) i165_7 rfl rfl <| ok_kz1 (pc1 := 16) (pc2 := 11) i165_8 (by decide) rfl rfl <| ok_aloadn (pc' := 17) i165_16 rfl rfl <| ok_getfi (v := 0) (pc' := 20) i165_17 o165 gi9_63 (ShModel_k0 hS448) rd_eq rfl <| ok_kz1 (pc1 := 27) (pc2 := 23) i165_20 (by decide) rfl rfl <| ok_iconst (pc' := 28) i165_27 rfl <| ?_
    refine ok_iretz i165_28 rt165 (by decide) <| kt_v (pc' := 22) rfl <| ok_iretz i188_22 rt188 (by decide) <| kt_v (pc' := 4) rfl <| ok_kz0 (pc1 := 28) (pc2 := 7) i196_4 (by decide) rfl rfl <| ok_aloadn (pc' := 8) i196_7 rfl rfl <| ok_aloadn (pc' := 9) i196_8 rfl rfl <| ok_iloadn (pc' := 10) i196_9 rfl rfl <| ?_
    refine ok_cc i196_10 rfl (cl_v o196 m9_220 na197 rfl rfl (bt rfl) (bt rfl) rfl (by rw [ShModel_k0 hS448, o197])) ln197 (pd197 (aR 448) (aI v1)) <| ok_iloadn (pc' := 1) i197_0 rfl rfl <| ok_iconst (pc' := 2) i197_1 rfl <| ok_aloadn (pc' := 3) i197_2 rfl rfl <| ok_getfr (r := (448 + 5)) (pc' := 6) i197_3 o197 gr9_22 (ShModel_k0 hS448) (ShModel_r8 hS448) rfl <| ok_iconst (pc' := 7) i197_6 rfl <| ok_iaload (v := (s 3)) (pc' := 8) i197_7 (ShModel_k5 hS448) (by decide) (ShModel_l5 hS448) (by decide) (rd_na (by omega) (RepO_s hO)) rfl <| ok_iconst (pc' := 9) i197_8 rfl <| ?_
    refine ok_isub (v := ((s 3) - 1)) (pc' := 10) i197_9 rfl rfl <| ok_cc i197_10 rfl (cl_s o197 m9_140 na164 rfl rfl (bt rfl) (bt rfl) rfl) ln164 (pd164 (aI v1) (aI 0) (aI ((s 3) - 1))) <| ok_iloadn (pc' := 1) i164_0 rfl rfl <| ok_iloadn (pc' := 2) i164_1 rfl rfl <| ?_
    refine ok_clt (pc1 := 14) (pc2 := 5) i164_2 (by omega) rfl rfl (fun h502 => ?_) (fun h9 => by exfalso; omega)
    refine ok_iconst (pc' := 15) i164_14 rfl <| ok_iretz i164_15 rt164 (by decide) <| kt_v (pc' := 13) rfl <| ok_iretz i197_13 rt197 (by decide) <| kt_v (pc' := 13) rfl <| ok_kz0 (pc1 := 20) (pc2 := 16) i196_13 (by decide) rfl rfl <| ok_iconst (pc' := 17) i196_16 rfl <| ok_goto (pc' := 21) i196_17 rfl <| ?_
    refine ok_iconst (pc' := 22) i196_21 rfl <| ok_cc i196_22 rfl (cl_v o196 m9_70 na165 rfl rfl (bt rfl) (bt rfl) rfl (by rw [ShModel_k0 hS448, o165])) ln165 (pd165 (aR 448) (aI 1) (aI 2)) <| ok_aloadn (pc' := 1) i165_0 rfl rfl <| ok_getfi (v := 0) (pc' := 4) i165_1 o165 gi9_63 (ShModel_k0 hS448) rd_eq rfl <| ok_kz0 (pc1 := 16) (pc2 := 7) i165_4 (by decide) rfl rfl <| ok_iloadn (pc' := 8) i165_7 rfl rfl <| ok_kz0 (pc1 := 16) (pc2 := 11) i165_8 (by decide) rfl rfl <| ok_aloadn (pc' := 12) i165_11 rfl rfl <| ?_
    refine ok_iloadn (pc' := 13) i165_12 rfl rfl <| ok_putfj (kk := 0) (pc' := 16) i165_13 o165 pi165_63 (ShModel_k0 hS448) rfl rfl <| ok_aloadn (pc' := 17) i165_16 rfl rfl <| ok_getfi (v := 2) (pc' := 20) i165_17 o165 gi9_63 (ShModel_k0 hS448) rd_eq rfl <| ok_kz0 (pc1 := 27) (pc2 := 23) i165_20 (by decide) rfl rfl <| ok_iconst (pc' := 24) i165_23 rfl <| ok_goto (pc' := 28) i165_24 rfl <| ok_iretz i165_28 rt165 (by decide) <| ?_
    refine kt_v (pc' := 25) rfl <| ok_kz0 (pc1 := 32) (pc2 := 28) i196_25 (by decide) rfl rfl <| ok_iconst (pc' := 29) i196_28 rfl <| ok_goto (pc' := 33) i196_29 rfl <| ok_iretz i196_33 rt196 (by decide) <| kt_v (pc' := 5) rfl <| ok_kz0 (pc1 := 10) (pc2 := 8) i230_5 (by decide) rfl rfl <| ok_iconst (pc' := 9) i230_8 rfl <| ?_
    refine ok_ireti i230_9 rt230 <| kt_v (pc' := 1759) rfl <| ok_istore (pc' := 1761) (ls' := [aR 1, aR 100, aR 448, aR 464, aR 465, aI i, aI 2, aI 0, w8]) i0_1759 (bt rfl) rfl rfl <| ok_aloadn (pc' := 1762) i0_1761 rfl rfl <| ok_cc i0_1762 rfl (cl_v o0 m13_188 na157 rfl rfl (bt rfl) (bt rfl) rfl (by rw [ShModel_k0 hS448, o157])) ln157 (pd157 (aR 448)) <| ok_aloadn (pc' := 1) i157_0 rfl rfl <| ok_getfi (v := 2) (pc' := 4) i157_1 o157 gi9_63 (ShModel_k0 hS448) rd_eq rfl <| ok_ireti i157_4 rt157 <| ?_
    refine kt_v (pc' := 1765) rfl <| ok_iload (pc' := 1767) i0_1765 rfl rfl <| ok_kc1 (pc1 := 1772) (pc2 := 1770) i0_1767 (by decide) rfl rfl <| ok_iload (pc' := 1774) i0_1772 rfl rfl <| ok_kz1 (pc1 := 1789) (pc2 := 1777) i0_1774 (by decide) rfl rfl <| ok_goto (pc' := 3329) i0_1789 rfl <| ?_
    exact K _ _ _ _ _ _ hD (by omega) (Inv_mono (Inv_same hI (Same.thr (Same.thr Same.rfl))) (by omega))
  · refine ok_iloadn (pc' := 5) i103_4 rfl rfl <| ok_aloadn (pc' := 6) i103_5 rfl rfl <| ok_getfr (r := 149) (pc' := 9) i103_6 o103 gr0_39 (ShYard_k0 hS100) (ShYard_r8 hS100) rfl <| ok_getfi (v := (s 3)) (pc' := 12) i103_9 o103 gi0_129 (ShState_k0 hS149) (RepS_f2 hRB) rfl <| ?_
    refine ok_clt (pc1 := 26) (pc2 := 15) i103_12 (by omega) rfl rfl (fun h503 => ?_) (fun h503 => ?_)
    · refine ok_vret i103_26 rt103 <| kt_0 (pc' := 9) rfl <| ok_aloadn (pc' := 10) i127_9 rfl rfl <| ok_getfr (r := 200) (pc' := 13) i127_10 o127 gr0_64 (ShYard_k0 hS100) (ShYard_r11 hS100) rfl <| ok_aloadn (pc' := 14) i127_13 rfl rfl <| ok_getfr (r := 149) (pc' := 17) i127_14 o127 gr0_39 (ShYard_k0 hS100) (ShYard_r8 hS100) rfl <| ok_getfr (r := (149 + 2)) (pc' := 20) i127_17 o127 gr0_176 (ShState_k0 hS149) (ShState_r3 hS149) rfl <| ok_iconst (pc' := 21) i127_20 rfl <| ?_
      refine ok_aaload (r := (149 + 4)) (pc' := 22) i127_21 (ShState_k2 hS149) (by decide) (ShState_l2 hS149) (by decide) (ShState_e2_1 hS149) rfl <| ok_iloadn (pc' := 23) i127_22 rfl rfl <| ?_
      have z301 : 0 ≤ s (94 + v1) ∧ s (94 + v1) ≤ 200 := V_d1 hV (i := v1) (by omega) (by omega)
      refine ok_iaload (v := (s (94 + v1))) (pc' := 24) i127_23 (ShState_k4 hS149) (by decide) (ShState_l4 hS149) (by omega) (RepS_4 hRB (by omega) (by omega)) rfl <| ?_
      refine ok_cn0 (pc' := 27) (d0 := 1) i127_24 rfl (cl_v o127 m0_238 na60 rfl rfl (bt rfl) (bt rfl) rfl (by rw [ShPacking_k0 hS200, o60])) ln60 (pd60 (aR 200) (aI (s (94 + v1)))) (by omega) (t60 (r0 := v1) hS200 hS149 hRB hV hQ (by omega) rfl (by omega)) rfl (fun M504 p505 => ?_)
      refine ok_aloadn (pc' := 28) i127_27 rfl rfl <| ok_getfr (r := 200) (pc' := 31) i127_28 o127 gr0_64 (ShYard_k0 hS100) (ShYard_r11 hS100) rfl <| ok_getfi (v := (bestS s v1).2) (pc' := 34) i127_31 o127 gi0_244 (ShPacking_k0 hS200) p505.2.1 rfl <| ok_ireti i127_34 rt127 <| kt_v (pc' := 7) rfl <| ok_i2l (v := (wr ((bestS s v1).2))) (pc' := 8) i302_7 rfl rfl <| ok_lastore (pc' := 9) i302_8 (ShOut_k0 hS464) (ShOut_l0 hS464) (by decide) rfl <| ok_goto (pc' := 18) i302_9 rfl <| ?_
      refine ok_iconst (pc' := 19) i302_18 rfl <| ok_ireti i302_19 rt302 <| kt_v (pc' := 1747) rfl <| ok_istore (pc' := 1749) (ls' := [aR 1, aR 100, aR 448, aR 464, aR 465, aI i, aI 0, w7, w8]) i0_1747 (bt rfl) rfl rfl <| ok_aloadn (pc' := 1750) i0_1749 rfl rfl <| ok_aloadn (pc' := 1751) i0_1750 rfl rfl <| ok_iload (pc' := 1753) i0_1751 rfl rfl <| ok_iconst (pc' := 1754) i0_1753 rfl <| ?_
      refine ok_iadd (v := (i + 1)) (pc' := 1755) i0_1754 rfl rfl <| ok_iaload (v := v1) (pc' := 1756) i0_1755 (ShScr_k0 hS1) (by decide) (ShScr_l0 hS1) (by omega) (rd_na (by omega) (Eq.trans (congrFun (p505.2.2 1 (by omega)) (i + 1)) hv1)) rfl <| ok_cc i0_1756 rfl (cl_v o0 m13_278 na230 rfl rfl (bt rfl) (bt rfl) rfl (by rw [ShModel_k0 hS448, o230])) ln230 (pd230 (aR 448) (aI v1)) <| ok_aloadn (pc' := 1) i230_0 rfl rfl <| ok_iloadn (pc' := 2) i230_1 rfl rfl <| ok_cc i230_2 rfl (cl_v o230 m9_241 na196 rfl rfl (bt rfl) (bt rfl) rfl (by rw [ShModel_k0 hS448, o196])) ln196 (pd196 (aR 448) (aI v1)) <| ok_aloadn (pc' := 1) i196_0 rfl rfl <| ok_cc i196_1 rfl (cl_v o196 m9_216 na188 rfl rfl (bt rfl) (bt rfl) rfl (by rw [ShModel_k0 hS448, o188])) ln188 (pd188 (aR 448)) <| ?_
      refine ok_aloadn (pc' := 1) i188_0 rfl rfl <| ok_iconst (pc' := 2) i188_1 rfl <| ok_putfj (kk := 0) (pc' := 5) i188_2 o188 pi188_63 (ShModel_k0 hS448) rfl rfl <| ok_aloadn (pc' := 6) i188_5 rfl rfl <| ok_aloadn (pc' := 7) i188_6 rfl rfl <| ?_
      have hCM504_448 : RepO M504 448 q s := RepO.fr hO ⟨((congrFun (p505.2.2 448 (by omega)) 2).trans (by rfl)), ((congrFun (p505.2.2 448 (by omega)) 3).trans (by rfl))⟩ (fun a h1 h2 => (p505.2.2 a (by omega)).trans rfl)
      refine ok_getfi (v := 1) (pc' := 10) i188_7 o188 gi9_66 (ShModel_k0 hS448) (rd_ni (by decide) (rd_na (by omega) (Eq.trans (congrFun (p505.2.2 448 (by omega)) 1) (hld.trans hl)))) rfl <| ok_kz1 (pc1 := 17) (pc2 := 13) i188_10 (by decide) rfl rfl <| ok_iconst (pc' := 18) i188_17 rfl <| ok_iconst (pc' := 19) i188_18 rfl <| ok_cc i188_19 rfl (cl_v o188 m9_70 na165 rfl rfl (bt rfl) (bt rfl) rfl (by rw [ShModel_k0 hS448, o165])) ln165 (pd165 (aR 448) (aI 0) (aI 1)) <| ok_aloadn (pc' := 1) i165_0 rfl rfl <| ok_getfi (v := 0) (pc' := 4) i165_1 o165 gi9_63 (ShModel_k0 hS448) rd_eq rfl <| ok_kz0 (pc1 := 16) (pc2 := 7) i165_4 (by decide) rfl rfl <| ?_
      refine ok_iloadn (pc' := 8) i165_7 rfl rfl <| ok_kz1 (pc1 := 16) (pc2 := 11) i165_8 (by decide) rfl rfl <| ok_aloadn (pc' := 17) i165_16 rfl rfl <| ok_getfi (v := 0) (pc' := 20) i165_17 o165 gi9_63 (ShModel_k0 hS448) rd_eq rfl <| ok_kz1 (pc1 := 27) (pc2 := 23) i165_20 (by decide) rfl rfl <| ok_iconst (pc' := 28) i165_27 rfl <| ok_iretz i165_28 rt165 (by decide) <| kt_v (pc' := 22) rfl <| ?_
      refine ok_iretz i188_22 rt188 (by decide) <| kt_v (pc' := 4) rfl <| ok_kz0 (pc1 := 28) (pc2 := 7) i196_4 (by decide) rfl rfl <| ok_aloadn (pc' := 8) i196_7 rfl rfl <| ok_aloadn (pc' := 9) i196_8 rfl rfl <| ok_iloadn (pc' := 10) i196_9 rfl rfl <| ok_cc i196_10 rfl (cl_v o196 m9_220 na197 rfl rfl (bt rfl) (bt rfl) rfl (by rw [ShModel_k0 hS448, o197])) ln197 (pd197 (aR 448) (aI v1)) <| ok_iloadn (pc' := 1) i197_0 rfl rfl <| ?_
      refine ok_iconst (pc' := 2) i197_1 rfl <| ok_aloadn (pc' := 3) i197_2 rfl rfl <| ok_getfr (r := (448 + 5)) (pc' := 6) i197_3 o197 gr9_22 (ShModel_k0 hS448) (ShModel_r8 hS448) rfl <| ok_iconst (pc' := 7) i197_6 rfl <| ok_iaload (v := (s 3)) (pc' := 8) i197_7 (ShModel_k5 hS448) (by decide) (ShModel_l5 hS448) (by decide) (rd_na (by omega) (rd_na (by omega) (RepO_s hCM504_448))) rfl <| ok_iconst (pc' := 9) i197_8 rfl <| ok_isub (v := ((s 3) - 1)) (pc' := 10) i197_9 rfl rfl <| ok_cc i197_10 rfl (cl_s o197 m9_140 na164 rfl rfl (bt rfl) (bt rfl) rfl) ln164 (pd164 (aI v1) (aI 0) (aI ((s 3) - 1))) <| ?_
      refine ok_iloadn (pc' := 1) i164_0 rfl rfl <| ok_iloadn (pc' := 2) i164_1 rfl rfl <| ?_
      refine ok_clt (pc1 := 14) (pc2 := 5) i164_2 (by omega) rfl rfl (fun h9 => by exfalso; omega) (fun h506 => ?_)
      refine ok_iloadn (pc' := 6) i164_5 rfl rfl <| ok_iloadn (pc' := 7) i164_6 rfl rfl <| ?_
      refine ok_cgt (pc1 := 14) (pc2 := 10) i164_7 (by omega) rfl rfl (fun h9 => by exfalso; omega) (fun h507 => ?_)
      refine ok_iconst (pc' := 11) i164_10 rfl <| ok_goto (pc' := 15) i164_11 rfl <| ok_iretz i164_15 rt164 (by decide) <| kt_v (pc' := 13) rfl <| ok_iretz i197_13 rt197 (by decide) <| kt_v (pc' := 13) rfl <| ok_kz1 (pc1 := 20) (pc2 := 16) i196_13 (by decide) rfl rfl <| ok_iconst (pc' := 21) i196_20 rfl <| ?_
      refine ok_iconst (pc' := 22) i196_21 rfl <| ok_cc i196_22 rfl (cl_v o196 m9_70 na165 rfl rfl (bt rfl) (bt rfl) rfl (by rw [ShModel_k0 hS448, o165])) ln165 (pd165 (aR 448) (aI 0) (aI 2)) <| ok_aloadn (pc' := 1) i165_0 rfl rfl <| ok_getfi (v := 0) (pc' := 4) i165_1 o165 gi9_63 (ShModel_k0 hS448) rd_eq rfl <| ok_kz0 (pc1 := 16) (pc2 := 7) i165_4 (by decide) rfl rfl <| ok_iloadn (pc' := 8) i165_7 rfl rfl <| ok_kz1 (pc1 := 16) (pc2 := 11) i165_8 (by decide) rfl rfl <| ok_aloadn (pc' := 17) i165_16 rfl rfl <| ?_
      refine ok_getfi (v := 0) (pc' := 20) i165_17 o165 gi9_63 (ShModel_k0 hS448) rd_eq rfl <| ok_kz1 (pc1 := 27) (pc2 := 23) i165_20 (by decide) rfl rfl <| ok_iconst (pc' := 28) i165_27 rfl <| ok_iretz i165_28 rt165 (by decide) <| kt_v (pc' := 25) rfl <| ok_kz1 (pc1 := 32) (pc2 := 28) i196_25 (by decide) rfl rfl <| ok_iconst (pc' := 33) i196_32 rfl <| ok_iretz i196_33 rt196 (by decide) <| ?_
      refine kt_v (pc' := 5) rfl <| ok_kz1 (pc1 := 10) (pc2 := 8) i230_5 (by decide) rfl rfl <| ok_aloadn (pc' := 11) i230_10 rfl rfl <| ok_iloadn (pc' := 12) i230_11 rfl rfl <| ?_
      refine ok_cn0 (pc' := 15) (d0 := 1) i230_12 rfl (cl_v o230 m9_289 na229 rfl rfl (bt rfl) (bt rfl) rfl (by rw [ShModel_k0 hS448, o229])) ln229 (pd229 (aR 448) (aI v1)) (by omega) (t229 (x1 := v1) hS448 (RepO.fr hCM504_448 ⟨(by rw [up2_rd, if_neg (by omega), up2_na (by omega)]), (by rw [up2_rd, if_neg (by omega), up2_na (by omega)])⟩ (fun a h1 h2 => (by rw [up2_na (by omega), up2_na (by omega)]))) hV hQ (by omega)) rfl (fun M508 p509 => ?_)
      refine ok_aloadn (pc' := 16) i230_15 rfl rfl <| ok_getfi (v := (bestS s v1).2) (pc' := 19) i230_16 o230 gi9_286 (ShModel_k0 hS448) p509.2.1 rfl <| ok_ireti i230_19 rt230 <| kt_v (pc' := 1759) rfl <| ok_istore (pc' := 1761) (ls' := [aR 1, aR 100, aR 448, aR 464, aR 465, aI i, aI 0, aI (bestS s v1).2, w8]) i0_1759 (bt rfl) rfl rfl <| ok_aloadn (pc' := 1762) i0_1761 rfl rfl <| ok_cc i0_1762 rfl (cl_v o0 m13_188 na157 rfl rfl (bt rfl) (bt rfl) rfl (by rw [ShModel_k0 hS448, o157])) ln157 (pd157 (aR 448)) <| ok_aloadn (pc' := 1) i157_0 rfl rfl <| ?_
      have hCM508_448 : RepO M508 448 q s := RepO.fr hCM504_448 ⟨((p509.2.2.2 2 (by omega)).trans (by rw [up2_rd, if_neg (by omega), up2_na (by omega)])), ((p509.2.2.2 3 (by omega)).trans (by rw [up2_rd, if_neg (by omega), up2_na (by omega)]))⟩ (fun a h1 h2 => (p509.2.2.1 a (by omega)).trans (by rw [up2_na (by omega), up2_na (by omega)]))
      refine ok_getfi (v := 0) (pc' := 4) i157_1 o157 gi9_63 (ShModel_k0 hS448) (Eq.trans (p509.2.2.2 0 (by omega)) rd_eq) rfl <| ok_ireti i157_4 rt157 <| kt_v (pc' := 1765) rfl <| ok_iload (pc' := 1767) i0_1765 rfl rfl <| ok_kc1 (pc1 := 1772) (pc2 := 1770) i0_1767 (by decide) rfl rfl <| ok_iload (pc' := 1774) i0_1772 rfl rfl <| ok_kz0 (pc1 := 1789) (pc2 := 1777) i0_1774 (by decide) rfl rfl <| ok_aloadn (pc' := 1778) i0_1777 rfl rfl <| ?_
      refine ok_iconst (pc' := 1779) i0_1778 rfl <| ok_laload (v := (wr ((bestS s v1).2))) (pc' := 1780) i0_1779 (ShOut_k0 hS464) (ShOut_l0 hS464) (by decide) (Eq.trans (congrFun (p509.2.2.1 464 (by omega)) 0) (rd_na (by omega) rd_eq)) rfl <| ok_iload (pc' := 1782) i0_1780 rfl rfl <| ok_i2l (v := (wr ((bestS s v1).2))) (pc' := 1783) i0_1782 rfl rfl <| ok_lcmp0 (pc' := 1784) i0_1783 rfl <| ok_kz1 (pc1 := 1789) (pc2 := 1787) i0_1784 (by decide) rfl rfl <| ok_goto (pc' := 3329) i0_1789 rfl <| ?_
      exact K _ _ _ _ _ _ hD (by omega) (Inv_mono (Inv_same hI (Same.pr (Same.thr (Same.out (Same.pk Same.rfl p505.2.2))) p509.2.2.1 p509.2.2.2)) (by omega))
    · refine ok_throw th103_15 (bt rfl) <| kt_x hh127 <| kt_h hn302 hf302_4_10 hr302_15 <| kt_v (pc' := 1747) rfl <| ?_
      refine ok_al hD (fun g hD => ?_)
      have hS448 := HD_o hD
      have hS1 := HD_s hD
      have hS464 := HD_u hD
      have hS465 := HD_ud hD
      refine ok_istore (pc' := 1749) (ls' := [aR 1, aR 100, aR 448, aR 464, aR 465, aI i, aI 2, w7, w8]) i0_1747 (bt rfl) rfl rfl <| ok_aloadn (pc' := 1750) i0_1749 rfl rfl <| ok_aloadn (pc' := 1751) i0_1750 rfl rfl <| ok_iload (pc' := 1753) i0_1751 rfl rfl <| ok_iconst (pc' := 1754) i0_1753 rfl <| ok_iadd (v := (i + 1)) (pc' := 1755) i0_1754 rfl rfl <| ok_iaload (v := v1) (pc' := 1756) i0_1755 (ShScr_k0 hS1) (by decide) (ShScr_l0 hS1) (by omega) hv1 rfl <| ok_cc i0_1756 rfl (cl_v o0 m13_278 na230 rfl rfl (bt rfl) (bt rfl) rfl (by rw [ShModel_k0 hS448, o230])) ln230 (pd230 (aR 448) (aI v1)) <| ?_
      refine ok_aloadn (pc' := 1) i230_0 rfl rfl <| ok_iloadn (pc' := 2) i230_1 rfl rfl <| ok_cc i230_2 rfl (cl_v o230 m9_241 na196 rfl rfl (bt rfl) (bt rfl) rfl (by rw [ShModel_k0 hS448, o196])) ln196 (pd196 (aR 448) (aI v1)) <| ok_aloadn (pc' := 1) i196_0 rfl rfl <| ok_cc i196_1 rfl (cl_v o196 m9_216 na188 rfl rfl (bt rfl) (bt rfl) rfl (by rw [ShModel_k0 hS448, o188])) ln188 (pd188 (aR 448)) <| ok_aloadn (pc' := 1) i188_0 rfl rfl <| ok_iconst (pc' := 2) i188_1 rfl <| ok_putfj (kk := 0) (pc' := 5) i188_2 o188 pi188_63 (ShModel_k0 hS448) rfl rfl <| ?_
      refine ok_aloadn (pc' := 6) i188_5 rfl rfl <| ok_aloadn (pc' := 7) i188_6 rfl rfl <| ok_getfi (v := 1) (pc' := 10) i188_7 o188 gi9_66 (ShModel_k0 hS448) (rd_ni (by decide) (hld.trans hl)) rfl <| ok_kz1 (pc1 := 17) (pc2 := 13) i188_10 (by decide) rfl rfl <| ok_iconst (pc' := 18) i188_17 rfl <| ok_iconst (pc' := 19) i188_18 rfl <| ok_cc i188_19 rfl (cl_v o188 m9_70 na165 rfl rfl (bt rfl) (bt rfl) rfl (by rw [ShModel_k0 hS448, o165])) ln165 (pd165 (aR 448) (aI 0) (aI 1)) <| ok_aloadn (pc' := 1) i165_0 rfl rfl <| ?_
      refine ok_getfi (v := 0) (pc' := 4) i165_1 o165 gi9_63 (ShModel_k0 hS448) rd_eq rfl <| ok_kz0 (pc1 := 16) (pc2 := 7) i165_4 (by decide) rfl rfl <| ok_iloadn (pc' := 8) i165_7 rfl rfl <| ok_kz1 (pc1 := 16) (pc2 := 11) i165_8 (by decide) rfl rfl <| ok_aloadn (pc' := 17) i165_16 rfl rfl <| ok_getfi (v := 0) (pc' := 20) i165_17 o165 gi9_63 (ShModel_k0 hS448) rd_eq rfl <| ok_kz1 (pc1 := 27) (pc2 := 23) i165_20 (by decide) rfl rfl <| ok_iconst (pc' := 28) i165_27 rfl <| ?_
      refine ok_iretz i165_28 rt165 (by decide) <| kt_v (pc' := 22) rfl <| ok_iretz i188_22 rt188 (by decide) <| kt_v (pc' := 4) rfl <| ok_kz0 (pc1 := 28) (pc2 := 7) i196_4 (by decide) rfl rfl <| ok_aloadn (pc' := 8) i196_7 rfl rfl <| ok_aloadn (pc' := 9) i196_8 rfl rfl <| ok_iloadn (pc' := 10) i196_9 rfl rfl <| ?_
      refine ok_cc i196_10 rfl (cl_v o196 m9_220 na197 rfl rfl (bt rfl) (bt rfl) rfl (by rw [ShModel_k0 hS448, o197])) ln197 (pd197 (aR 448) (aI v1)) <| ok_iloadn (pc' := 1) i197_0 rfl rfl <| ok_iconst (pc' := 2) i197_1 rfl <| ok_aloadn (pc' := 3) i197_2 rfl rfl <| ok_getfr (r := (448 + 5)) (pc' := 6) i197_3 o197 gr9_22 (ShModel_k0 hS448) (ShModel_r8 hS448) rfl <| ok_iconst (pc' := 7) i197_6 rfl <| ok_iaload (v := (s 3)) (pc' := 8) i197_7 (ShModel_k5 hS448) (by decide) (ShModel_l5 hS448) (by decide) (rd_na (by omega) (RepO_s hO)) rfl <| ok_iconst (pc' := 9) i197_8 rfl <| ?_
      refine ok_isub (v := ((s 3) - 1)) (pc' := 10) i197_9 rfl rfl <| ok_cc i197_10 rfl (cl_s o197 m9_140 na164 rfl rfl (bt rfl) (bt rfl) rfl) ln164 (pd164 (aI v1) (aI 0) (aI ((s 3) - 1))) <| ok_iloadn (pc' := 1) i164_0 rfl rfl <| ok_iloadn (pc' := 2) i164_1 rfl rfl <| ?_
      refine ok_clt (pc1 := 14) (pc2 := 5) i164_2 (by omega) rfl rfl (fun h9 => by exfalso; omega) (fun h510 => ?_)
      refine ok_iloadn (pc' := 6) i164_5 rfl rfl <| ok_iloadn (pc' := 7) i164_6 rfl rfl <| ?_
      refine ok_cgt (pc1 := 14) (pc2 := 10) i164_7 (by omega) rfl rfl (fun h511 => ?_) (fun h9 => by exfalso; omega)
      refine ok_iconst (pc' := 15) i164_14 rfl <| ok_iretz i164_15 rt164 (by decide) <| kt_v (pc' := 13) rfl <| ok_iretz i197_13 rt197 (by decide) <| kt_v (pc' := 13) rfl <| ok_kz0 (pc1 := 20) (pc2 := 16) i196_13 (by decide) rfl rfl <| ok_iconst (pc' := 17) i196_16 rfl <| ok_goto (pc' := 21) i196_17 rfl <| ?_
      refine ok_iconst (pc' := 22) i196_21 rfl <| ok_cc i196_22 rfl (cl_v o196 m9_70 na165 rfl rfl (bt rfl) (bt rfl) rfl (by rw [ShModel_k0 hS448, o165])) ln165 (pd165 (aR 448) (aI 1) (aI 2)) <| ok_aloadn (pc' := 1) i165_0 rfl rfl <| ok_getfi (v := 0) (pc' := 4) i165_1 o165 gi9_63 (ShModel_k0 hS448) rd_eq rfl <| ok_kz0 (pc1 := 16) (pc2 := 7) i165_4 (by decide) rfl rfl <| ok_iloadn (pc' := 8) i165_7 rfl rfl <| ok_kz0 (pc1 := 16) (pc2 := 11) i165_8 (by decide) rfl rfl <| ok_aloadn (pc' := 12) i165_11 rfl rfl <| ?_
      refine ok_iloadn (pc' := 13) i165_12 rfl rfl <| ok_putfj (kk := 0) (pc' := 16) i165_13 o165 pi165_63 (ShModel_k0 hS448) rfl rfl <| ok_aloadn (pc' := 17) i165_16 rfl rfl <| ok_getfi (v := 2) (pc' := 20) i165_17 o165 gi9_63 (ShModel_k0 hS448) rd_eq rfl <| ok_kz0 (pc1 := 27) (pc2 := 23) i165_20 (by decide) rfl rfl <| ok_iconst (pc' := 24) i165_23 rfl <| ok_goto (pc' := 28) i165_24 rfl <| ok_iretz i165_28 rt165 (by decide) <| ?_
      refine kt_v (pc' := 25) rfl <| ok_kz0 (pc1 := 32) (pc2 := 28) i196_25 (by decide) rfl rfl <| ok_iconst (pc' := 29) i196_28 rfl <| ok_goto (pc' := 33) i196_29 rfl <| ok_iretz i196_33 rt196 (by decide) <| kt_v (pc' := 5) rfl <| ok_kz0 (pc1 := 10) (pc2 := 8) i230_5 (by decide) rfl rfl <| ok_iconst (pc' := 9) i230_8 rfl <| ?_
      refine ok_ireti i230_9 rt230 <| kt_v (pc' := 1759) rfl <| ok_istore (pc' := 1761) (ls' := [aR 1, aR 100, aR 448, aR 464, aR 465, aI i, aI 2, aI 0, w8]) i0_1759 (bt rfl) rfl rfl <| ok_aloadn (pc' := 1762) i0_1761 rfl rfl <| ok_cc i0_1762 rfl (cl_v o0 m13_188 na157 rfl rfl (bt rfl) (bt rfl) rfl (by rw [ShModel_k0 hS448, o157])) ln157 (pd157 (aR 448)) <| ok_aloadn (pc' := 1) i157_0 rfl rfl <| ok_getfi (v := 2) (pc' := 4) i157_1 o157 gi9_63 (ShModel_k0 hS448) rd_eq rfl <| ok_ireti i157_4 rt157 <| ?_
      refine kt_v (pc' := 1765) rfl <| ok_iload (pc' := 1767) i0_1765 rfl rfl <| ok_kc1 (pc1 := 1772) (pc2 := 1770) i0_1767 (by decide) rfl rfl <| ok_iload (pc' := 1774) i0_1772 rfl rfl <| ok_kz1 (pc1 := 1789) (pc2 := 1777) i0_1774 (by decide) rfl rfl <| ok_goto (pc' := 3329) i0_1789 rfl <| ?_
      exact K _ _ _ _ _ _ hD (by omega) (Inv_mono (Inv_same hI (Same.thr (Same.thr Same.rfl))) (by omega))
theorem c29_1 {L n : Nat} {g : AG} {M : AM} {xs : Nat → Int32} {b i : Int} {w6 w7 w8 : AV} {Q : AO → AG → AM → Prop} (hD : HD L n g) (hI : Inv xs b M) (hi : 0 ≤ i ∧ i + 6 ≤ L) (hb : 0 ≤ b ∧ b ≤ 900000) (hl : M 100 6 = 1) (K : KK L n i b xs Q) :
    Ok 10 0 1792 [aR 1, aR 100, aR 448, aR 464, aR 465, aI i, w6, w7, w8] [] g M Q := by
  have hI0 := hI
  obtain ⟨hA, hld, hl01, q, hc, ⟨nx, sz, hH, hsz⟩, hS⟩ := hI0
  have hH0 := hH
  obtain ⟨⟨hn1, hn0⟩, ⟨hz2, hz0⟩, h10, hHj⟩ := hH0
  obtain ⟨hw0, ⟨bu, by_, hb1, hb13, hbu, hZ, hU⟩, he3, he4, he5, hId, tx, hT, hUt, htl, htr⟩ := hA
  obtain ⟨s, hP, hRB, hO, hV, hQ, h40⟩ := hc hl
  have ys3 := V_3 hV
  have ys4 := V_4 hV
  have yq0 := Q_0 hQ
  have yq1 := Q_1 hQ
  obtain ⟨v1, hv1⟩ : ∃ u9 : Int, M 1 (i + 1) = u9 := ⟨_, rfl⟩
  have hr1 : -2147483648 ≤ v1 ∧ v1 < 2147483648 := hv1 ▸ scr_rg hw0 (i + 1)
  have hS1 := HD_s hD
  have hS100 := HD_y hD
  have hS138 := HD_p hD
  have hS149 := HD_b hD
  have hS174 := HD_t hD
  have hS175 := HD_tb hD
  have hS199 := HD_tw hD
  have hS448 := HD_o hD
  have hS464 := HD_u hD
  have hS465 := HD_ud hD
  refine ok_aloadn (pc' := 1793) i0_1792 rfl rfl <| ok_aloadn (pc' := 1794) i0_1793 rfl rfl <| ok_iload (pc' := 1796) i0_1794 rfl rfl <| ok_iconst (pc' := 1797) i0_1796 rfl <| ok_iadd (v := (i + 1)) (pc' := 1798) i0_1797 rfl rfl <| ok_iaload (v := v1) (pc' := 1799) i0_1798 (ShScr_k0 hS1) (by decide) (ShScr_l0 hS1) (by omega) hv1 rfl <| ok_aloadn (pc' := 1800) i0_1799 rfl rfl <| ok_cc i0_1800 rfl (cl_s o0 m13_279 na303 rfl rfl (bt rfl) (bt rfl) rfl) ln303 (pd303 (aR 100) (aI v1) (aR 464)) <| ?_
  refine ok_aloadn (pc' := 1) i303_0 rfl rfl <| ok_iconst (pc' := 2) i303_1 rfl <| ok_aloadn (pc' := 3) i303_2 rfl rfl <| ok_iloadn (pc' := 4) i303_3 rfl rfl <| ok_cc i303_4 rfl (cl_v o303 m13_92 na128 rfl rfl (bt rfl) (bt rfl) rfl (by rw [ShYard_k0 hS100, o128])) ln128 (pd128 (aR 100) (aI v1)) <| ok_aloadn (pc' := 1) i128_0 rfl rfl <| ok_cc i128_1 rfl (cl_v o128 m0_132 na99 rfl rfl (bt rfl) (bt rfl) rfl (by rw [ShYard_k0 hS100, o99])) ln99 (pd99 (aR 100)) <| ok_aloadn (pc' := 1) i99_0 rfl rfl <| ?_
  refine ok_getfi (v := 1) (pc' := 4) i99_1 o99 gi0_268 (ShYard_k0 hS100) hl rfl <| ok_kz1 (pc1 := 18) (pc2 := 7) i99_4 (by decide) rfl rfl <| ok_vret i99_18 rt99 <| kt_0 (pc' := 4) rfl <| ok_iloadn (pc' := 5) i128_4 rfl rfl <| ok_iconst (pc' := 6) i128_5 rfl <| ok_iconst (pc' := 7) i128_6 rfl <| ok_cc i128_7 rfl (cl_s o128 m0_172 na104 rfl rfl (bt rfl) (bt rfl) rfl) ln104 (pd104 (aI v1) (aI 0) (aI 3)) <| ?_
  refine ok_iloadn (pc' := 1) i104_0 rfl rfl <| ok_iloadn (pc' := 2) i104_1 rfl rfl <| ?_
  refine ok_clt (pc1 := 10) (pc2 := 5) i104_2 (by omega) rfl rfl (fun h501 => ?_) (fun h501 => ?_)
  · refine ok_throw th104_10 (bt rfl) <| kt_x hh128 <| kt_h hn303 hf303_4_11 hr303_15 <| kt_v (pc' := 1803) rfl <| ?_
    refine ok_al hD (fun g hD => ?_)
    have hS448 := HD_o hD
    have hS1 := HD_s hD
    have hS464 := HD_u hD
    have hS465 := HD_ud hD
    refine ok_istore (pc' := 1805) (ls' := [aR 1, aR 100, aR 448, aR 464, aR 465, aI i, aI 2, w7, w8]) i0_1803 (bt rfl) rfl rfl <| ok_aloadn (pc' := 1806) i0_1805 rfl rfl <| ok_aloadn (pc' := 1807) i0_1806 rfl rfl <| ok_iload (pc' := 1809) i0_1807 rfl rfl <| ok_iconst (pc' := 1810) i0_1809 rfl <| ok_iadd (v := (i + 1)) (pc' := 1811) i0_1810 rfl rfl <| ok_iaload (v := v1) (pc' := 1812) i0_1811 (ShScr_k0 hS1) (by decide) (ShScr_l0 hS1) (by omega) hv1 rfl <| ok_cc i0_1812 rfl (cl_v o0 m13_281 na231 rfl rfl (bt rfl) (bt rfl) rfl (by rw [ShModel_k0 hS448, o231])) ln231 (pd231 (aR 448) (aI v1)) <| ?_
    refine ok_aloadn (pc' := 1) i231_0 rfl rfl <| ok_iloadn (pc' := 2) i231_1 rfl rfl <| ok_cc i231_2 rfl (cl_v o231 m9_326 na232 rfl rfl (bt rfl) (bt rfl) rfl (by rw [ShModel_k0 hS448, o232])) ln232 (pd232 (aR 448) (aI v1)) <| ok_aloadn (pc' := 1) i232_0 rfl rfl <| ok_cc i232_1 rfl (cl_v o232 m9_216 na188 rfl rfl (bt rfl) (bt rfl) rfl (by rw [ShModel_k0 hS448, o188])) ln188 (pd188 (aR 448)) <| ok_aloadn (pc' := 1) i188_0 rfl rfl <| ok_iconst (pc' := 2) i188_1 rfl <| ok_putfj (kk := 0) (pc' := 5) i188_2 o188 pi188_63 (ShModel_k0 hS448) rfl rfl <| ?_
    refine ok_aloadn (pc' := 6) i188_5 rfl rfl <| ok_aloadn (pc' := 7) i188_6 rfl rfl <| ok_getfi (v := 1) (pc' := 10) i188_7 o188 gi9_66 (ShModel_k0 hS448) (rd_ni (by decide) (hld.trans hl)) rfl <| ok_kz1 (pc1 := 17) (pc2 := 13) i188_10 (by decide) rfl rfl <| ok_iconst (pc' := 18) i188_17 rfl <| ok_iconst (pc' := 19) i188_18 rfl <| ok_cc i188_19 rfl (cl_v o188 m9_70 na165 rfl rfl (bt rfl) (bt rfl) rfl (by rw [ShModel_k0 hS448, o165])) ln165 (pd165 (aR 448) (aI 0) (aI 1)) <| ok_aloadn (pc' := 1) i165_0 rfl rfl <| ?_
    refine ok_getfi (v := 0) (pc' := 4) i165_1 o165 gi9_63 (ShModel_k0 hS448) rd_eq rfl <| ok_kz0 (pc1 := 16) (pc2 := 7) i165_4 (by decide) rfl rfl <| ok_iloadn (pc' := 8) i165_7 rfl rfl <| ok_kz1 (pc1 := 16) (pc2 := 11) i165_8 (by decide) rfl rfl <| ok_aloadn (pc' := 17) i165_16 rfl rfl <| ok_getfi (v := 0) (pc' := 20) i165_17 o165 gi9_63 (ShModel_k0 hS448) rd_eq rfl <| ok_kz1 (pc1 := 27) (pc2 := 23) i165_20 (by decide) rfl rfl <| ok_iconst (pc' := 28) i165_27 rfl <| ?_
    refine ok_iretz i165_28 rt165 (by decide) <| kt_v (pc' := 22) rfl <| ok_iretz i188_22 rt188 (by decide) <| kt_v (pc' := 4) rfl <| ok_kz0 (pc1 := 29) (pc2 := 7) i232_4 (by decide) rfl rfl <| ok_aloadn (pc' := 8) i232_7 rfl rfl <| ok_iloadn (pc' := 9) i232_8 rfl rfl <| ok_iconst (pc' := 10) i232_9 rfl <| ?_
    refine ok_iconst (pc' := 11) i232_10 rfl <| ok_cc i232_11 rfl (cl_s o232 m9_140 na164 rfl rfl (bt rfl) (bt rfl) rfl) ln164 (pd164 (aI v1) (aI 0) (aI 3)) <| ok_iloadn (pc' := 1) i164_0 rfl rfl <| ok_iloadn (pc' := 2) i164_1 rfl rfl <| ?_
    refine ok_clt (pc1 := 14) (pc2 := 5) i164_2 (by omega) rfl rfl (fun h502 => ?_) (fun h9 => by exfalso; omega)
    refine ok_iconst (pc' := 15) i164_14 rfl <| ok_iretz i164_15 rt164 (by decide) <| kt_v (pc' := 14) rfl <| ok_kz0 (pc1 := 21) (pc2 := 17) i232_14 (by decide) rfl rfl <| ok_iconst (pc' := 18) i232_17 rfl <| ok_goto (pc' := 22) i232_18 rfl <| ok_iconst (pc' := 23) i232_22 rfl <| ok_cc i232_23 rfl (cl_v o232 m9_70 na165 rfl rfl (bt rfl) (bt rfl) rfl (by rw [ShModel_k0 hS448, o165])) ln165 (pd165 (aR 448) (aI 1) (aI 2)) <| ?_
    refine ok_aloadn (pc' := 1) i165_0 rfl rfl <| ok_getfi (v := 0) (pc' := 4) i165_1 o165 gi9_63 (ShModel_k0 hS448) rd_eq rfl <| ok_kz0 (pc1 := 16) (pc2 := 7) i165_4 (by decide) rfl rfl <| ok_iloadn (pc' := 8) i165_7 rfl rfl <| ok_kz0 (pc1 := 16) (pc2 := 11) i165_8 (by decide) rfl rfl <| ok_aloadn (pc' := 12) i165_11 rfl rfl <| ok_iloadn (pc' := 13) i165_12 rfl rfl <| ok_putfj (kk := 0) (pc' := 16) i165_13 o165 pi165_63 (ShModel_k0 hS448) rfl rfl <| ?_
    refine ok_aloadn (pc' := 17) i165_16 rfl rfl <| ok_getfi (v := 2) (pc' := 20) i165_17 o165 gi9_63 (ShModel_k0 hS448) rd_eq rfl <| ok_kz0 (pc1 := 27) (pc2 := 23) i165_20 (by decide) rfl rfl <| ok_iconst (pc' := 24) i165_23 rfl <| ok_goto (pc' := 28) i165_24 rfl <| ok_iretz i165_28 rt165 (by decide) <| kt_v (pc' := 26) rfl <| ok_kz0 (pc1 := 33) (pc2 := 29) i232_26 (by decide) rfl rfl <| ?_
    refine ok_iconst (pc' := 30) i232_29 rfl <| ok_goto (pc' := 34) i232_30 rfl <| ok_iretz i232_34 rt232 (by decide) <| kt_v (pc' := 5) rfl <| ok_kz0 (pc1 := 12) (pc2 := 8) i231_5 (by decide) rfl rfl <| ok_iconst (pc' := 9) i231_8 rfl <| ok_goto (pc' := 17) i231_9 rfl <| ok_ireti i231_17 rt231 <| ?_
    refine kt_v (pc' := 1815) rfl <| ok_istore (pc' := 1817) (ls' := [aR 1, aR 100, aR 448, aR 464, aR 465, aI i, aI 2, aI 0, w8]) i0_1815 (bt rfl) rfl rfl <| ok_aloadn (pc' := 1818) i0_1817 rfl rfl <| ok_cc i0_1818 rfl (cl_v o0 m13_188 na157 rfl rfl (bt rfl) (bt rfl) rfl (by rw [ShModel_k0 hS448, o157])) ln157 (pd157 (aR 448)) <| ok_aloadn (pc' := 1) i157_0 rfl rfl <| ok_getfi (v := 2) (pc' := 4) i157_1 o157 gi9_63 (ShModel_k0 hS448) rd_eq rfl <| ok_ireti i157_4 rt157 <| kt_v (pc' := 1821) rfl <| ?_
    refine ok_iload (pc' := 1823) i0_1821 rfl rfl <| ok_kc1 (pc1 := 1828) (pc2 := 1826) i0_1823 (by decide) rfl rfl <| ok_iload (pc' := 1830) i0_1828 rfl rfl <| ok_kz1 (pc1 := 1845) (pc2 := 1833) i0_1830 (by decide) rfl rfl <| ok_goto (pc' := 3329) i0_1845 rfl <| ?_
    exact K _ _ _ _ _ _ hD (by omega) (Inv_mono (Inv_same hI (Same.thr (Same.thr Same.rfl))) (by omega))
  · refine ok_iloadn (pc' := 6) i104_5 rfl rfl <| ok_iloadn (pc' := 7) i104_6 rfl rfl <| ?_
    refine ok_cle (pc1 := 21) (pc2 := 10) i104_7 (by omega) rfl rfl (fun h503 => ?_) (fun h503 => ?_)
    · refine ok_vret i104_21 rt104 <| kt_0 (pc' := 10) rfl <| ok_aloadn (pc' := 11) i128_10 rfl rfl <| ok_getfr (r := 174) (pc' := 14) i128_11 o128 gr0_55 (ShYard_k0 hS100) (ShYard_r10 hS100) rfl <| ok_iloadn (pc' := 15) i128_14 rfl rfl <| ?_
      refine ok_cn (pc' := 18) (d0 := 5) i128_15 rfl (cl_v o128 m0_247 na53 rfl rfl (bt rfl) (bt rfl) rfl (by rw [ShTrial_k0 hS174, o53])) ln53 (pd53 (aR 174) (aI v1)) (by omega) (t53 (x1 := v1) hS174 hS199 hS138 hS175 hS149 hP hRB hQ hV (by omega) (by omega) (by omega) (by omega)) rfl (fun M504 p505 => ?_)
      refine ok_ireti i128_18 rt128 <| kt_v (pc' := 7) rfl <| ok_i2l (v := (wr (fulN q s v1))) (pc' := 8) i303_7 rfl rfl <| ok_lastore (pc' := 9) i303_8 (ShOut_k0 hS464) (ShOut_l0 hS464) (by decide) rfl <| ok_goto (pc' := 18) i303_9 rfl <| ok_iconst (pc' := 19) i303_18 rfl <| ok_ireti i303_19 rt303 <| kt_v (pc' := 1803) rfl <| ?_
      refine ok_istore (pc' := 1805) (ls' := [aR 1, aR 100, aR 448, aR 464, aR 465, aI i, aI 0, w7, w8]) i0_1803 (bt rfl) rfl rfl <| ok_aloadn (pc' := 1806) i0_1805 rfl rfl <| ok_aloadn (pc' := 1807) i0_1806 rfl rfl <| ok_iload (pc' := 1809) i0_1807 rfl rfl <| ok_iconst (pc' := 1810) i0_1809 rfl <| ok_iadd (v := (i + 1)) (pc' := 1811) i0_1810 rfl rfl <| ok_iaload (v := v1) (pc' := 1812) i0_1811 (ShScr_k0 hS1) (by decide) (ShScr_l0 hS1) (by omega) (rd_na (by omega) (Eq.trans (congrFun (p505 1 (by omega)) (i + 1)) hv1)) rfl <| ok_cc i0_1812 rfl (cl_v o0 m13_281 na231 rfl rfl (bt rfl) (bt rfl) rfl (by rw [ShModel_k0 hS448, o231])) ln231 (pd231 (aR 448) (aI v1)) <| ?_
      refine ok_aloadn (pc' := 1) i231_0 rfl rfl <| ok_iloadn (pc' := 2) i231_1 rfl rfl <| ok_cc i231_2 rfl (cl_v o231 m9_326 na232 rfl rfl (bt rfl) (bt rfl) rfl (by rw [ShModel_k0 hS448, o232])) ln232 (pd232 (aR 448) (aI v1)) <| ok_aloadn (pc' := 1) i232_0 rfl rfl <| ok_cc i232_1 rfl (cl_v o232 m9_216 na188 rfl rfl (bt rfl) (bt rfl) rfl (by rw [ShModel_k0 hS448, o188])) ln188 (pd188 (aR 448)) <| ok_aloadn (pc' := 1) i188_0 rfl rfl <| ok_iconst (pc' := 2) i188_1 rfl <| ok_putfj (kk := 0) (pc' := 5) i188_2 o188 pi188_63 (ShModel_k0 hS448) rfl rfl <| ?_
      refine ok_aloadn (pc' := 6) i188_5 rfl rfl <| ok_aloadn (pc' := 7) i188_6 rfl rfl <| ?_
      have hCM504_448 : RepO M504 448 q s := RepO.fr hO ⟨((congrFun (p505 448 (by omega)) 2).trans (by rfl)), ((congrFun (p505 448 (by omega)) 3).trans (by rfl))⟩ (fun a h1 h2 => (p505 a (by omega)).trans rfl)
      refine ok_getfi (v := 1) (pc' := 10) i188_7 o188 gi9_66 (ShModel_k0 hS448) (rd_ni (by decide) (rd_na (by omega) (Eq.trans (congrFun (p505 448 (by omega)) 1) (hld.trans hl)))) rfl <| ok_kz1 (pc1 := 17) (pc2 := 13) i188_10 (by decide) rfl rfl <| ok_iconst (pc' := 18) i188_17 rfl <| ok_iconst (pc' := 19) i188_18 rfl <| ok_cc i188_19 rfl (cl_v o188 m9_70 na165 rfl rfl (bt rfl) (bt rfl) rfl (by rw [ShModel_k0 hS448, o165])) ln165 (pd165 (aR 448) (aI 0) (aI 1)) <| ok_aloadn (pc' := 1) i165_0 rfl rfl <| ok_getfi (v := 0) (pc' := 4) i165_1 o165 gi9_63 (ShModel_k0 hS448) rd_eq rfl <| ok_kz0 (pc1 := 16) (pc2 := 7) i165_4 (by decide) rfl rfl <| ?_
      refine ok_iloadn (pc' := 8) i165_7 rfl rfl <| ok_kz1 (pc1 := 16) (pc2 := 11) i165_8 (by decide) rfl rfl <| ok_aloadn (pc' := 17) i165_16 rfl rfl <| ok_getfi (v := 0) (pc' := 20) i165_17 o165 gi9_63 (ShModel_k0 hS448) rd_eq rfl <| ok_kz1 (pc1 := 27) (pc2 := 23) i165_20 (by decide) rfl rfl <| ok_iconst (pc' := 28) i165_27 rfl <| ok_iretz i165_28 rt165 (by decide) <| kt_v (pc' := 22) rfl <| ?_
      refine ok_iretz i188_22 rt188 (by decide) <| kt_v (pc' := 4) rfl <| ok_kz0 (pc1 := 29) (pc2 := 7) i232_4 (by decide) rfl rfl <| ok_aloadn (pc' := 8) i232_7 rfl rfl <| ok_iloadn (pc' := 9) i232_8 rfl rfl <| ok_iconst (pc' := 10) i232_9 rfl <| ok_iconst (pc' := 11) i232_10 rfl <| ok_cc i232_11 rfl (cl_s o232 m9_140 na164 rfl rfl (bt rfl) (bt rfl) rfl) ln164 (pd164 (aI v1) (aI 0) (aI 3)) <| ?_
      refine ok_iloadn (pc' := 1) i164_0 rfl rfl <| ok_iloadn (pc' := 2) i164_1 rfl rfl <| ?_
      refine ok_clt (pc1 := 14) (pc2 := 5) i164_2 (by omega) rfl rfl (fun h9 => by exfalso; omega) (fun h506 => ?_)
      refine ok_iloadn (pc' := 6) i164_5 rfl rfl <| ok_iloadn (pc' := 7) i164_6 rfl rfl <| ?_
      refine ok_cgt (pc1 := 14) (pc2 := 10) i164_7 (by omega) rfl rfl (fun h9 => by exfalso; omega) (fun h507 => ?_)
      refine ok_iconst (pc' := 11) i164_10 rfl <| ok_goto (pc' := 15) i164_11 rfl <| ok_iretz i164_15 rt164 (by decide) <| kt_v (pc' := 14) rfl <| ok_kz1 (pc1 := 21) (pc2 := 17) i232_14 (by decide) rfl rfl <| ok_iconst (pc' := 22) i232_21 rfl <| ok_iconst (pc' := 23) i232_22 rfl <| ok_cc i232_23 rfl (cl_v o232 m9_70 na165 rfl rfl (bt rfl) (bt rfl) rfl (by rw [ShModel_k0 hS448, o165])) ln165 (pd165 (aR 448) (aI 0) (aI 2)) <| ?_
      refine ok_aloadn (pc' := 1) i165_0 rfl rfl <| ok_getfi (v := 0) (pc' := 4) i165_1 o165 gi9_63 (ShModel_k0 hS448) rd_eq rfl <| ok_kz0 (pc1 := 16) (pc2 := 7) i165_4 (by decide) rfl rfl <| ok_iloadn (pc' := 8) i165_7 rfl rfl <| ok_kz1 (pc1 := 16) (pc2 := 11) i165_8 (by decide) rfl rfl <| ok_aloadn (pc' := 17) i165_16 rfl rfl <| ok_getfi (v := 0) (pc' := 20) i165_17 o165 gi9_63 (ShModel_k0 hS448) rd_eq rfl <| ok_kz1 (pc1 := 27) (pc2 := 23) i165_20 (by decide) rfl rfl <| ?_
      refine ok_iconst (pc' := 28) i165_27 rfl <| ok_iretz i165_28 rt165 (by decide) <| kt_v (pc' := 26) rfl <| ok_kz1 (pc1 := 33) (pc2 := 29) i232_26 (by decide) rfl rfl <| ok_iconst (pc' := 34) i232_33 rfl <| ok_iretz i232_34 rt232 (by decide) <| kt_v (pc' := 5) rfl <| ok_kz1 (pc1 := 12) (pc2 := 8) i231_5 (by decide) rfl rfl <| ?_
      refine ok_aloadn (pc' := 13) i231_12 rfl rfl <| ok_iloadn (pc' := 14) i231_13 rfl rfl <| ?_
      refine ok_cn (pc' := 17) (d0 := 7) i231_14 rfl (cl_v o231 m9_329 na233 rfl rfl (bt rfl) (bt rfl) rfl (by rw [ShModel_k0 hS448, o233])) ln233 (pd233 (aR 448) (aI v1)) (by omega) (t233 (x1 := v1) hS448 (RepO.fr hCM504_448 ⟨(by rw [up2_rd, if_neg (by omega), up2_na (by omega)]), (by rw [up2_rd, if_neg (by omega), up2_na (by omega)])⟩ (fun a h1 h2 => (by rw [up2_na (by omega), up2_na (by omega)]))) hV hQ (by omega) (by omega)) rfl (fun M508 p509 => ?_)
      refine ok_ireti i231_17 rt231 <| kt_v (pc' := 1815) rfl <| ok_istore (pc' := 1817) (ls' := [aR 1, aR 100, aR 448, aR 464, aR 465, aI i, aI 0, aI (fulN q s v1), w8]) i0_1815 (bt rfl) rfl rfl <| ok_aloadn (pc' := 1818) i0_1817 rfl rfl <| ok_cc i0_1818 rfl (cl_v o0 m13_188 na157 rfl rfl (bt rfl) (bt rfl) rfl (by rw [ShModel_k0 hS448, o157])) ln157 (pd157 (aR 448)) <| ok_aloadn (pc' := 1) i157_0 rfl rfl <| ?_
      have hCM508_448 : RepO M508 448 q s := RepO.fr hCM504_448 ⟨((congrFun (WI.na p509 (c := 448) (by omega)) 2).trans (by rw [up2_rd, if_neg (by omega), up2_na (by omega)])), ((congrFun (WI.na p509 (c := 448) (by omega)) 3).trans (by rw [up2_rd, if_neg (by omega), up2_na (by omega)]))⟩ (fun a h1 h2 => (WI.na p509 (by omega)).trans (by rw [up2_na (by omega), up2_na (by omega)]))
      refine ok_getfi (v := 0) (pc' := 4) i157_1 o157 gi9_63 (ShModel_k0 hS448) (Eq.trans (congrFun (WI.na p509 (c := 448) (by omega)) 0) rd_eq) rfl <| ok_ireti i157_4 rt157 <| kt_v (pc' := 1821) rfl <| ok_iload (pc' := 1823) i0_1821 rfl rfl <| ok_kc1 (pc1 := 1828) (pc2 := 1826) i0_1823 (by decide) rfl rfl <| ok_iload (pc' := 1830) i0_1828 rfl rfl <| ok_kz0 (pc1 := 1845) (pc2 := 1833) i0_1830 (by decide) rfl rfl <| ok_aloadn (pc' := 1834) i0_1833 rfl rfl <| ?_
      refine ok_iconst (pc' := 1835) i0_1834 rfl <| ok_laload (v := (wr (fulN q s v1))) (pc' := 1836) i0_1835 (ShOut_k0 hS464) (ShOut_l0 hS464) (by decide) (Eq.trans (congrFun (WI.na p509 (c := 464) (by omega)) 0) (rd_na (by omega) rd_eq)) rfl <| ok_iload (pc' := 1838) i0_1836 rfl rfl <| ok_i2l (v := (wr (fulN q s v1))) (pc' := 1839) i0_1838 rfl rfl <| ok_lcmp0 (pc' := 1840) i0_1839 rfl <| ok_kz1 (pc1 := 1845) (pc2 := 1843) i0_1840 (by decide) rfl rfl <| ok_goto (pc' := 3329) i0_1845 rfl <| ?_
      exact K _ _ _ _ _ _ hD (by omega) (Inv_mono (Inv_same hI (Same.wi (Same.thr (Same.out (Same.wr Same.rfl p505))) p509)) (by omega))
    · refine ok_throw th104_10 (bt rfl) <| kt_x hh128 <| kt_h hn303 hf303_4_11 hr303_15 <| kt_v (pc' := 1803) rfl <| ?_
      refine ok_al hD (fun g hD => ?_)
      have hS448 := HD_o hD
      have hS1 := HD_s hD
      have hS464 := HD_u hD
      have hS465 := HD_ud hD
      refine ok_istore (pc' := 1805) (ls' := [aR 1, aR 100, aR 448, aR 464, aR 465, aI i, aI 2, w7, w8]) i0_1803 (bt rfl) rfl rfl <| ok_aloadn (pc' := 1806) i0_1805 rfl rfl <| ok_aloadn (pc' := 1807) i0_1806 rfl rfl <| ok_iload (pc' := 1809) i0_1807 rfl rfl <| ok_iconst (pc' := 1810) i0_1809 rfl <| ok_iadd (v := (i + 1)) (pc' := 1811) i0_1810 rfl rfl <| ok_iaload (v := v1) (pc' := 1812) i0_1811 (ShScr_k0 hS1) (by decide) (ShScr_l0 hS1) (by omega) hv1 rfl <| ok_cc i0_1812 rfl (cl_v o0 m13_281 na231 rfl rfl (bt rfl) (bt rfl) rfl (by rw [ShModel_k0 hS448, o231])) ln231 (pd231 (aR 448) (aI v1)) <| ?_
      refine ok_aloadn (pc' := 1) i231_0 rfl rfl <| ok_iloadn (pc' := 2) i231_1 rfl rfl <| ok_cc i231_2 rfl (cl_v o231 m9_326 na232 rfl rfl (bt rfl) (bt rfl) rfl (by rw [ShModel_k0 hS448, o232])) ln232 (pd232 (aR 448) (aI v1)) <| ok_aloadn (pc' := 1) i232_0 rfl rfl <| ok_cc i232_1 rfl (cl_v o232 m9_216 na188 rfl rfl (bt rfl) (bt rfl) rfl (by rw [ShModel_k0 hS448, o188])) ln188 (pd188 (aR 448)) <| ok_aloadn (pc' := 1) i188_0 rfl rfl <| ok_iconst (pc' := 2) i188_1 rfl <| ok_putfj (kk := 0) (pc' := 5) i188_2 o188 pi188_63 (ShModel_k0 hS448) rfl rfl <| ?_
      refine ok_aloadn (pc' := 6) i188_5 rfl rfl <| ok_aloadn (pc' := 7) i188_6 rfl rfl <| ok_getfi (v := 1) (pc' := 10) i188_7 o188 gi9_66 (ShModel_k0 hS448) (rd_ni (by decide) (hld.trans hl)) rfl <| ok_kz1 (pc1 := 17) (pc2 := 13) i188_10 (by decide) rfl rfl <| ok_iconst (pc' := 18) i188_17 rfl <| ok_iconst (pc' := 19) i188_18 rfl <| ok_cc i188_19 rfl (cl_v o188 m9_70 na165 rfl rfl (bt rfl) (bt rfl) rfl (by rw [ShModel_k0 hS448, o165])) ln165 (pd165 (aR 448) (aI 0) (aI 1)) <| ok_aloadn (pc' := 1) i165_0 rfl rfl <| ?_
      refine ok_getfi (v := 0) (pc' := 4) i165_1 o165 gi9_63 (ShModel_k0 hS448) rd_eq rfl <| ok_kz0 (pc1 := 16) (pc2 := 7) i165_4 (by decide) rfl rfl <| ok_iloadn (pc' := 8) i165_7 rfl rfl <| ok_kz1 (pc1 := 16) (pc2 := 11) i165_8 (by decide) rfl rfl <| ok_aloadn (pc' := 17) i165_16 rfl rfl <| ok_getfi (v := 0) (pc' := 20) i165_17 o165 gi9_63 (ShModel_k0 hS448) rd_eq rfl <| ok_kz1 (pc1 := 27) (pc2 := 23) i165_20 (by decide) rfl rfl <| ok_iconst (pc' := 28) i165_27 rfl <| ?_
      refine ok_iretz i165_28 rt165 (by decide) <| kt_v (pc' := 22) rfl <| ok_iretz i188_22 rt188 (by decide) <| kt_v (pc' := 4) rfl <| ok_kz0 (pc1 := 29) (pc2 := 7) i232_4 (by decide) rfl rfl <| ok_aloadn (pc' := 8) i232_7 rfl rfl <| ok_iloadn (pc' := 9) i232_8 rfl rfl <| ok_iconst (pc' := 10) i232_9 rfl <| ?_
      refine ok_iconst (pc' := 11) i232_10 rfl <| ok_cc i232_11 rfl (cl_s o232 m9_140 na164 rfl rfl (bt rfl) (bt rfl) rfl) ln164 (pd164 (aI v1) (aI 0) (aI 3)) <| ok_iloadn (pc' := 1) i164_0 rfl rfl <| ok_iloadn (pc' := 2) i164_1 rfl rfl <| ?_
      refine ok_clt (pc1 := 14) (pc2 := 5) i164_2 (by omega) rfl rfl (fun h9 => by exfalso; omega) (fun h510 => ?_)
      refine ok_iloadn (pc' := 6) i164_5 rfl rfl <| ok_iloadn (pc' := 7) i164_6 rfl rfl <| ?_
      refine ok_cgt (pc1 := 14) (pc2 := 10) i164_7 (by omega) rfl rfl (fun h511 => ?_) (fun h9 => by exfalso; omega)
      refine ok_iconst (pc' := 15) i164_14 rfl <| ok_iretz i164_15 rt164 (by decide) <| kt_v (pc' := 14) rfl <| ok_kz0 (pc1 := 21) (pc2 := 17) i232_14 (by decide) rfl rfl <| ok_iconst (pc' := 18) i232_17 rfl <| ok_goto (pc' := 22) i232_18 rfl <| ok_iconst (pc' := 23) i232_22 rfl <| ok_cc i232_23 rfl (cl_v o232 m9_70 na165 rfl rfl (bt rfl) (bt rfl) rfl (by rw [ShModel_k0 hS448, o165])) ln165 (pd165 (aR 448) (aI 1) (aI 2)) <| ?_
      refine ok_aloadn (pc' := 1) i165_0 rfl rfl <| ok_getfi (v := 0) (pc' := 4) i165_1 o165 gi9_63 (ShModel_k0 hS448) rd_eq rfl <| ok_kz0 (pc1 := 16) (pc2 := 7) i165_4 (by decide) rfl rfl <| ok_iloadn (pc' := 8) i165_7 rfl rfl <| ok_kz0 (pc1 := 16) (pc2 := 11) i165_8 (by decide) rfl rfl <| ok_aloadn (pc' := 12) i165_11 rfl rfl <| ok_iloadn (pc' := 13) i165_12 rfl rfl <| ok_putfj (kk := 0) (pc' := 16) i165_13 o165 pi165_63 (ShModel_k0 hS448) rfl rfl <| ?_
      refine ok_aloadn (pc' := 17) i165_16 rfl rfl <| ok_getfi (v := 2) (pc' := 20) i165_17 o165 gi9_63 (ShModel_k0 hS448) rd_eq rfl <| ok_kz0 (pc1 := 27) (pc2 := 23) i165_20 (by decide) rfl rfl <| ok_iconst (pc' := 24) i165_23 rfl <| ok_goto (pc' := 28) i165_24 rfl <| ok_iretz i165_28 rt165 (by decide) <| kt_v (pc' := 26) rfl <| ok_kz0 (pc1 := 33) (pc2 := 29) i232_26 (by decide) rfl rfl <| ?_
      refine ok_iconst (pc' := 30) i232_29 rfl <| ok_goto (pc' := 34) i232_30 rfl <| ok_iretz i232_34 rt232 (by decide) <| kt_v (pc' := 5) rfl <| ok_kz0 (pc1 := 12) (pc2 := 8) i231_5 (by decide) rfl rfl <| ok_iconst (pc' := 9) i231_8 rfl <| ok_goto (pc' := 17) i231_9 rfl <| ok_ireti i231_17 rt231 <| ?_
      refine kt_v (pc' := 1815) rfl <| ok_istore (pc' := 1817) (ls' := [aR 1, aR 100, aR 448, aR 464, aR 465, aI i, aI 2, aI 0, w8]) i0_1815 (bt rfl) rfl rfl <| ok_aloadn (pc' := 1818) i0_1817 rfl rfl <| ok_cc i0_1818 rfl (cl_v o0 m13_188 na157 rfl rfl (bt rfl) (bt rfl) rfl (by rw [ShModel_k0 hS448, o157])) ln157 (pd157 (aR 448)) <| ok_aloadn (pc' := 1) i157_0 rfl rfl <| ok_getfi (v := 2) (pc' := 4) i157_1 o157 gi9_63 (ShModel_k0 hS448) rd_eq rfl <| ok_ireti i157_4 rt157 <| kt_v (pc' := 1821) rfl <| ?_
      refine ok_iload (pc' := 1823) i0_1821 rfl rfl <| ok_kc1 (pc1 := 1828) (pc2 := 1826) i0_1823 (by decide) rfl rfl <| ok_iload (pc' := 1830) i0_1828 rfl rfl <| ok_kz1 (pc1 := 1845) (pc2 := 1833) i0_1830 (by decide) rfl rfl <| ok_goto (pc' := 3329) i0_1845 rfl <| ?_
      exact K _ _ _ _ _ _ hD (by omega) (Inv_mono (Inv_same hI (Same.thr (Same.thr Same.rfl))) (by omega))
theorem c30_1 {L n : Nat} {g : AG} {M : AM} {xs : Nat → Int32} {b i : Int} {w6 w7 w8 : AV} {Q : AO → AG → AM → Prop} (hD : HD L n g) (hI : Inv xs b M) (hi : 0 ≤ i ∧ i + 6 ≤ L) (hb : 0 ≤ b ∧ b ≤ 900000) (hl : M 100 6 = 1) (K : KK L n i b xs Q) :
    Ok 10 0 1848 [aR 1, aR 100, aR 448, aR 464, aR 465, aI i, w6, w7, w8] [] g M Q := by
  have hI0 := hI
  obtain ⟨hA, hld, hl01, q, hc, ⟨nx, sz, hH, hsz⟩, hS⟩ := hI0
  have hH0 := hH
  obtain ⟨⟨hn1, hn0⟩, ⟨hz2, hz0⟩, h10, hHj⟩ := hH0
  obtain ⟨hw0, ⟨bu, by_, hb1, hb13, hbu, hZ, hU⟩, he3, he4, he5, hId, tx, hT, hUt, htl, htr⟩ := hA
  obtain ⟨s, hP, hRB, hO, hV, hQ, h40⟩ := hc hl
  have ys3 := V_3 hV
  have ys4 := V_4 hV
  have yq0 := Q_0 hQ
  have yq1 := Q_1 hQ
  obtain ⟨v1, hv1⟩ : ∃ u9 : Int, M 1 (i + 1) = u9 := ⟨_, rfl⟩
  have hr1 : -2147483648 ≤ v1 ∧ v1 < 2147483648 := hv1 ▸ scr_rg hw0 (i + 1)
  have hS1 := HD_s hD
  have hS100 := HD_y hD
  have hS138 := HD_p hD
  have hS149 := HD_b hD
  have hS174 := HD_t hD
  have hS175 := HD_tb hD
  have hS199 := HD_tw hD
  have hS448 := HD_o hD
  have hS464 := HD_u hD
  have hS465 := HD_ud hD
  refine ok_aloadn (pc' := 1849) i0_1848 rfl rfl <| ok_aloadn (pc' := 1850) i0_1849 rfl rfl <| ok_iload (pc' := 1852) i0_1850 rfl rfl <| ok_iconst (pc' := 1853) i0_1852 rfl <| ok_iadd (v := (i + 1)) (pc' := 1854) i0_1853 rfl rfl <| ok_iaload (v := v1) (pc' := 1855) i0_1854 (ShScr_k0 hS1) (by decide) (ShScr_l0 hS1) (by omega) hv1 rfl <| ok_aloadn (pc' := 1856) i0_1855 rfl rfl <| ok_cc i0_1856 rfl (cl_s o0 m13_282 na304 rfl rfl (bt rfl) (bt rfl) rfl) ln304 (pd304 (aR 100) (aI v1) (aR 464)) <| ?_
  refine ok_aloadn (pc' := 1) i304_0 rfl rfl <| ok_iconst (pc' := 2) i304_1 rfl <| ok_aloadn (pc' := 3) i304_2 rfl rfl <| ok_iloadn (pc' := 4) i304_3 rfl rfl <| ok_cc i304_4 rfl (cl_v o304 m13_95 na129 rfl rfl (bt rfl) (bt rfl) rfl (by rw [ShYard_k0 hS100, o129])) ln129 (pd129 (aR 100) (aI v1)) <| ok_aloadn (pc' := 1) i129_0 rfl rfl <| ok_cc i129_1 rfl (cl_v o129 m0_132 na99 rfl rfl (bt rfl) (bt rfl) rfl (by rw [ShYard_k0 hS100, o99])) ln99 (pd99 (aR 100)) <| ok_aloadn (pc' := 1) i99_0 rfl rfl <| ?_
  refine ok_getfi (v := 1) (pc' := 4) i99_1 o99 gi0_268 (ShYard_k0 hS100) hl rfl <| ok_kz1 (pc1 := 18) (pc2 := 7) i99_4 (by decide) rfl rfl <| ok_vret i99_18 rt99 <| kt_0 (pc' := 4) rfl <| ok_iloadn (pc' := 5) i129_4 rfl rfl <| ok_iconst (pc' := 6) i129_5 rfl <| ok_iconst (pc' := 7) i129_6 rfl <| ok_cc i129_7 rfl (cl_s o129 m0_172 na104 rfl rfl (bt rfl) (bt rfl) rfl) ln104 (pd104 (aI v1) (aI 0) (aI 3)) <| ?_
  refine ok_iloadn (pc' := 1) i104_0 rfl rfl <| ok_iloadn (pc' := 2) i104_1 rfl rfl <| ?_
  refine ok_clt (pc1 := 10) (pc2 := 5) i104_2 (by omega) rfl rfl (fun h501 => ?_) (fun h501 => ?_)
  · refine ok_throw th104_10 (bt rfl) <| kt_x hh129 <| kt_h hn304 hf304_4_11 hr304_15 <| kt_v (pc' := 1859) rfl <| ?_
    refine ok_al hD (fun g hD => ?_)
    have hS448 := HD_o hD
    have hS1 := HD_s hD
    have hS464 := HD_u hD
    have hS465 := HD_ud hD
    refine ok_istore (pc' := 1861) (ls' := [aR 1, aR 100, aR 448, aR 464, aR 465, aI i, aI 2, w7, w8]) i0_1859 (bt rfl) rfl rfl <| ok_aloadn (pc' := 1862) i0_1861 rfl rfl <| ok_aloadn (pc' := 1863) i0_1862 rfl rfl <| ok_iload (pc' := 1865) i0_1863 rfl rfl <| ok_iconst (pc' := 1866) i0_1865 rfl <| ok_iadd (v := (i + 1)) (pc' := 1867) i0_1866 rfl rfl <| ok_iaload (v := v1) (pc' := 1868) i0_1867 (ShScr_k0 hS1) (by decide) (ShScr_l0 hS1) (by omega) hv1 rfl <| ok_cc i0_1868 rfl (cl_v o0 m13_284 na243 rfl rfl (bt rfl) (bt rfl) rfl (by rw [ShModel_k0 hS448, o243])) ln243 (pd243 (aR 448) (aI v1)) <| ?_
    refine ok_aloadn (pc' := 1) i243_0 rfl rfl <| ok_iloadn (pc' := 2) i243_1 rfl rfl <| ok_cc i243_2 rfl (cl_v o243 m9_326 na232 rfl rfl (bt rfl) (bt rfl) rfl (by rw [ShModel_k0 hS448, o232])) ln232 (pd232 (aR 448) (aI v1)) <| ok_aloadn (pc' := 1) i232_0 rfl rfl <| ok_cc i232_1 rfl (cl_v o232 m9_216 na188 rfl rfl (bt rfl) (bt rfl) rfl (by rw [ShModel_k0 hS448, o188])) ln188 (pd188 (aR 448)) <| ok_aloadn (pc' := 1) i188_0 rfl rfl <| ok_iconst (pc' := 2) i188_1 rfl <| ok_putfj (kk := 0) (pc' := 5) i188_2 o188 pi188_63 (ShModel_k0 hS448) rfl rfl <| ?_
    refine ok_aloadn (pc' := 6) i188_5 rfl rfl <| ok_aloadn (pc' := 7) i188_6 rfl rfl <| ok_getfi (v := 1) (pc' := 10) i188_7 o188 gi9_66 (ShModel_k0 hS448) (rd_ni (by decide) (hld.trans hl)) rfl <| ok_kz1 (pc1 := 17) (pc2 := 13) i188_10 (by decide) rfl rfl <| ok_iconst (pc' := 18) i188_17 rfl <| ok_iconst (pc' := 19) i188_18 rfl <| ok_cc i188_19 rfl (cl_v o188 m9_70 na165 rfl rfl (bt rfl) (bt rfl) rfl (by rw [ShModel_k0 hS448, o165])) ln165 (pd165 (aR 448) (aI 0) (aI 1)) <| ok_aloadn (pc' := 1) i165_0 rfl rfl <| ?_
    refine ok_getfi (v := 0) (pc' := 4) i165_1 o165 gi9_63 (ShModel_k0 hS448) rd_eq rfl <| ok_kz0 (pc1 := 16) (pc2 := 7) i165_4 (by decide) rfl rfl <| ok_iloadn (pc' := 8) i165_7 rfl rfl <| ok_kz1 (pc1 := 16) (pc2 := 11) i165_8 (by decide) rfl rfl <| ok_aloadn (pc' := 17) i165_16 rfl rfl <| ok_getfi (v := 0) (pc' := 20) i165_17 o165 gi9_63 (ShModel_k0 hS448) rd_eq rfl <| ok_kz1 (pc1 := 27) (pc2 := 23) i165_20 (by decide) rfl rfl <| ok_iconst (pc' := 28) i165_27 rfl <| ?_
    refine ok_iretz i165_28 rt165 (by decide) <| kt_v (pc' := 22) rfl <| ok_iretz i188_22 rt188 (by decide) <| kt_v (pc' := 4) rfl <| ok_kz0 (pc1 := 29) (pc2 := 7) i232_4 (by decide) rfl rfl <| ok_aloadn (pc' := 8) i232_7 rfl rfl <| ok_iloadn (pc' := 9) i232_8 rfl rfl <| ok_iconst (pc' := 10) i232_9 rfl <| ?_
    refine ok_iconst (pc' := 11) i232_10 rfl <| ok_cc i232_11 rfl (cl_s o232 m9_140 na164 rfl rfl (bt rfl) (bt rfl) rfl) ln164 (pd164 (aI v1) (aI 0) (aI 3)) <| ok_iloadn (pc' := 1) i164_0 rfl rfl <| ok_iloadn (pc' := 2) i164_1 rfl rfl <| ?_
    refine ok_clt (pc1 := 14) (pc2 := 5) i164_2 (by omega) rfl rfl (fun h502 => ?_) (fun h9 => by exfalso; omega)
    refine ok_iconst (pc' := 15) i164_14 rfl <| ok_iretz i164_15 rt164 (by decide) <| kt_v (pc' := 14) rfl <| ok_kz0 (pc1 := 21) (pc2 := 17) i232_14 (by decide) rfl rfl <| ok_iconst (pc' := 18) i232_17 rfl <| ok_goto (pc' := 22) i232_18 rfl <| ok_iconst (pc' := 23) i232_22 rfl <| ok_cc i232_23 rfl (cl_v o232 m9_70 na165 rfl rfl (bt rfl) (bt rfl) rfl (by rw [ShModel_k0 hS448, o165])) ln165 (pd165 (aR 448) (aI 1) (aI 2)) <| ?_
    refine ok_aloadn (pc' := 1) i165_0 rfl rfl <| ok_getfi (v := 0) (pc' := 4) i165_1 o165 gi9_63 (ShModel_k0 hS448) rd_eq rfl <| ok_kz0 (pc1 := 16) (pc2 := 7) i165_4 (by decide) rfl rfl <| ok_iloadn (pc' := 8) i165_7 rfl rfl <| ok_kz0 (pc1 := 16) (pc2 := 11) i165_8 (by decide) rfl rfl <| ok_aloadn (pc' := 12) i165_11 rfl rfl <| ok_iloadn (pc' := 13) i165_12 rfl rfl <| ok_putfj (kk := 0) (pc' := 16) i165_13 o165 pi165_63 (ShModel_k0 hS448) rfl rfl <| ?_
    refine ok_aloadn (pc' := 17) i165_16 rfl rfl <| ok_getfi (v := 2) (pc' := 20) i165_17 o165 gi9_63 (ShModel_k0 hS448) rd_eq rfl <| ok_kz0 (pc1 := 27) (pc2 := 23) i165_20 (by decide) rfl rfl <| ok_iconst (pc' := 24) i165_23 rfl <| ok_goto (pc' := 28) i165_24 rfl <| ok_iretz i165_28 rt165 (by decide) <| kt_v (pc' := 26) rfl <| ok_kz0 (pc1 := 33) (pc2 := 29) i232_26 (by decide) rfl rfl <| ?_
    refine ok_iconst (pc' := 30) i232_29 rfl <| ok_goto (pc' := 34) i232_30 rfl <| ok_iretz i232_34 rt232 (by decide) <| kt_v (pc' := 5) rfl <| ok_kz0 (pc1 := 12) (pc2 := 8) i243_5 (by decide) rfl rfl <| ok_iconst (pc' := 9) i243_8 rfl <| ok_goto (pc' := 17) i243_9 rfl <| ok_ireti i243_17 rt243 <| ?_
    refine kt_v (pc' := 1871) rfl <| ok_istore (pc' := 1873) (ls' := [aR 1, aR 100, aR 448, aR 464, aR 465, aI i, aI 2, aI 0, w8]) i0_1871 (bt rfl) rfl rfl <| ok_aloadn (pc' := 1874) i0_1873 rfl rfl <| ok_cc i0_1874 rfl (cl_v o0 m13_188 na157 rfl rfl (bt rfl) (bt rfl) rfl (by rw [ShModel_k0 hS448, o157])) ln157 (pd157 (aR 448)) <| ok_aloadn (pc' := 1) i157_0 rfl rfl <| ok_getfi (v := 2) (pc' := 4) i157_1 o157 gi9_63 (ShModel_k0 hS448) rd_eq rfl <| ok_ireti i157_4 rt157 <| kt_v (pc' := 1877) rfl <| ?_
    refine ok_iload (pc' := 1879) i0_1877 rfl rfl <| ok_kc1 (pc1 := 1884) (pc2 := 1882) i0_1879 (by decide) rfl rfl <| ok_iload (pc' := 1886) i0_1884 rfl rfl <| ok_kz1 (pc1 := 1901) (pc2 := 1889) i0_1886 (by decide) rfl rfl <| ok_goto (pc' := 3329) i0_1901 rfl <| ?_
    exact K _ _ _ _ _ _ hD (by omega) (Inv_mono (Inv_same hI (Same.thr (Same.thr Same.rfl))) (by omega))
  · refine ok_iloadn (pc' := 6) i104_5 rfl rfl <| ok_iloadn (pc' := 7) i104_6 rfl rfl <| ?_
    refine ok_cle (pc1 := 21) (pc2 := 10) i104_7 (by omega) rfl rfl (fun h503 => ?_) (fun h503 => ?_)
    · refine ok_vret i104_21 rt104 <| kt_0 (pc' := 10) rfl <| ok_aloadn (pc' := 11) i129_10 rfl rfl <| ok_getfr (r := 174) (pc' := 14) i129_11 o129 gr0_55 (ShYard_k0 hS100) (ShYard_r10 hS100) rfl <| ok_iloadn (pc' := 15) i129_14 rfl rfl <| ?_
      refine ok_cn (pc' := 18) (d0 := 5) i129_15 rfl (cl_v o129 m0_250 na54 rfl rfl (bt rfl) (bt rfl) rfl (by rw [ShTrial_k0 hS174, o54])) ln54 (pd54 (aR 174) (aI v1)) (by omega) (t54 (x1 := v1) hS174 hS199 hS138 hS175 hS149 hP hRB hQ hV (by omega) (by omega) (by omega) (by omega)) rfl (fun M504 p505 => ?_)
      refine ok_ireti i129_18 rt129 <| kt_v (pc' := 7) rfl <| ok_i2l (v := (wr (lossS q s v1))) (pc' := 8) i304_7 rfl rfl <| ok_lastore (pc' := 9) i304_8 (ShOut_k0 hS464) (ShOut_l0 hS464) (by decide) rfl <| ok_goto (pc' := 18) i304_9 rfl <| ok_iconst (pc' := 19) i304_18 rfl <| ok_ireti i304_19 rt304 <| kt_v (pc' := 1859) rfl <| ?_
      refine ok_istore (pc' := 1861) (ls' := [aR 1, aR 100, aR 448, aR 464, aR 465, aI i, aI 0, w7, w8]) i0_1859 (bt rfl) rfl rfl <| ok_aloadn (pc' := 1862) i0_1861 rfl rfl <| ok_aloadn (pc' := 1863) i0_1862 rfl rfl <| ok_iload (pc' := 1865) i0_1863 rfl rfl <| ok_iconst (pc' := 1866) i0_1865 rfl <| ok_iadd (v := (i + 1)) (pc' := 1867) i0_1866 rfl rfl <| ok_iaload (v := v1) (pc' := 1868) i0_1867 (ShScr_k0 hS1) (by decide) (ShScr_l0 hS1) (by omega) (rd_na (by omega) (Eq.trans (congrFun (p505 1 (by omega)) (i + 1)) hv1)) rfl <| ok_cc i0_1868 rfl (cl_v o0 m13_284 na243 rfl rfl (bt rfl) (bt rfl) rfl (by rw [ShModel_k0 hS448, o243])) ln243 (pd243 (aR 448) (aI v1)) <| ?_
      refine ok_aloadn (pc' := 1) i243_0 rfl rfl <| ok_iloadn (pc' := 2) i243_1 rfl rfl <| ok_cc i243_2 rfl (cl_v o243 m9_326 na232 rfl rfl (bt rfl) (bt rfl) rfl (by rw [ShModel_k0 hS448, o232])) ln232 (pd232 (aR 448) (aI v1)) <| ok_aloadn (pc' := 1) i232_0 rfl rfl <| ok_cc i232_1 rfl (cl_v o232 m9_216 na188 rfl rfl (bt rfl) (bt rfl) rfl (by rw [ShModel_k0 hS448, o188])) ln188 (pd188 (aR 448)) <| ok_aloadn (pc' := 1) i188_0 rfl rfl <| ok_iconst (pc' := 2) i188_1 rfl <| ok_putfj (kk := 0) (pc' := 5) i188_2 o188 pi188_63 (ShModel_k0 hS448) rfl rfl <| ?_
      refine ok_aloadn (pc' := 6) i188_5 rfl rfl <| ok_aloadn (pc' := 7) i188_6 rfl rfl <| ?_
      have hCM504_448 : RepO M504 448 q s := RepO.fr hO ⟨((congrFun (p505 448 (by omega)) 2).trans (by rfl)), ((congrFun (p505 448 (by omega)) 3).trans (by rfl))⟩ (fun a h1 h2 => (p505 a (by omega)).trans rfl)
      refine ok_getfi (v := 1) (pc' := 10) i188_7 o188 gi9_66 (ShModel_k0 hS448) (rd_ni (by decide) (rd_na (by omega) (Eq.trans (congrFun (p505 448 (by omega)) 1) (hld.trans hl)))) rfl <| ok_kz1 (pc1 := 17) (pc2 := 13) i188_10 (by decide) rfl rfl <| ok_iconst (pc' := 18) i188_17 rfl <| ok_iconst (pc' := 19) i188_18 rfl <| ok_cc i188_19 rfl (cl_v o188 m9_70 na165 rfl rfl (bt rfl) (bt rfl) rfl (by rw [ShModel_k0 hS448, o165])) ln165 (pd165 (aR 448) (aI 0) (aI 1)) <| ok_aloadn (pc' := 1) i165_0 rfl rfl <| ok_getfi (v := 0) (pc' := 4) i165_1 o165 gi9_63 (ShModel_k0 hS448) rd_eq rfl <| ok_kz0 (pc1 := 16) (pc2 := 7) i165_4 (by decide) rfl rfl <| ?_
      refine ok_iloadn (pc' := 8) i165_7 rfl rfl <| ok_kz1 (pc1 := 16) (pc2 := 11) i165_8 (by decide) rfl rfl <| ok_aloadn (pc' := 17) i165_16 rfl rfl <| ok_getfi (v := 0) (pc' := 20) i165_17 o165 gi9_63 (ShModel_k0 hS448) rd_eq rfl <| ok_kz1 (pc1 := 27) (pc2 := 23) i165_20 (by decide) rfl rfl <| ok_iconst (pc' := 28) i165_27 rfl <| ok_iretz i165_28 rt165 (by decide) <| kt_v (pc' := 22) rfl <| ?_
      refine ok_iretz i188_22 rt188 (by decide) <| kt_v (pc' := 4) rfl <| ok_kz0 (pc1 := 29) (pc2 := 7) i232_4 (by decide) rfl rfl <| ok_aloadn (pc' := 8) i232_7 rfl rfl <| ok_iloadn (pc' := 9) i232_8 rfl rfl <| ok_iconst (pc' := 10) i232_9 rfl <| ok_iconst (pc' := 11) i232_10 rfl <| ok_cc i232_11 rfl (cl_s o232 m9_140 na164 rfl rfl (bt rfl) (bt rfl) rfl) ln164 (pd164 (aI v1) (aI 0) (aI 3)) <| ?_
      refine ok_iloadn (pc' := 1) i164_0 rfl rfl <| ok_iloadn (pc' := 2) i164_1 rfl rfl <| ?_
      refine ok_clt (pc1 := 14) (pc2 := 5) i164_2 (by omega) rfl rfl (fun h9 => by exfalso; omega) (fun h506 => ?_)
      refine ok_iloadn (pc' := 6) i164_5 rfl rfl <| ok_iloadn (pc' := 7) i164_6 rfl rfl <| ?_
      refine ok_cgt (pc1 := 14) (pc2 := 10) i164_7 (by omega) rfl rfl (fun h9 => by exfalso; omega) (fun h507 => ?_)
      refine ok_iconst (pc' := 11) i164_10 rfl <| ok_goto (pc' := 15) i164_11 rfl <| ok_iretz i164_15 rt164 (by decide) <| kt_v (pc' := 14) rfl <| ok_kz1 (pc1 := 21) (pc2 := 17) i232_14 (by decide) rfl rfl <| ok_iconst (pc' := 22) i232_21 rfl <| ok_iconst (pc' := 23) i232_22 rfl <| ok_cc i232_23 rfl (cl_v o232 m9_70 na165 rfl rfl (bt rfl) (bt rfl) rfl (by rw [ShModel_k0 hS448, o165])) ln165 (pd165 (aR 448) (aI 0) (aI 2)) <| ?_
      refine ok_aloadn (pc' := 1) i165_0 rfl rfl <| ok_getfi (v := 0) (pc' := 4) i165_1 o165 gi9_63 (ShModel_k0 hS448) rd_eq rfl <| ok_kz0 (pc1 := 16) (pc2 := 7) i165_4 (by decide) rfl rfl <| ok_iloadn (pc' := 8) i165_7 rfl rfl <| ok_kz1 (pc1 := 16) (pc2 := 11) i165_8 (by decide) rfl rfl <| ok_aloadn (pc' := 17) i165_16 rfl rfl <| ok_getfi (v := 0) (pc' := 20) i165_17 o165 gi9_63 (ShModel_k0 hS448) rd_eq rfl <| ok_kz1 (pc1 := 27) (pc2 := 23) i165_20 (by decide) rfl rfl <| ?_
      refine ok_iconst (pc' := 28) i165_27 rfl <| ok_iretz i165_28 rt165 (by decide) <| kt_v (pc' := 26) rfl <| ok_kz1 (pc1 := 33) (pc2 := 29) i232_26 (by decide) rfl rfl <| ok_iconst (pc' := 34) i232_33 rfl <| ok_iretz i232_34 rt232 (by decide) <| kt_v (pc' := 5) rfl <| ok_kz1 (pc1 := 12) (pc2 := 8) i243_5 (by decide) rfl rfl <| ?_
      refine ok_aloadn (pc' := 13) i243_12 rfl rfl <| ok_iloadn (pc' := 14) i243_13 rfl rfl <| ?_
      refine ok_cn (pc' := 17) (d0 := 7) i243_14 rfl (cl_v o243 m9_332 na244 rfl rfl (bt rfl) (bt rfl) rfl (by rw [ShModel_k0 hS448, o244])) ln244 (pd244 (aR 448) (aI v1)) (by omega) (t244 (x1 := v1) hS448 (RepO.fr hCM504_448 ⟨(by rw [up2_rd, if_neg (by omega), up2_na (by omega)]), (by rw [up2_rd, if_neg (by omega), up2_na (by omega)])⟩ (fun a h1 h2 => (by rw [up2_na (by omega), up2_na (by omega)]))) hV hQ (by omega) (by omega)) rfl (fun M508 p509 => ?_)
      refine ok_ireti i243_17 rt243 <| kt_v (pc' := 1871) rfl <| ok_istore (pc' := 1873) (ls' := [aR 1, aR 100, aR 448, aR 464, aR 465, aI i, aI 0, aI (lossS q s v1), w8]) i0_1871 (bt rfl) rfl rfl <| ok_aloadn (pc' := 1874) i0_1873 rfl rfl <| ok_cc i0_1874 rfl (cl_v o0 m13_188 na157 rfl rfl (bt rfl) (bt rfl) rfl (by rw [ShModel_k0 hS448, o157])) ln157 (pd157 (aR 448)) <| ok_aloadn (pc' := 1) i157_0 rfl rfl <| ?_
      have hCM508_448 : RepO M508 448 q s := RepO.fr hCM504_448 ⟨((congrFun (WI.na p509 (c := 448) (by omega)) 2).trans (by rw [up2_rd, if_neg (by omega), up2_na (by omega)])), ((congrFun (WI.na p509 (c := 448) (by omega)) 3).trans (by rw [up2_rd, if_neg (by omega), up2_na (by omega)]))⟩ (fun a h1 h2 => (WI.na p509 (by omega)).trans (by rw [up2_na (by omega), up2_na (by omega)]))
      refine ok_getfi (v := 0) (pc' := 4) i157_1 o157 gi9_63 (ShModel_k0 hS448) (Eq.trans (congrFun (WI.na p509 (c := 448) (by omega)) 0) rd_eq) rfl <| ok_ireti i157_4 rt157 <| kt_v (pc' := 1877) rfl <| ok_iload (pc' := 1879) i0_1877 rfl rfl <| ok_kc1 (pc1 := 1884) (pc2 := 1882) i0_1879 (by decide) rfl rfl <| ok_iload (pc' := 1886) i0_1884 rfl rfl <| ok_kz0 (pc1 := 1901) (pc2 := 1889) i0_1886 (by decide) rfl rfl <| ok_aloadn (pc' := 1890) i0_1889 rfl rfl <| ?_
      refine ok_iconst (pc' := 1891) i0_1890 rfl <| ok_laload (v := (wr (lossS q s v1))) (pc' := 1892) i0_1891 (ShOut_k0 hS464) (ShOut_l0 hS464) (by decide) (Eq.trans (congrFun (WI.na p509 (c := 464) (by omega)) 0) (rd_na (by omega) rd_eq)) rfl <| ok_iload (pc' := 1894) i0_1892 rfl rfl <| ok_i2l (v := (wr (lossS q s v1))) (pc' := 1895) i0_1894 rfl rfl <| ok_lcmp0 (pc' := 1896) i0_1895 rfl <| ok_kz1 (pc1 := 1901) (pc2 := 1899) i0_1896 (by decide) rfl rfl <| ok_goto (pc' := 3329) i0_1901 rfl <| ?_
      exact K _ _ _ _ _ _ hD (by omega) (Inv_mono (Inv_same hI (Same.wi (Same.thr (Same.out (Same.wr Same.rfl p505))) p509)) (by omega))
    · refine ok_throw th104_10 (bt rfl) <| kt_x hh129 <| kt_h hn304 hf304_4_11 hr304_15 <| kt_v (pc' := 1859) rfl <| ?_
      refine ok_al hD (fun g hD => ?_)
      have hS448 := HD_o hD
      have hS1 := HD_s hD
      have hS464 := HD_u hD
      have hS465 := HD_ud hD
      refine ok_istore (pc' := 1861) (ls' := [aR 1, aR 100, aR 448, aR 464, aR 465, aI i, aI 2, w7, w8]) i0_1859 (bt rfl) rfl rfl <| ok_aloadn (pc' := 1862) i0_1861 rfl rfl <| ok_aloadn (pc' := 1863) i0_1862 rfl rfl <| ok_iload (pc' := 1865) i0_1863 rfl rfl <| ok_iconst (pc' := 1866) i0_1865 rfl <| ok_iadd (v := (i + 1)) (pc' := 1867) i0_1866 rfl rfl <| ok_iaload (v := v1) (pc' := 1868) i0_1867 (ShScr_k0 hS1) (by decide) (ShScr_l0 hS1) (by omega) hv1 rfl <| ok_cc i0_1868 rfl (cl_v o0 m13_284 na243 rfl rfl (bt rfl) (bt rfl) rfl (by rw [ShModel_k0 hS448, o243])) ln243 (pd243 (aR 448) (aI v1)) <| ?_
      refine ok_aloadn (pc' := 1) i243_0 rfl rfl <| ok_iloadn (pc' := 2) i243_1 rfl rfl <| ok_cc i243_2 rfl (cl_v o243 m9_326 na232 rfl rfl (bt rfl) (bt rfl) rfl (by rw [ShModel_k0 hS448, o232])) ln232 (pd232 (aR 448) (aI v1)) <| ok_aloadn (pc' := 1) i232_0 rfl rfl <| ok_cc i232_1 rfl (cl_v o232 m9_216 na188 rfl rfl (bt rfl) (bt rfl) rfl (by rw [ShModel_k0 hS448, o188])) ln188 (pd188 (aR 448)) <| ok_aloadn (pc' := 1) i188_0 rfl rfl <| ok_iconst (pc' := 2) i188_1 rfl <| ok_putfj (kk := 0) (pc' := 5) i188_2 o188 pi188_63 (ShModel_k0 hS448) rfl rfl <| ?_
      refine ok_aloadn (pc' := 6) i188_5 rfl rfl <| ok_aloadn (pc' := 7) i188_6 rfl rfl <| ok_getfi (v := 1) (pc' := 10) i188_7 o188 gi9_66 (ShModel_k0 hS448) (rd_ni (by decide) (hld.trans hl)) rfl <| ok_kz1 (pc1 := 17) (pc2 := 13) i188_10 (by decide) rfl rfl <| ok_iconst (pc' := 18) i188_17 rfl <| ok_iconst (pc' := 19) i188_18 rfl <| ok_cc i188_19 rfl (cl_v o188 m9_70 na165 rfl rfl (bt rfl) (bt rfl) rfl (by rw [ShModel_k0 hS448, o165])) ln165 (pd165 (aR 448) (aI 0) (aI 1)) <| ok_aloadn (pc' := 1) i165_0 rfl rfl <| ?_
      refine ok_getfi (v := 0) (pc' := 4) i165_1 o165 gi9_63 (ShModel_k0 hS448) rd_eq rfl <| ok_kz0 (pc1 := 16) (pc2 := 7) i165_4 (by decide) rfl rfl <| ok_iloadn (pc' := 8) i165_7 rfl rfl <| ok_kz1 (pc1 := 16) (pc2 := 11) i165_8 (by decide) rfl rfl <| ok_aloadn (pc' := 17) i165_16 rfl rfl <| ok_getfi (v := 0) (pc' := 20) i165_17 o165 gi9_63 (ShModel_k0 hS448) rd_eq rfl <| ok_kz1 (pc1 := 27) (pc2 := 23) i165_20 (by decide) rfl rfl <| ok_iconst (pc' := 28) i165_27 rfl <| ?_
      refine ok_iretz i165_28 rt165 (by decide) <| kt_v (pc' := 22) rfl <| ok_iretz i188_22 rt188 (by decide) <| kt_v (pc' := 4) rfl <| ok_kz0 (pc1 := 29) (pc2 := 7) i232_4 (by decide) rfl rfl <| ok_aloadn (pc' := 8) i232_7 rfl rfl <| ok_iloadn (pc' := 9) i232_8 rfl rfl <| ok_iconst (pc' := 10) i232_9 rfl <| ?_
      refine ok_iconst (pc' := 11) i232_10 rfl <| ok_cc i232_11 rfl (cl_s o232 m9_140 na164 rfl rfl (bt rfl) (bt rfl) rfl) ln164 (pd164 (aI v1) (aI 0) (aI 3)) <| ok_iloadn (pc' := 1) i164_0 rfl rfl <| ok_iloadn (pc' := 2) i164_1 rfl rfl <| ?_
      refine ok_clt (pc1 := 14) (pc2 := 5) i164_2 (by omega) rfl rfl (fun h9 => by exfalso; omega) (fun h510 => ?_)
      refine ok_iloadn (pc' := 6) i164_5 rfl rfl <| ok_iloadn (pc' := 7) i164_6 rfl rfl <| ?_
      refine ok_cgt (pc1 := 14) (pc2 := 10) i164_7 (by omega) rfl rfl (fun h511 => ?_) (fun h9 => by exfalso; omega)
      refine ok_iconst (pc' := 15) i164_14 rfl <| ok_iretz i164_15 rt164 (by decide) <| kt_v (pc' := 14) rfl <| ok_kz0 (pc1 := 21) (pc2 := 17) i232_14 (by decide) rfl rfl <| ok_iconst (pc' := 18) i232_17 rfl <| ok_goto (pc' := 22) i232_18 rfl <| ok_iconst (pc' := 23) i232_22 rfl <| ok_cc i232_23 rfl (cl_v o232 m9_70 na165 rfl rfl (bt rfl) (bt rfl) rfl (by rw [ShModel_k0 hS448, o165])) ln165 (pd165 (aR 448) (aI 1) (aI 2)) <| ?_
      refine ok_aloadn (pc' := 1) i165_0 rfl rfl <| ok_getfi (v := 0) (pc' := 4) i165_1 o165 gi9_63 (ShModel_k0 hS448) rd_eq rfl <| ok_kz0 (pc1 := 16) (pc2 := 7) i165_4 (by decide) rfl rfl <| ok_iloadn (pc' := 8) i165_7 rfl rfl <| ok_kz0 (pc1 := 16) (pc2 := 11) i165_8 (by decide) rfl rfl <| ok_aloadn (pc' := 12) i165_11 rfl rfl <| ok_iloadn (pc' := 13) i165_12 rfl rfl <| ok_putfj (kk := 0) (pc' := 16) i165_13 o165 pi165_63 (ShModel_k0 hS448) rfl rfl <| ?_
      refine ok_aloadn (pc' := 17) i165_16 rfl rfl <| ok_getfi (v := 2) (pc' := 20) i165_17 o165 gi9_63 (ShModel_k0 hS448) rd_eq rfl <| ok_kz0 (pc1 := 27) (pc2 := 23) i165_20 (by decide) rfl rfl <| ok_iconst (pc' := 24) i165_23 rfl <| ok_goto (pc' := 28) i165_24 rfl <| ok_iretz i165_28 rt165 (by decide) <| kt_v (pc' := 26) rfl <| ok_kz0 (pc1 := 33) (pc2 := 29) i232_26 (by decide) rfl rfl <| ?_
      refine ok_iconst (pc' := 30) i232_29 rfl <| ok_goto (pc' := 34) i232_30 rfl <| ok_iretz i232_34 rt232 (by decide) <| kt_v (pc' := 5) rfl <| ok_kz0 (pc1 := 12) (pc2 := 8) i243_5 (by decide) rfl rfl <| ok_iconst (pc' := 9) i243_8 rfl <| ok_goto (pc' := 17) i243_9 rfl <| ok_ireti i243_17 rt243 <| ?_
      refine kt_v (pc' := 1871) rfl <| ok_istore (pc' := 1873) (ls' := [aR 1, aR 100, aR 448, aR 464, aR 465, aI i, aI 2, aI 0, w8]) i0_1871 (bt rfl) rfl rfl <| ok_aloadn (pc' := 1874) i0_1873 rfl rfl <| ok_cc i0_1874 rfl (cl_v o0 m13_188 na157 rfl rfl (bt rfl) (bt rfl) rfl (by rw [ShModel_k0 hS448, o157])) ln157 (pd157 (aR 448)) <| ok_aloadn (pc' := 1) i157_0 rfl rfl <| ok_getfi (v := 2) (pc' := 4) i157_1 o157 gi9_63 (ShModel_k0 hS448) rd_eq rfl <| ok_ireti i157_4 rt157 <| kt_v (pc' := 1877) rfl <| ?_
      refine ok_iload (pc' := 1879) i0_1877 rfl rfl <| ok_kc1 (pc1 := 1884) (pc2 := 1882) i0_1879 (by decide) rfl rfl <| ok_iload (pc' := 1886) i0_1884 rfl rfl <| ok_kz1 (pc1 := 1901) (pc2 := 1889) i0_1886 (by decide) rfl rfl <| ok_goto (pc' := 3329) i0_1901 rfl <| ?_
      exact K _ _ _ _ _ _ hD (by omega) (Inv_mono (Inv_same hI (Same.thr (Same.thr Same.rfl))) (by omega))
theorem c32_1 {L n : Nat} {g : AG} {M : AM} {xs : Nat → Int32} {b i : Int} {w6 w7 w8 : AV} {Q : AO → AG → AM → Prop} (hD : HD L n g) (hI : Inv xs b M) (hi : 0 ≤ i ∧ i + 6 ≤ L) (hb : 0 ≤ b ∧ b ≤ 900000) (hl : M 100 6 = 1) (K : KK L n i b xs Q) :
    Ok 10 0 1972 [aR 1, aR 100, aR 448, aR 464, aR 465, aI i, w6, w7, w8] [] g M Q := by
  have hI0 := hI
  obtain ⟨hA, hld, hl01, q, hc, ⟨nx, sz, hH, hsz⟩, hS⟩ := hI0
  have hH0 := hH
  obtain ⟨⟨hn1, hn0⟩, ⟨hz2, hz0⟩, h10, hHj⟩ := hH0
  obtain ⟨hw0, ⟨bu, by_, hb1, hb13, hbu, hZ, hU⟩, he3, he4, he5, hId, tx, hT, hUt, htl, htr⟩ := hA
  obtain ⟨s, hP, hRB, hO, hV, hQ, h40⟩ := hc hl
  have ys3 := V_3 hV
  have ys4 := V_4 hV
  have yq0 := Q_0 hQ
  have yq1 := Q_1 hQ
  have hS100 := HD_y hD
  have hS138 := HD_p hD
  have hS149 := HD_b hD
  have hS174 := HD_t hD
  have hS175 := HD_tb hD
  have hS199 := HD_tw hD
  have hS448 := HD_o hD
  have hS464 := HD_u hD
  refine ok_aloadn (pc' := 1973) i0_1972 rfl rfl <| ok_aloadn (pc' := 1974) i0_1973 rfl rfl <| ok_cc i0_1974 rfl (cl_s o0 m13_288 na306 rfl rfl (bt rfl) (bt rfl) rfl) ln306 (pd306 (aR 100) (aR 464)) <| ok_aloadn (pc' := 1) i306_0 rfl rfl <| ok_iconst (pc' := 2) i306_1 rfl <| ok_aloadn (pc' := 3) i306_2 rfl rfl <| ?_
  refine ok_cn (pc' := 6) (d0 := 6) i306_3 rfl (cl_v o306 m13_101 na131 rfl rfl (bt rfl) (bt rfl) rfl (by rw [ShYard_k0 hS100, o131])) ln131 (pd131 (aR 100)) (by omega) (t131 hS100 hS174 hS199 hS138 hS175 hS149 hP hRB hQ hV (by omega) (by omega) (by omega) hl) rfl (fun M501 p502 => ?_)
  refine ok_i2l (v := (wr (polS q s))) (pc' := 7) i306_6 rfl rfl <| ok_lastore (pc' := 8) i306_7 (ShOut_k0 hS464) (ShOut_l0 hS464) (by decide) rfl <| ok_goto (pc' := 14) i306_8 rfl <| ok_iconst (pc' := 15) i306_14 rfl <| ok_ireti i306_15 rt306 <| kt_v (pc' := 1977) rfl <| ok_istore (pc' := 1979) (ls' := [aR 1, aR 100, aR 448, aR 464, aR 465, aI i, aI 0, w7, w8]) i0_1977 (bt rfl) rfl rfl <| ok_aloadn (pc' := 1980) i0_1979 rfl rfl <| ?_
  have hCM501_448 : RepO M501 448 q s := RepO.fr hO ⟨((congrFun (p502 448 (by omega)) 2).trans (by rfl)), ((congrFun (p502 448 (by omega)) 3).trans (by rfl))⟩ (fun a h1 h2 => (p502 a (by omega)).trans rfl)
  refine ok_cn (pc' := 1983) (d0 := 8) i0_1980 rfl (cl_v o0 m13_290 na248 rfl rfl (bt rfl) (bt rfl) rfl (by rw [ShModel_k0 hS448, o248])) ln248 (pd248 (aR 448)) (by omega) (t248 hS448 (RepO.fr hCM501_448 ⟨(by rw [up2_na (by omega)]), (by rw [up2_na (by omega)])⟩ (fun a h1 h2 => (by rw [up2_na (by omega)]))) hV hQ (by omega) (rd_na (by omega) (Eq.trans (congrFun (p502 448 (by omega)) 1) (hld.trans hl)))) rfl (fun M503 p504 => ?_)
  refine ok_istore (pc' := 1985) (ls' := [aR 1, aR 100, aR 448, aR 464, aR 465, aI i, aI 0, aI (polS q s), w8]) i0_1983 (bt rfl) rfl rfl <| ok_aloadn (pc' := 1986) i0_1985 rfl rfl <| ok_cc i0_1986 rfl (cl_v o0 m13_188 na157 rfl rfl (bt rfl) (bt rfl) rfl (by rw [ShModel_k0 hS448, o157])) ln157 (pd157 (aR 448)) <| ok_aloadn (pc' := 1) i157_0 rfl rfl <| ?_
  have hCM503_448 : RepO M503 448 q s := RepO.fr hCM501_448 ⟨((congrFun (WI.na p504 (c := 448) (by omega)) 2).trans (by rw [up2_rd, if_neg (by omega), up2_na (by omega)])), ((congrFun (WI.na p504 (c := 448) (by omega)) 3).trans (by rw [up2_rd, if_neg (by omega), up2_na (by omega)]))⟩ (fun a h1 h2 => (WI.na p504 (by omega)).trans (by rw [up2_na (by omega), up2_na (by omega)]))
  refine ok_getfi (v := 0) (pc' := 4) i157_1 o157 gi9_63 (ShModel_k0 hS448) (Eq.trans (congrFun (WI.na p504 (c := 448) (by omega)) 0) rd_eq) rfl <| ok_ireti i157_4 rt157 <| kt_v (pc' := 1989) rfl <| ok_iload (pc' := 1991) i0_1989 rfl rfl <| ok_kc1 (pc1 := 1996) (pc2 := 1994) i0_1991 (by decide) rfl rfl <| ok_iload (pc' := 1998) i0_1996 rfl rfl <| ok_kz0 (pc1 := 2013) (pc2 := 2001) i0_1998 (by decide) rfl rfl <| ok_aloadn (pc' := 2002) i0_2001 rfl rfl <| ?_
  refine ok_iconst (pc' := 2003) i0_2002 rfl <| ok_laload (v := (wr (polS q s))) (pc' := 2004) i0_2003 (ShOut_k0 hS464) (ShOut_l0 hS464) (by decide) (Eq.trans (congrFun (WI.na p504 (c := 464) (by omega)) 0) (rd_na (by omega) rd_eq)) rfl <| ok_iload (pc' := 2006) i0_2004 rfl rfl <| ok_i2l (v := (wr (polS q s))) (pc' := 2007) i0_2006 rfl rfl <| ok_lcmp0 (pc' := 2008) i0_2007 rfl <| ok_kz1 (pc1 := 2013) (pc2 := 2011) i0_2008 (by decide) rfl rfl <| ok_goto (pc' := 3329) i0_2013 rfl <| ?_
  exact K _ _ _ _ _ _ hD (by omega) (Inv_mono (Inv_same hI (Same.wi (Same.thr (Same.out (Same.wr Same.rfl p502))) p504)) (by omega))
theorem c33_1 {L n : Nat} {g : AG} {M : AM} {xs : Nat → Int32} {b i : Int} {w6 w7 w8 : AV} {Q : AO → AG → AM → Prop} (hD : HD L n g) (hI : Inv xs b M) (hi : 0 ≤ i ∧ i + 6 ≤ L) (hb : 0 ≤ b ∧ b ≤ 900000) (hl : M 100 6 = 1) (K : KK L n i b xs Q) :
    Ok 10 0 2016 [aR 1, aR 100, aR 448, aR 464, aR 465, aI i, w6, w7, w8] [] g M Q := by
  have hI0 := hI
  obtain ⟨hA, hld, hl01, q, hc, ⟨nx, sz, hH, hsz⟩, hS⟩ := hI0
  have hH0 := hH
  obtain ⟨⟨hn1, hn0⟩, ⟨hz2, hz0⟩, h10, hHj⟩ := hH0
  obtain ⟨hw0, ⟨bu, by_, hb1, hb13, hbu, hZ, hU⟩, he3, he4, he5, hId, tx, hT, hUt, htl, htr⟩ := hA
  obtain ⟨s, hP, hRB, hO, hV, hQ, h40⟩ := hc hl
  have ys3 := V_3 hV
  have ys4 := V_4 hV
  have yq0 := Q_0 hQ
  have yq1 := Q_1 hQ
  obtain ⟨v1, hv1⟩ : ∃ u9 : Int, M 1 (i + 1) = u9 := ⟨_, rfl⟩
  have hr1 : -2147483648 ≤ v1 ∧ v1 < 2147483648 := hv1 ▸ scr_rg hw0 (i + 1)
  have hS1 := HD_s hD
  have hS100 := HD_y hD
  have hS138 := HD_p hD
  have hS149 := HD_b hD
  have hS174 := HD_t hD
  have hS175 := HD_tb hD
  have hS199 := HD_tw hD
  have hS448 := HD_o hD
  have hS464 := HD_u hD
  have hS465 := HD_ud hD
  refine ok_aloadn (pc' := 2017) i0_2016 rfl rfl <| ok_aloadn (pc' := 2018) i0_2017 rfl rfl <| ok_iload (pc' := 2020) i0_2018 rfl rfl <| ok_iconst (pc' := 2021) i0_2020 rfl <| ok_iadd (v := (i + 1)) (pc' := 2022) i0_2021 rfl rfl <| ok_iaload (v := v1) (pc' := 2023) i0_2022 (ShScr_k0 hS1) (by decide) (ShScr_l0 hS1) (by omega) hv1 rfl <| ok_aloadn (pc' := 2024) i0_2023 rfl rfl <| ok_cc i0_2024 rfl (cl_s o0 m13_291 na307 rfl rfl (bt rfl) (bt rfl) rfl) ln307 (pd307 (aR 100) (aI v1) (aR 464)) <| ?_
  refine ok_aloadn (pc' := 1) i307_0 rfl rfl <| ok_iconst (pc' := 2) i307_1 rfl <| ok_aloadn (pc' := 3) i307_2 rfl rfl <| ok_iloadn (pc' := 4) i307_3 rfl rfl <| ok_cc i307_4 rfl (cl_v o307 m13_104 na132 rfl rfl (bt rfl) (bt rfl) rfl (by rw [ShYard_k0 hS100, o132])) ln132 (pd132 (aR 100) (aI v1)) <| ok_aloadn (pc' := 1) i132_0 rfl rfl <| ok_cc i132_1 rfl (cl_v o132 m0_132 na99 rfl rfl (bt rfl) (bt rfl) rfl (by rw [ShYard_k0 hS100, o99])) ln99 (pd99 (aR 100)) <| ok_aloadn (pc' := 1) i99_0 rfl rfl <| ?_
  refine ok_getfi (v := 1) (pc' := 4) i99_1 o99 gi0_268 (ShYard_k0 hS100) hl rfl <| ok_kz1 (pc1 := 18) (pc2 := 7) i99_4 (by decide) rfl rfl <| ok_vret i99_18 rt99 <| kt_0 (pc' := 4) rfl <| ok_aloadn (pc' := 5) i132_4 rfl rfl <| ok_iloadn (pc' := 6) i132_5 rfl rfl <| ok_cc i132_6 rfl (cl_v o132 m0_158 na101 rfl rfl (bt rfl) (bt rfl) rfl (by rw [ShYard_k0 hS100, o101])) ln101 (pd101 (aR 100) (aI v1)) <| ok_iloadn (pc' := 1) i101_0 rfl rfl <| ?_
  refine ok_zlt (pc1 := 15) (pc2 := 4) i101_1 (by omega) rfl rfl (fun h501 => ?_) (fun h501 => ?_)
  · refine ok_throw th101_15 (bt rfl) <| kt_x hh132 <| kt_h hn307 hf307_4_10 hr307_15 <| kt_v (pc' := 2027) rfl <| ?_
    refine ok_al hD (fun g hD => ?_)
    have hS448 := HD_o hD
    have hS1 := HD_s hD
    have hS464 := HD_u hD
    have hS465 := HD_ud hD
    refine ok_istore (pc' := 2029) (ls' := [aR 1, aR 100, aR 448, aR 464, aR 465, aI i, aI 2, w7, w8]) i0_2027 (bt rfl) rfl rfl <| ok_aloadn (pc' := 2030) i0_2029 rfl rfl <| ok_aloadn (pc' := 2031) i0_2030 rfl rfl <| ok_iload (pc' := 2033) i0_2031 rfl rfl <| ok_iconst (pc' := 2034) i0_2033 rfl <| ok_iadd (v := (i + 1)) (pc' := 2035) i0_2034 rfl rfl <| ok_iaload (v := v1) (pc' := 2036) i0_2035 (ShScr_k0 hS1) (by decide) (ShScr_l0 hS1) (by omega) hv1 rfl <| ok_cc i0_2036 rfl (cl_v o0 m13_293 na249 rfl rfl (bt rfl) (bt rfl) rfl (by rw [ShModel_k0 hS448, o249])) ln249 (pd249 (aR 448) (aI v1)) <| ?_
    refine ok_aloadn (pc' := 1) i249_0 rfl rfl <| ok_iloadn (pc' := 2) i249_1 rfl rfl <| ok_cc i249_2 rfl (cl_v o249 m9_238 na194 rfl rfl (bt rfl) (bt rfl) rfl (by rw [ShModel_k0 hS448, o194])) ln194 (pd194 (aR 448) (aI v1)) <| ok_aloadn (pc' := 1) i194_0 rfl rfl <| ok_cc i194_1 rfl (cl_v o194 m9_216 na188 rfl rfl (bt rfl) (bt rfl) rfl (by rw [ShModel_k0 hS448, o188])) ln188 (pd188 (aR 448)) <| ok_aloadn (pc' := 1) i188_0 rfl rfl <| ok_iconst (pc' := 2) i188_1 rfl <| ok_putfj (kk := 0) (pc' := 5) i188_2 o188 pi188_63 (ShModel_k0 hS448) rfl rfl <| ?_
    refine ok_aloadn (pc' := 6) i188_5 rfl rfl <| ok_aloadn (pc' := 7) i188_6 rfl rfl <| ok_getfi (v := 1) (pc' := 10) i188_7 o188 gi9_66 (ShModel_k0 hS448) (rd_ni (by decide) (hld.trans hl)) rfl <| ok_kz1 (pc1 := 17) (pc2 := 13) i188_10 (by decide) rfl rfl <| ok_iconst (pc' := 18) i188_17 rfl <| ok_iconst (pc' := 19) i188_18 rfl <| ok_cc i188_19 rfl (cl_v o188 m9_70 na165 rfl rfl (bt rfl) (bt rfl) rfl (by rw [ShModel_k0 hS448, o165])) ln165 (pd165 (aR 448) (aI 0) (aI 1)) <| ok_aloadn (pc' := 1) i165_0 rfl rfl <| ?_
    refine ok_getfi (v := 0) (pc' := 4) i165_1 o165 gi9_63 (ShModel_k0 hS448) rd_eq rfl <| ok_kz0 (pc1 := 16) (pc2 := 7) i165_4 (by decide) rfl rfl <| ok_iloadn (pc' := 8) i165_7 rfl rfl <| ok_kz1 (pc1 := 16) (pc2 := 11) i165_8 (by decide) rfl rfl <| ok_aloadn (pc' := 17) i165_16 rfl rfl <| ok_getfi (v := 0) (pc' := 20) i165_17 o165 gi9_63 (ShModel_k0 hS448) rd_eq rfl <| ok_kz1 (pc1 := 27) (pc2 := 23) i165_20 (by decide) rfl rfl <| ok_iconst (pc' := 28) i165_27 rfl <| ?_
    refine ok_iretz i165_28 rt165 (by decide) <| kt_v (pc' := 22) rfl <| ok_iretz i188_22 rt188 (by decide) <| kt_v (pc' := 4) rfl <| ok_kz0 (pc1 := 34) (pc2 := 7) i194_4 (by decide) rfl rfl <| ok_aloadn (pc' := 8) i194_7 rfl rfl <| ok_iloadn (pc' := 9) i194_8 rfl rfl <| ok_iconst (pc' := 10) i194_9 rfl <| ?_
    refine ok_aloadn (pc' := 11) i194_10 rfl rfl <| ok_getfi (v := (q 0)) (pc' := 14) i194_11 o194 gi9_203 (ShModel_k0 hS448) (rd_ni (by decide) (RepO_f2 hO)) rfl <| ok_iconst (pc' := 15) i194_14 rfl <| ok_isub (v := ((q 0) - 1)) (pc' := 16) i194_15 rfl rfl <| ok_cc i194_16 rfl (cl_s o194 m9_140 na164 rfl rfl (bt rfl) (bt rfl) rfl) ln164 (pd164 (aI v1) (aI 0) (aI ((q 0) - 1))) <| ok_iloadn (pc' := 1) i164_0 rfl rfl <| ok_iloadn (pc' := 2) i164_1 rfl rfl <| ?_
    refine ok_clt (pc1 := 14) (pc2 := 5) i164_2 (by omega) rfl rfl (fun h502 => ?_) (fun h9 => by exfalso; omega)
    refine ok_iconst (pc' := 15) i164_14 rfl <| ok_iretz i164_15 rt164 (by decide) <| kt_v (pc' := 19) rfl <| ok_kz0 (pc1 := 26) (pc2 := 22) i194_19 (by decide) rfl rfl <| ok_iconst (pc' := 23) i194_22 rfl <| ok_goto (pc' := 27) i194_23 rfl <| ok_iconst (pc' := 28) i194_27 rfl <| ok_cc i194_28 rfl (cl_v o194 m9_70 na165 rfl rfl (bt rfl) (bt rfl) rfl (by rw [ShModel_k0 hS448, o165])) ln165 (pd165 (aR 448) (aI 1) (aI 2)) <| ?_
    refine ok_aloadn (pc' := 1) i165_0 rfl rfl <| ok_getfi (v := 0) (pc' := 4) i165_1 o165 gi9_63 (ShModel_k0 hS448) rd_eq rfl <| ok_kz0 (pc1 := 16) (pc2 := 7) i165_4 (by decide) rfl rfl <| ok_iloadn (pc' := 8) i165_7 rfl rfl <| ok_kz0 (pc1 := 16) (pc2 := 11) i165_8 (by decide) rfl rfl <| ok_aloadn (pc' := 12) i165_11 rfl rfl <| ok_iloadn (pc' := 13) i165_12 rfl rfl <| ok_putfj (kk := 0) (pc' := 16) i165_13 o165 pi165_63 (ShModel_k0 hS448) rfl rfl <| ?_
    refine ok_aloadn (pc' := 17) i165_16 rfl rfl <| ok_getfi (v := 2) (pc' := 20) i165_17 o165 gi9_63 (ShModel_k0 hS448) rd_eq rfl <| ok_kz0 (pc1 := 27) (pc2 := 23) i165_20 (by decide) rfl rfl <| ok_iconst (pc' := 24) i165_23 rfl <| ok_goto (pc' := 28) i165_24 rfl <| ok_iretz i165_28 rt165 (by decide) <| kt_v (pc' := 31) rfl <| ok_kz0 (pc1 := 38) (pc2 := 34) i194_31 (by decide) rfl rfl <| ?_
    refine ok_iconst (pc' := 35) i194_34 rfl <| ok_goto (pc' := 39) i194_35 rfl <| ok_iretz i194_39 rt194 (by decide) <| kt_v (pc' := 5) rfl <| ok_kz0 (pc1 := 12) (pc2 := 8) i249_5 (by decide) rfl rfl <| ok_iconst (pc' := 9) i249_8 rfl <| ok_goto (pc' := 17) i249_9 rfl <| ok_ireti i249_17 rt249 <| ?_
    refine kt_v (pc' := 2039) rfl <| ok_istore (pc' := 2041) (ls' := [aR 1, aR 100, aR 448, aR 464, aR 465, aI i, aI 2, aI 0, w8]) i0_2039 (bt rfl) rfl rfl <| ok_aloadn (pc' := 2042) i0_2041 rfl rfl <| ok_cc i0_2042 rfl (cl_v o0 m13_188 na157 rfl rfl (bt rfl) (bt rfl) rfl (by rw [ShModel_k0 hS448, o157])) ln157 (pd157 (aR 448)) <| ok_aloadn (pc' := 1) i157_0 rfl rfl <| ok_getfi (v := 2) (pc' := 4) i157_1 o157 gi9_63 (ShModel_k0 hS448) rd_eq rfl <| ok_ireti i157_4 rt157 <| kt_v (pc' := 2045) rfl <| ?_
    refine ok_iload (pc' := 2047) i0_2045 rfl rfl <| ok_kc1 (pc1 := 2052) (pc2 := 2050) i0_2047 (by decide) rfl rfl <| ok_iload (pc' := 2054) i0_2052 rfl rfl <| ok_kz1 (pc1 := 2069) (pc2 := 2057) i0_2054 (by decide) rfl rfl <| ok_goto (pc' := 3329) i0_2069 rfl <| ?_
    exact K _ _ _ _ _ _ hD (by omega) (Inv_mono (Inv_same hI (Same.thr (Same.thr Same.rfl))) (by omega))
  · refine ok_iloadn (pc' := 5) i101_4 rfl rfl <| ok_aloadn (pc' := 6) i101_5 rfl rfl <| ok_getfr (r := 138) (pc' := 9) i101_6 o101 gr0_32 (ShYard_k0 hS100) (ShYard_r7 hS100) rfl <| ok_getfi (v := (q 0)) (pc' := 12) i101_9 o101 gi0_135 (ShPlan_k0 hS138) (RepP_f0 hP) rfl <| ?_
    refine ok_clt (pc1 := 26) (pc2 := 15) i101_12 (by omega) rfl rfl (fun h503 => ?_) (fun h503 => ?_)
    · refine ok_vret i101_26 rt101 <| kt_0 (pc' := 9) rfl <| ok_aloadn (pc' := 10) i132_9 rfl rfl <| ok_getfr (r := 174) (pc' := 13) i132_10 o132 gr0_55 (ShYard_k0 hS100) (ShYard_r10 hS100) rfl <| ok_iloadn (pc' := 14) i132_13 rfl rfl <| ?_
      refine ok_cn (pc' := 17) (d0 := 3) i132_14 rfl (cl_v o132 m0_256 na56 rfl rfl (bt rfl) (bt rfl) rfl (by rw [ShTrial_k0 hS174, o56])) ln56 (pd56 (aR 174) (aI v1)) (by omega) (t56 (x1 := v1) hS174 hS199 hS138 hS175 hS149 hP hRB hQ hV (by omega) (by omega) (by omega) (by omega) (by omega)) rfl (fun M504 p505 => ?_)
      refine ok_ireti i132_17 rt132 <| kt_v (pc' := 7) rfl <| ok_i2l (v := (wr (needS q s v1))) (pc' := 8) i307_7 rfl rfl <| ok_lastore (pc' := 9) i307_8 (ShOut_k0 hS464) (ShOut_l0 hS464) (by decide) rfl <| ok_goto (pc' := 18) i307_9 rfl <| ok_iconst (pc' := 19) i307_18 rfl <| ok_ireti i307_19 rt307 <| kt_v (pc' := 2027) rfl <| ?_
      refine ok_istore (pc' := 2029) (ls' := [aR 1, aR 100, aR 448, aR 464, aR 465, aI i, aI 0, w7, w8]) i0_2027 (bt rfl) rfl rfl <| ok_aloadn (pc' := 2030) i0_2029 rfl rfl <| ok_aloadn (pc' := 2031) i0_2030 rfl rfl <| ok_iload (pc' := 2033) i0_2031 rfl rfl <| ok_iconst (pc' := 2034) i0_2033 rfl <| ok_iadd (v := (i + 1)) (pc' := 2035) i0_2034 rfl rfl <| ok_iaload (v := v1) (pc' := 2036) i0_2035 (ShScr_k0 hS1) (by decide) (ShScr_l0 hS1) (by omega) (rd_na (by omega) (Eq.trans (congrFun (p505 1 (by omega)) (i + 1)) hv1)) rfl <| ok_cc i0_2036 rfl (cl_v o0 m13_293 na249 rfl rfl (bt rfl) (bt rfl) rfl (by rw [ShModel_k0 hS448, o249])) ln249 (pd249 (aR 448) (aI v1)) <| ?_
      refine ok_aloadn (pc' := 1) i249_0 rfl rfl <| ok_iloadn (pc' := 2) i249_1 rfl rfl <| ok_cc i249_2 rfl (cl_v o249 m9_238 na194 rfl rfl (bt rfl) (bt rfl) rfl (by rw [ShModel_k0 hS448, o194])) ln194 (pd194 (aR 448) (aI v1)) <| ok_aloadn (pc' := 1) i194_0 rfl rfl <| ok_cc i194_1 rfl (cl_v o194 m9_216 na188 rfl rfl (bt rfl) (bt rfl) rfl (by rw [ShModel_k0 hS448, o188])) ln188 (pd188 (aR 448)) <| ok_aloadn (pc' := 1) i188_0 rfl rfl <| ok_iconst (pc' := 2) i188_1 rfl <| ok_putfj (kk := 0) (pc' := 5) i188_2 o188 pi188_63 (ShModel_k0 hS448) rfl rfl <| ?_
      refine ok_aloadn (pc' := 6) i188_5 rfl rfl <| ok_aloadn (pc' := 7) i188_6 rfl rfl <| ?_
      have hCM504_448 : RepO M504 448 q s := RepO.fr hO ⟨((congrFun (p505 448 (by omega)) 2).trans (by rfl)), ((congrFun (p505 448 (by omega)) 3).trans (by rfl))⟩ (fun a h1 h2 => (p505 a (by omega)).trans rfl)
      refine ok_getfi (v := 1) (pc' := 10) i188_7 o188 gi9_66 (ShModel_k0 hS448) (rd_ni (by decide) (rd_na (by omega) (Eq.trans (congrFun (p505 448 (by omega)) 1) (hld.trans hl)))) rfl <| ok_kz1 (pc1 := 17) (pc2 := 13) i188_10 (by decide) rfl rfl <| ok_iconst (pc' := 18) i188_17 rfl <| ok_iconst (pc' := 19) i188_18 rfl <| ok_cc i188_19 rfl (cl_v o188 m9_70 na165 rfl rfl (bt rfl) (bt rfl) rfl (by rw [ShModel_k0 hS448, o165])) ln165 (pd165 (aR 448) (aI 0) (aI 1)) <| ok_aloadn (pc' := 1) i165_0 rfl rfl <| ok_getfi (v := 0) (pc' := 4) i165_1 o165 gi9_63 (ShModel_k0 hS448) rd_eq rfl <| ok_kz0 (pc1 := 16) (pc2 := 7) i165_4 (by decide) rfl rfl <| ?_
      refine ok_iloadn (pc' := 8) i165_7 rfl rfl <| ok_kz1 (pc1 := 16) (pc2 := 11) i165_8 (by decide) rfl rfl <| ok_aloadn (pc' := 17) i165_16 rfl rfl <| ok_getfi (v := 0) (pc' := 20) i165_17 o165 gi9_63 (ShModel_k0 hS448) rd_eq rfl <| ok_kz1 (pc1 := 27) (pc2 := 23) i165_20 (by decide) rfl rfl <| ok_iconst (pc' := 28) i165_27 rfl <| ok_iretz i165_28 rt165 (by decide) <| kt_v (pc' := 22) rfl <| ?_
      refine ok_iretz i188_22 rt188 (by decide) <| kt_v (pc' := 4) rfl <| ok_kz0 (pc1 := 34) (pc2 := 7) i194_4 (by decide) rfl rfl <| ok_aloadn (pc' := 8) i194_7 rfl rfl <| ok_iloadn (pc' := 9) i194_8 rfl rfl <| ok_iconst (pc' := 10) i194_9 rfl <| ok_aloadn (pc' := 11) i194_10 rfl rfl <| ok_getfi (v := (q 0)) (pc' := 14) i194_11 o194 gi9_203 (ShModel_k0 hS448) (rd_ni (by decide) (rd_na (by omega) (RepO_f2 hCM504_448))) rfl <| ?_
      refine ok_iconst (pc' := 15) i194_14 rfl <| ok_isub (v := ((q 0) - 1)) (pc' := 16) i194_15 rfl rfl <| ok_cc i194_16 rfl (cl_s o194 m9_140 na164 rfl rfl (bt rfl) (bt rfl) rfl) ln164 (pd164 (aI v1) (aI 0) (aI ((q 0) - 1))) <| ok_iloadn (pc' := 1) i164_0 rfl rfl <| ok_iloadn (pc' := 2) i164_1 rfl rfl <| ?_
      refine ok_clt (pc1 := 14) (pc2 := 5) i164_2 (by omega) rfl rfl (fun h9 => by exfalso; omega) (fun h506 => ?_)
      refine ok_iloadn (pc' := 6) i164_5 rfl rfl <| ok_iloadn (pc' := 7) i164_6 rfl rfl <| ?_
      refine ok_cgt (pc1 := 14) (pc2 := 10) i164_7 (by omega) rfl rfl (fun h9 => by exfalso; omega) (fun h507 => ?_)
      refine ok_iconst (pc' := 11) i164_10 rfl <| ok_goto (pc' := 15) i164_11 rfl <| ok_iretz i164_15 rt164 (by decide) <| kt_v (pc' := 19) rfl <| ok_kz1 (pc1 := 26) (pc2 := 22) i194_19 (by decide) rfl rfl <| ok_iconst (pc' := 27) i194_26 rfl <| ok_iconst (pc' := 28) i194_27 rfl <| ok_cc i194_28 rfl (cl_v o194 m9_70 na165 rfl rfl (bt rfl) (bt rfl) rfl (by rw [ShModel_k0 hS448, o165])) ln165 (pd165 (aR 448) (aI 0) (aI 2)) <| ?_
      refine ok_aloadn (pc' := 1) i165_0 rfl rfl <| ok_getfi (v := 0) (pc' := 4) i165_1 o165 gi9_63 (ShModel_k0 hS448) rd_eq rfl <| ok_kz0 (pc1 := 16) (pc2 := 7) i165_4 (by decide) rfl rfl <| ok_iloadn (pc' := 8) i165_7 rfl rfl <| ok_kz1 (pc1 := 16) (pc2 := 11) i165_8 (by decide) rfl rfl <| ok_aloadn (pc' := 17) i165_16 rfl rfl <| ok_getfi (v := 0) (pc' := 20) i165_17 o165 gi9_63 (ShModel_k0 hS448) rd_eq rfl <| ok_kz1 (pc1 := 27) (pc2 := 23) i165_20 (by decide) rfl rfl <| ?_
      refine ok_iconst (pc' := 28) i165_27 rfl <| ok_iretz i165_28 rt165 (by decide) <| kt_v (pc' := 31) rfl <| ok_kz1 (pc1 := 38) (pc2 := 34) i194_31 (by decide) rfl rfl <| ok_iconst (pc' := 39) i194_38 rfl <| ok_iretz i194_39 rt194 (by decide) <| kt_v (pc' := 5) rfl <| ok_kz1 (pc1 := 12) (pc2 := 8) i249_5 (by decide) rfl rfl <| ?_
      refine ok_aloadn (pc' := 13) i249_12 rfl rfl <| ok_iloadn (pc' := 14) i249_13 rfl rfl <| ?_
      refine ok_cn (pc' := 17) (d0 := 7) i249_14 rfl (cl_v o249 m9_338 na250 rfl rfl (bt rfl) (bt rfl) rfl (by rw [ShModel_k0 hS448, o250])) ln250 (pd250 (aR 448) (aI v1)) (by omega) (t250 (x1 := v1) hS448 (RepO.fr hCM504_448 ⟨(by rw [up2_rd, if_neg (by omega), up2_na (by omega)]), (by rw [up2_rd, if_neg (by omega), up2_na (by omega)])⟩ (fun a h1 h2 => (by rw [up2_na (by omega), up2_na (by omega)]))) hV hQ (by omega) (by omega) (by omega)) rfl (fun M508 p509 => ?_)
      refine ok_ireti i249_17 rt249 <| kt_v (pc' := 2039) rfl <| ok_istore (pc' := 2041) (ls' := [aR 1, aR 100, aR 448, aR 464, aR 465, aI i, aI 0, aI (needS q s v1), w8]) i0_2039 (bt rfl) rfl rfl <| ok_aloadn (pc' := 2042) i0_2041 rfl rfl <| ok_cc i0_2042 rfl (cl_v o0 m13_188 na157 rfl rfl (bt rfl) (bt rfl) rfl (by rw [ShModel_k0 hS448, o157])) ln157 (pd157 (aR 448)) <| ok_aloadn (pc' := 1) i157_0 rfl rfl <| ?_
      have hCM508_448 : RepO M508 448 q s := RepO.fr hCM504_448 ⟨((congrFun (WI.na p509 (c := 448) (by omega)) 2).trans (by rw [up2_rd, if_neg (by omega), up2_na (by omega)])), ((congrFun (WI.na p509 (c := 448) (by omega)) 3).trans (by rw [up2_rd, if_neg (by omega), up2_na (by omega)]))⟩ (fun a h1 h2 => (WI.na p509 (by omega)).trans (by rw [up2_na (by omega), up2_na (by omega)]))
      refine ok_getfi (v := 0) (pc' := 4) i157_1 o157 gi9_63 (ShModel_k0 hS448) (Eq.trans (congrFun (WI.na p509 (c := 448) (by omega)) 0) rd_eq) rfl <| ok_ireti i157_4 rt157 <| kt_v (pc' := 2045) rfl <| ok_iload (pc' := 2047) i0_2045 rfl rfl <| ok_kc1 (pc1 := 2052) (pc2 := 2050) i0_2047 (by decide) rfl rfl <| ok_iload (pc' := 2054) i0_2052 rfl rfl <| ok_kz0 (pc1 := 2069) (pc2 := 2057) i0_2054 (by decide) rfl rfl <| ok_aloadn (pc' := 2058) i0_2057 rfl rfl <| ?_
      refine ok_iconst (pc' := 2059) i0_2058 rfl <| ok_laload (v := (wr (needS q s v1))) (pc' := 2060) i0_2059 (ShOut_k0 hS464) (ShOut_l0 hS464) (by decide) (Eq.trans (congrFun (WI.na p509 (c := 464) (by omega)) 0) (rd_na (by omega) rd_eq)) rfl <| ok_iload (pc' := 2062) i0_2060 rfl rfl <| ok_i2l (v := (wr (needS q s v1))) (pc' := 2063) i0_2062 rfl rfl <| ok_lcmp0 (pc' := 2064) i0_2063 rfl <| ok_kz1 (pc1 := 2069) (pc2 := 2067) i0_2064 (by decide) rfl rfl <| ok_goto (pc' := 3329) i0_2069 rfl <| ?_
      exact K _ _ _ _ _ _ hD (by omega) (Inv_mono (Inv_same hI (Same.wi (Same.thr (Same.out (Same.wr Same.rfl p505))) p509)) (by omega))
    · refine ok_throw th101_15 (bt rfl) <| kt_x hh132 <| kt_h hn307 hf307_4_10 hr307_15 <| kt_v (pc' := 2027) rfl <| ?_
      refine ok_al hD (fun g hD => ?_)
      have hS448 := HD_o hD
      have hS1 := HD_s hD
      have hS464 := HD_u hD
      have hS465 := HD_ud hD
      refine ok_istore (pc' := 2029) (ls' := [aR 1, aR 100, aR 448, aR 464, aR 465, aI i, aI 2, w7, w8]) i0_2027 (bt rfl) rfl rfl <| ok_aloadn (pc' := 2030) i0_2029 rfl rfl <| ok_aloadn (pc' := 2031) i0_2030 rfl rfl <| ok_iload (pc' := 2033) i0_2031 rfl rfl <| ok_iconst (pc' := 2034) i0_2033 rfl <| ok_iadd (v := (i + 1)) (pc' := 2035) i0_2034 rfl rfl <| ok_iaload (v := v1) (pc' := 2036) i0_2035 (ShScr_k0 hS1) (by decide) (ShScr_l0 hS1) (by omega) hv1 rfl <| ok_cc i0_2036 rfl (cl_v o0 m13_293 na249 rfl rfl (bt rfl) (bt rfl) rfl (by rw [ShModel_k0 hS448, o249])) ln249 (pd249 (aR 448) (aI v1)) <| ?_
      refine ok_aloadn (pc' := 1) i249_0 rfl rfl <| ok_iloadn (pc' := 2) i249_1 rfl rfl <| ok_cc i249_2 rfl (cl_v o249 m9_238 na194 rfl rfl (bt rfl) (bt rfl) rfl (by rw [ShModel_k0 hS448, o194])) ln194 (pd194 (aR 448) (aI v1)) <| ok_aloadn (pc' := 1) i194_0 rfl rfl <| ok_cc i194_1 rfl (cl_v o194 m9_216 na188 rfl rfl (bt rfl) (bt rfl) rfl (by rw [ShModel_k0 hS448, o188])) ln188 (pd188 (aR 448)) <| ok_aloadn (pc' := 1) i188_0 rfl rfl <| ok_iconst (pc' := 2) i188_1 rfl <| ok_putfj (kk := 0) (pc' := 5) i188_2 o188 pi188_63 (ShModel_k0 hS448) rfl rfl <| ?_
      refine ok_aloadn (pc' := 6) i188_5 rfl rfl <| ok_aloadn (pc' := 7) i188_6 rfl rfl <| ok_getfi (v := 1) (pc' := 10) i188_7 o188 gi9_66 (ShModel_k0 hS448) (rd_ni (by decide) (hld.trans hl)) rfl <| ok_kz1 (pc1 := 17) (pc2 := 13) i188_10 (by decide) rfl rfl <| ok_iconst (pc' := 18) i188_17 rfl <| ok_iconst (pc' := 19) i188_18 rfl <| ok_cc i188_19 rfl (cl_v o188 m9_70 na165 rfl rfl (bt rfl) (bt rfl) rfl (by rw [ShModel_k0 hS448, o165])) ln165 (pd165 (aR 448) (aI 0) (aI 1)) <| ok_aloadn (pc' := 1) i165_0 rfl rfl <| ?_
      refine ok_getfi (v := 0) (pc' := 4) i165_1 o165 gi9_63 (ShModel_k0 hS448) rd_eq rfl <| ok_kz0 (pc1 := 16) (pc2 := 7) i165_4 (by decide) rfl rfl <| ok_iloadn (pc' := 8) i165_7 rfl rfl <| ok_kz1 (pc1 := 16) (pc2 := 11) i165_8 (by decide) rfl rfl <| ok_aloadn (pc' := 17) i165_16 rfl rfl <| ok_getfi (v := 0) (pc' := 20) i165_17 o165 gi9_63 (ShModel_k0 hS448) rd_eq rfl <| ok_kz1 (pc1 := 27) (pc2 := 23) i165_20 (by decide) rfl rfl <| ok_iconst (pc' := 28) i165_27 rfl <| ?_
      refine ok_iretz i165_28 rt165 (by decide) <| kt_v (pc' := 22) rfl <| ok_iretz i188_22 rt188 (by decide) <| kt_v (pc' := 4) rfl <| ok_kz0 (pc1 := 34) (pc2 := 7) i194_4 (by decide) rfl rfl <| ok_aloadn (pc' := 8) i194_7 rfl rfl <| ok_iloadn (pc' := 9) i194_8 rfl rfl <| ok_iconst (pc' := 10) i194_9 rfl <| ?_
      refine ok_aloadn (pc' := 11) i194_10 rfl rfl <| ok_getfi (v := (q 0)) (pc' := 14) i194_11 o194 gi9_203 (ShModel_k0 hS448) (rd_ni (by decide) (RepO_f2 hO)) rfl <| ok_iconst (pc' := 15) i194_14 rfl <| ok_isub (v := ((q 0) - 1)) (pc' := 16) i194_15 rfl rfl <| ok_cc i194_16 rfl (cl_s o194 m9_140 na164 rfl rfl (bt rfl) (bt rfl) rfl) ln164 (pd164 (aI v1) (aI 0) (aI ((q 0) - 1))) <| ok_iloadn (pc' := 1) i164_0 rfl rfl <| ok_iloadn (pc' := 2) i164_1 rfl rfl <| ?_
      refine ok_clt (pc1 := 14) (pc2 := 5) i164_2 (by omega) rfl rfl (fun h9 => by exfalso; omega) (fun h510 => ?_)
      refine ok_iloadn (pc' := 6) i164_5 rfl rfl <| ok_iloadn (pc' := 7) i164_6 rfl rfl <| ?_
      refine ok_cgt (pc1 := 14) (pc2 := 10) i164_7 (by omega) rfl rfl (fun h511 => ?_) (fun h9 => by exfalso; omega)
      refine ok_iconst (pc' := 15) i164_14 rfl <| ok_iretz i164_15 rt164 (by decide) <| kt_v (pc' := 19) rfl <| ok_kz0 (pc1 := 26) (pc2 := 22) i194_19 (by decide) rfl rfl <| ok_iconst (pc' := 23) i194_22 rfl <| ok_goto (pc' := 27) i194_23 rfl <| ok_iconst (pc' := 28) i194_27 rfl <| ok_cc i194_28 rfl (cl_v o194 m9_70 na165 rfl rfl (bt rfl) (bt rfl) rfl (by rw [ShModel_k0 hS448, o165])) ln165 (pd165 (aR 448) (aI 1) (aI 2)) <| ?_
      refine ok_aloadn (pc' := 1) i165_0 rfl rfl <| ok_getfi (v := 0) (pc' := 4) i165_1 o165 gi9_63 (ShModel_k0 hS448) rd_eq rfl <| ok_kz0 (pc1 := 16) (pc2 := 7) i165_4 (by decide) rfl rfl <| ok_iloadn (pc' := 8) i165_7 rfl rfl <| ok_kz0 (pc1 := 16) (pc2 := 11) i165_8 (by decide) rfl rfl <| ok_aloadn (pc' := 12) i165_11 rfl rfl <| ok_iloadn (pc' := 13) i165_12 rfl rfl <| ok_putfj (kk := 0) (pc' := 16) i165_13 o165 pi165_63 (ShModel_k0 hS448) rfl rfl <| ?_
      refine ok_aloadn (pc' := 17) i165_16 rfl rfl <| ok_getfi (v := 2) (pc' := 20) i165_17 o165 gi9_63 (ShModel_k0 hS448) rd_eq rfl <| ok_kz0 (pc1 := 27) (pc2 := 23) i165_20 (by decide) rfl rfl <| ok_iconst (pc' := 24) i165_23 rfl <| ok_goto (pc' := 28) i165_24 rfl <| ok_iretz i165_28 rt165 (by decide) <| kt_v (pc' := 31) rfl <| ok_kz0 (pc1 := 38) (pc2 := 34) i194_31 (by decide) rfl rfl <| ?_
      refine ok_iconst (pc' := 35) i194_34 rfl <| ok_goto (pc' := 39) i194_35 rfl <| ok_iretz i194_39 rt194 (by decide) <| kt_v (pc' := 5) rfl <| ok_kz0 (pc1 := 12) (pc2 := 8) i249_5 (by decide) rfl rfl <| ok_iconst (pc' := 9) i249_8 rfl <| ok_goto (pc' := 17) i249_9 rfl <| ok_ireti i249_17 rt249 <| ?_
      refine kt_v (pc' := 2039) rfl <| ok_istore (pc' := 2041) (ls' := [aR 1, aR 100, aR 448, aR 464, aR 465, aI i, aI 2, aI 0, w8]) i0_2039 (bt rfl) rfl rfl <| ok_aloadn (pc' := 2042) i0_2041 rfl rfl <| ok_cc i0_2042 rfl (cl_v o0 m13_188 na157 rfl rfl (bt rfl) (bt rfl) rfl (by rw [ShModel_k0 hS448, o157])) ln157 (pd157 (aR 448)) <| ok_aloadn (pc' := 1) i157_0 rfl rfl <| ok_getfi (v := 2) (pc' := 4) i157_1 o157 gi9_63 (ShModel_k0 hS448) rd_eq rfl <| ok_ireti i157_4 rt157 <| kt_v (pc' := 2045) rfl <| ?_
      refine ok_iload (pc' := 2047) i0_2045 rfl rfl <| ok_kc1 (pc1 := 2052) (pc2 := 2050) i0_2047 (by decide) rfl rfl <| ok_iload (pc' := 2054) i0_2052 rfl rfl <| ok_kz1 (pc1 := 2069) (pc2 := 2057) i0_2054 (by decide) rfl rfl <| ok_goto (pc' := 3329) i0_2069 rfl <| ?_
      exact K _ _ _ _ _ _ hD (by omega) (Inv_mono (Inv_same hI (Same.thr (Same.thr Same.rfl))) (by omega))
theorem c34_1 {L n : Nat} {g : AG} {M : AM} {xs : Nat → Int32} {b i : Int} {w6 w7 w8 : AV} {Q : AO → AG → AM → Prop} (hD : HD L n g) (hI : Inv xs b M) (hi : 0 ≤ i ∧ i + 6 ≤ L) (hb : 0 ≤ b ∧ b ≤ 900000) (hl : M 100 6 = 1) (K : KK L n i b xs Q) :
    Ok 10 0 2072 [aR 1, aR 100, aR 448, aR 464, aR 465, aI i, w6, w7, w8] [] g M Q := by
  have hI0 := hI
  obtain ⟨hA, hld, hl01, q, hc, ⟨nx, sz, hH, hsz⟩, hS⟩ := hI0
  have hH0 := hH
  obtain ⟨⟨hn1, hn0⟩, ⟨hz2, hz0⟩, h10, hHj⟩ := hH0
  obtain ⟨hw0, ⟨bu, by_, hb1, hb13, hbu, hZ, hU⟩, he3, he4, he5, hId, tx, hT, hUt, htl, htr⟩ := hA
  obtain ⟨s, hP, hRB, hO, hV, hQ, h40⟩ := hc hl
  have ys3 := V_3 hV
  have ys4 := V_4 hV
  have yq0 := Q_0 hQ
  have yq1 := Q_1 hQ
  have hS100 := HD_y hD
  have hS138 := HD_p hD
  have hS149 := HD_b hD
  have hS174 := HD_t hD
  have hS175 := HD_tb hD
  have hS199 := HD_tw hD
  have hS448 := HD_o hD
  have hS464 := HD_u hD
  refine ok_aloadn (pc' := 2073) i0_2072 rfl rfl <| ok_aloadn (pc' := 2074) i0_2073 rfl rfl <| ok_cc i0_2074 rfl (cl_s o0 m13_294 na308 rfl rfl (bt rfl) (bt rfl) rfl) ln308 (pd308 (aR 100) (aR 464)) <| ok_aloadn (pc' := 1) i308_0 rfl rfl <| ok_iconst (pc' := 2) i308_1 rfl <| ok_aloadn (pc' := 3) i308_2 rfl rfl <| ok_cc i308_3 rfl (cl_v o308 m13_107 na133 rfl rfl (bt rfl) (bt rfl) rfl (by rw [ShYard_k0 hS100, o133])) ln133 (pd133 (aR 100)) <| ok_aloadn (pc' := 1) i133_0 rfl rfl <| ?_
  refine ok_cc i133_1 rfl (cl_v o133 m0_132 na99 rfl rfl (bt rfl) (bt rfl) rfl (by rw [ShYard_k0 hS100, o99])) ln99 (pd99 (aR 100)) <| ok_aloadn (pc' := 1) i99_0 rfl rfl <| ok_getfi (v := 1) (pc' := 4) i99_1 o99 gi0_268 (ShYard_k0 hS100) hl rfl <| ok_kz1 (pc1 := 18) (pc2 := 7) i99_4 (by decide) rfl rfl <| ok_vret i99_18 rt99 <| kt_0 (pc' := 4) rfl <| ok_aloadn (pc' := 5) i133_4 rfl rfl <| ok_getfr (r := 174) (pc' := 8) i133_5 o133 gr0_55 (ShYard_k0 hS100) (ShYard_r10 hS100) rfl <| ?_
  refine ok_cn (pc' := 11) (d0 := 4) i133_8 rfl (cl_v o133 m0_259 na57 rfl rfl (bt rfl) (bt rfl) rfl (by rw [ShTrial_k0 hS174, o57])) ln57 (pd57 (aR 174)) (by omega) (t57 hS174 hS199 hS138 hS175 hS149 hP hRB hQ hV (by omega) (by omega) (by omega) (by omega)) rfl (fun M501 p502 => ?_)
  refine ok_ireti i133_11 rt133 <| kt_v (pc' := 6) rfl <| ok_i2l (v := (wr (kinS q s))) (pc' := 7) i308_6 rfl rfl <| ok_lastore (pc' := 8) i308_7 (ShOut_k0 hS464) (ShOut_l0 hS464) (by decide) rfl <| ok_goto (pc' := 14) i308_8 rfl <| ok_iconst (pc' := 15) i308_14 rfl <| ok_ireti i308_15 rt308 <| kt_v (pc' := 2077) rfl <| ?_
  refine ok_istore (pc' := 2079) (ls' := [aR 1, aR 100, aR 448, aR 464, aR 465, aI i, aI 0, w7, w8]) i0_2077 (bt rfl) rfl rfl <| ok_aloadn (pc' := 2080) i0_2079 rfl rfl <| ?_
  have hCM501_448 : RepO M501 448 q s := RepO.fr hO ⟨((congrFun (p502 448 (by omega)) 2).trans (by rfl)), ((congrFun (p502 448 (by omega)) 3).trans (by rfl))⟩ (fun a h1 h2 => (p502 a (by omega)).trans rfl)
  refine ok_cn (pc' := 2083) (d0 := 8) i0_2080 rfl (cl_v o0 m13_296 na252 rfl rfl (bt rfl) (bt rfl) rfl (by rw [ShModel_k0 hS448, o252])) ln252 (pd252 (aR 448)) (by omega) (t252 hS448 (RepO.fr hCM501_448 ⟨(by rw [up2_na (by omega)]), (by rw [up2_na (by omega)])⟩ (fun a h1 h2 => (by rw [up2_na (by omega)]))) hV hQ (by omega) (by omega) (rd_na (by omega) (Eq.trans (congrFun (p502 448 (by omega)) 1) (hld.trans hl)))) rfl (fun M503 p504 => ?_)
  refine ok_istore (pc' := 2085) (ls' := [aR 1, aR 100, aR 448, aR 464, aR 465, aI i, aI 0, aI (kinS q s), w8]) i0_2083 (bt rfl) rfl rfl <| ok_aloadn (pc' := 2086) i0_2085 rfl rfl <| ok_cc i0_2086 rfl (cl_v o0 m13_188 na157 rfl rfl (bt rfl) (bt rfl) rfl (by rw [ShModel_k0 hS448, o157])) ln157 (pd157 (aR 448)) <| ok_aloadn (pc' := 1) i157_0 rfl rfl <| ?_
  have hCM503_448 : RepO M503 448 q s := RepO.fr hCM501_448 ⟨((congrFun (WI.na p504 (c := 448) (by omega)) 2).trans (by rw [up2_rd, if_neg (by omega), up2_na (by omega)])), ((congrFun (WI.na p504 (c := 448) (by omega)) 3).trans (by rw [up2_rd, if_neg (by omega), up2_na (by omega)]))⟩ (fun a h1 h2 => (WI.na p504 (by omega)).trans (by rw [up2_na (by omega), up2_na (by omega)]))
  refine ok_getfi (v := 0) (pc' := 4) i157_1 o157 gi9_63 (ShModel_k0 hS448) (Eq.trans (congrFun (WI.na p504 (c := 448) (by omega)) 0) rd_eq) rfl <| ok_ireti i157_4 rt157 <| kt_v (pc' := 2089) rfl <| ok_iload (pc' := 2091) i0_2089 rfl rfl <| ok_kc1 (pc1 := 2096) (pc2 := 2094) i0_2091 (by decide) rfl rfl <| ok_iload (pc' := 2098) i0_2096 rfl rfl <| ok_kz0 (pc1 := 2113) (pc2 := 2101) i0_2098 (by decide) rfl rfl <| ok_aloadn (pc' := 2102) i0_2101 rfl rfl <| ?_
  refine ok_iconst (pc' := 2103) i0_2102 rfl <| ok_laload (v := (wr (kinS q s))) (pc' := 2104) i0_2103 (ShOut_k0 hS464) (ShOut_l0 hS464) (by decide) (Eq.trans (congrFun (WI.na p504 (c := 464) (by omega)) 0) (rd_na (by omega) rd_eq)) rfl <| ok_iload (pc' := 2106) i0_2104 rfl rfl <| ok_i2l (v := (wr (kinS q s))) (pc' := 2107) i0_2106 rfl rfl <| ok_lcmp0 (pc' := 2108) i0_2107 rfl <| ok_kz1 (pc1 := 2113) (pc2 := 2111) i0_2108 (by decide) rfl rfl <| ok_goto (pc' := 3329) i0_2113 rfl <| ?_
  exact K _ _ _ _ _ _ hD (by omega) (Inv_mono (Inv_same hI (Same.wi (Same.thr (Same.out (Same.wr Same.rfl p502))) p504)) (by omega))
theorem c35_1 {L n : Nat} {g : AG} {M : AM} {xs : Nat → Int32} {b i : Int} {w6 w7 w8 : AV} {Q : AO → AG → AM → Prop} (hD : HD L n g) (hI : Inv xs b M) (hi : 0 ≤ i ∧ i + 6 ≤ L) (hb : 0 ≤ b ∧ b ≤ 900000) (hl : M 100 6 = 1) (K : KK L n i b xs Q) :
    Ok 10 0 2116 [aR 1, aR 100, aR 448, aR 464, aR 465, aI i, w6, w7, w8] [] g M Q := by
  have hI0 := hI
  obtain ⟨hA, hld, hl01, q, hc, ⟨nx, sz, hH, hsz⟩, hS⟩ := hI0
  have hH0 := hH
  obtain ⟨⟨hn1, hn0⟩, ⟨hz2, hz0⟩, h10, hHj⟩ := hH0
  obtain ⟨hw0, ⟨bu, by_, hb1, hb13, hbu, hZ, hU⟩, he3, he4, he5, hId, tx, hT, hUt, htl, htr⟩ := hA
  obtain ⟨s, hP, hRB, hO, hV, hQ, h40⟩ := hc hl
  have ys3 := V_3 hV
  have ys4 := V_4 hV
  have yq0 := Q_0 hQ
  have yq1 := Q_1 hQ
  obtain ⟨v1, hv1⟩ : ∃ u9 : Int, M 1 (i + 1) = u9 := ⟨_, rfl⟩
  have hr1 : -2147483648 ≤ v1 ∧ v1 < 2147483648 := hv1 ▸ scr_rg hw0 (i + 1)
  have hS1 := HD_s hD
  have hS100 := HD_y hD
  have hS138 := HD_p hD
  have hS149 := HD_b hD
  have hS174 := HD_t hD
  have hS175 := HD_tb hD
  have hS199 := HD_tw hD
  have hS448 := HD_o hD
  have hS464 := HD_u hD
  have hS465 := HD_ud hD
  refine ok_aloadn (pc' := 2117) i0_2116 rfl rfl <| ok_aloadn (pc' := 2118) i0_2117 rfl rfl <| ok_iload (pc' := 2120) i0_2118 rfl rfl <| ok_iconst (pc' := 2121) i0_2120 rfl <| ok_iadd (v := (i + 1)) (pc' := 2122) i0_2121 rfl rfl <| ok_iaload (v := v1) (pc' := 2123) i0_2122 (ShScr_k0 hS1) (by decide) (ShScr_l0 hS1) (by omega) hv1 rfl <| ok_aloadn (pc' := 2124) i0_2123 rfl rfl <| ok_cc i0_2124 rfl (cl_s o0 m13_297 na309 rfl rfl (bt rfl) (bt rfl) rfl) ln309 (pd309 (aR 100) (aI v1) (aR 464)) <| ?_
  refine ok_aloadn (pc' := 1) i309_0 rfl rfl <| ok_iconst (pc' := 2) i309_1 rfl <| ok_aloadn (pc' := 3) i309_2 rfl rfl <| ok_iloadn (pc' := 4) i309_3 rfl rfl <| ok_cc i309_4 rfl (cl_v o309 m13_110 na134 rfl rfl (bt rfl) (bt rfl) rfl (by rw [ShYard_k0 hS100, o134])) ln134 (pd134 (aR 100) (aI v1)) <| ok_aloadn (pc' := 1) i134_0 rfl rfl <| ok_cc i134_1 rfl (cl_v o134 m0_132 na99 rfl rfl (bt rfl) (bt rfl) rfl (by rw [ShYard_k0 hS100, o99])) ln99 (pd99 (aR 100)) <| ok_aloadn (pc' := 1) i99_0 rfl rfl <| ?_
  refine ok_getfi (v := 1) (pc' := 4) i99_1 o99 gi0_268 (ShYard_k0 hS100) hl rfl <| ok_kz1 (pc1 := 18) (pc2 := 7) i99_4 (by decide) rfl rfl <| ok_vret i99_18 rt99 <| kt_0 (pc' := 4) rfl <| ok_aloadn (pc' := 5) i134_4 rfl rfl <| ok_iloadn (pc' := 6) i134_5 rfl rfl <| ok_cc i134_6 rfl (cl_v o134 m0_158 na101 rfl rfl (bt rfl) (bt rfl) rfl (by rw [ShYard_k0 hS100, o101])) ln101 (pd101 (aR 100) (aI v1)) <| ok_iloadn (pc' := 1) i101_0 rfl rfl <| ?_
  refine ok_zlt (pc1 := 15) (pc2 := 4) i101_1 (by omega) rfl rfl (fun h501 => ?_) (fun h501 => ?_)
  · refine ok_throw th101_15 (bt rfl) <| kt_x hh134 <| kt_h hn309 hf309_4_10 hr309_15 <| kt_v (pc' := 2127) rfl <| ?_
    refine ok_al hD (fun g hD => ?_)
    have hS448 := HD_o hD
    have hS1 := HD_s hD
    have hS464 := HD_u hD
    have hS465 := HD_ud hD
    refine ok_istore (pc' := 2129) (ls' := [aR 1, aR 100, aR 448, aR 464, aR 465, aI i, aI 2, w7, w8]) i0_2127 (bt rfl) rfl rfl <| ok_aloadn (pc' := 2130) i0_2129 rfl rfl <| ok_aloadn (pc' := 2131) i0_2130 rfl rfl <| ok_iload (pc' := 2133) i0_2131 rfl rfl <| ok_iconst (pc' := 2134) i0_2133 rfl <| ok_iadd (v := (i + 1)) (pc' := 2135) i0_2134 rfl rfl <| ok_iaload (v := v1) (pc' := 2136) i0_2135 (ShScr_k0 hS1) (by decide) (ShScr_l0 hS1) (by omega) hv1 rfl <| ok_cc i0_2136 rfl (cl_v o0 m13_299 na253 rfl rfl (bt rfl) (bt rfl) rfl (by rw [ShModel_k0 hS448, o253])) ln253 (pd253 (aR 448) (aI v1)) <| ?_
    refine ok_aloadn (pc' := 1) i253_0 rfl rfl <| ok_iloadn (pc' := 2) i253_1 rfl rfl <| ok_cc i253_2 rfl (cl_v o253 m9_238 na194 rfl rfl (bt rfl) (bt rfl) rfl (by rw [ShModel_k0 hS448, o194])) ln194 (pd194 (aR 448) (aI v1)) <| ok_aloadn (pc' := 1) i194_0 rfl rfl <| ok_cc i194_1 rfl (cl_v o194 m9_216 na188 rfl rfl (bt rfl) (bt rfl) rfl (by rw [ShModel_k0 hS448, o188])) ln188 (pd188 (aR 448)) <| ok_aloadn (pc' := 1) i188_0 rfl rfl <| ok_iconst (pc' := 2) i188_1 rfl <| ok_putfj (kk := 0) (pc' := 5) i188_2 o188 pi188_63 (ShModel_k0 hS448) rfl rfl <| ?_
    refine ok_aloadn (pc' := 6) i188_5 rfl rfl <| ok_aloadn (pc' := 7) i188_6 rfl rfl <| ok_getfi (v := 1) (pc' := 10) i188_7 o188 gi9_66 (ShModel_k0 hS448) (rd_ni (by decide) (hld.trans hl)) rfl <| ok_kz1 (pc1 := 17) (pc2 := 13) i188_10 (by decide) rfl rfl <| ok_iconst (pc' := 18) i188_17 rfl <| ok_iconst (pc' := 19) i188_18 rfl <| ok_cc i188_19 rfl (cl_v o188 m9_70 na165 rfl rfl (bt rfl) (bt rfl) rfl (by rw [ShModel_k0 hS448, o165])) ln165 (pd165 (aR 448) (aI 0) (aI 1)) <| ok_aloadn (pc' := 1) i165_0 rfl rfl <| ?_
    refine ok_getfi (v := 0) (pc' := 4) i165_1 o165 gi9_63 (ShModel_k0 hS448) rd_eq rfl <| ok_kz0 (pc1 := 16) (pc2 := 7) i165_4 (by decide) rfl rfl <| ok_iloadn (pc' := 8) i165_7 rfl rfl <| ok_kz1 (pc1 := 16) (pc2 := 11) i165_8 (by decide) rfl rfl <| ok_aloadn (pc' := 17) i165_16 rfl rfl <| ok_getfi (v := 0) (pc' := 20) i165_17 o165 gi9_63 (ShModel_k0 hS448) rd_eq rfl <| ok_kz1 (pc1 := 27) (pc2 := 23) i165_20 (by decide) rfl rfl <| ok_iconst (pc' := 28) i165_27 rfl <| ?_
    refine ok_iretz i165_28 rt165 (by decide) <| kt_v (pc' := 22) rfl <| ok_iretz i188_22 rt188 (by decide) <| kt_v (pc' := 4) rfl <| ok_kz0 (pc1 := 34) (pc2 := 7) i194_4 (by decide) rfl rfl <| ok_aloadn (pc' := 8) i194_7 rfl rfl <| ok_iloadn (pc' := 9) i194_8 rfl rfl <| ok_iconst (pc' := 10) i194_9 rfl <| ?_
    refine ok_aloadn (pc' := 11) i194_10 rfl rfl <| ok_getfi (v := (q 0)) (pc' := 14) i194_11 o194 gi9_203 (ShModel_k0 hS448) (rd_ni (by decide) (RepO_f2 hO)) rfl <| ok_iconst (pc' := 15) i194_14 rfl <| ok_isub (v := ((q 0) - 1)) (pc' := 16) i194_15 rfl rfl <| ok_cc i194_16 rfl (cl_s o194 m9_140 na164 rfl rfl (bt rfl) (bt rfl) rfl) ln164 (pd164 (aI v1) (aI 0) (aI ((q 0) - 1))) <| ok_iloadn (pc' := 1) i164_0 rfl rfl <| ok_iloadn (pc' := 2) i164_1 rfl rfl <| ?_
    refine ok_clt (pc1 := 14) (pc2 := 5) i164_2 (by omega) rfl rfl (fun h504 => ?_) (fun h9 => by exfalso; omega)
    refine ok_iconst (pc' := 15) i164_14 rfl <| ok_iretz i164_15 rt164 (by decide) <| kt_v (pc' := 19) rfl <| ok_kz0 (pc1 := 26) (pc2 := 22) i194_19 (by decide) rfl rfl <| ok_iconst (pc' := 23) i194_22 rfl <| ok_goto (pc' := 27) i194_23 rfl <| ok_iconst (pc' := 28) i194_27 rfl <| ok_cc i194_28 rfl (cl_v o194 m9_70 na165 rfl rfl (bt rfl) (bt rfl) rfl (by rw [ShModel_k0 hS448, o165])) ln165 (pd165 (aR 448) (aI 1) (aI 2)) <| ?_
    refine ok_aloadn (pc' := 1) i165_0 rfl rfl <| ok_getfi (v := 0) (pc' := 4) i165_1 o165 gi9_63 (ShModel_k0 hS448) rd_eq rfl <| ok_kz0 (pc1 := 16) (pc2 := 7) i165_4 (by decide) rfl rfl <| ok_iloadn (pc' := 8) i165_7 rfl rfl <| ok_kz0 (pc1 := 16) (pc2 := 11) i165_8 (by decide) rfl rfl <| ok_aloadn (pc' := 12) i165_11 rfl rfl <| ok_iloadn (pc' := 13) i165_12 rfl rfl <| ok_putfj (kk := 0) (pc' := 16) i165_13 o165 pi165_63 (ShModel_k0 hS448) rfl rfl <| ?_
    refine ok_aloadn (pc' := 17) i165_16 rfl rfl <| ok_getfi (v := 2) (pc' := 20) i165_17 o165 gi9_63 (ShModel_k0 hS448) rd_eq rfl <| ok_kz0 (pc1 := 27) (pc2 := 23) i165_20 (by decide) rfl rfl <| ok_iconst (pc' := 24) i165_23 rfl <| ok_goto (pc' := 28) i165_24 rfl <| ok_iretz i165_28 rt165 (by decide) <| kt_v (pc' := 31) rfl <| ok_kz0 (pc1 := 38) (pc2 := 34) i194_31 (by decide) rfl rfl <| ?_
    refine ok_iconst (pc' := 35) i194_34 rfl <| ok_goto (pc' := 39) i194_35 rfl <| ok_iretz i194_39 rt194 (by decide) <| kt_v (pc' := 5) rfl <| ok_kz0 (pc1 := 10) (pc2 := 8) i253_5 (by decide) rfl rfl <| ok_iconst (pc' := 9) i253_8 rfl <| ok_ireti i253_9 rt253 <| kt_v (pc' := 2139) rfl <| ?_
    refine ok_istore (pc' := 2141) (ls' := [aR 1, aR 100, aR 448, aR 464, aR 465, aI i, aI 2, aI 0, w8]) i0_2139 (bt rfl) rfl rfl <| ok_aloadn (pc' := 2142) i0_2141 rfl rfl <| ok_cc i0_2142 rfl (cl_v o0 m13_188 na157 rfl rfl (bt rfl) (bt rfl) rfl (by rw [ShModel_k0 hS448, o157])) ln157 (pd157 (aR 448)) <| ok_aloadn (pc' := 1) i157_0 rfl rfl <| ok_getfi (v := 2) (pc' := 4) i157_1 o157 gi9_63 (ShModel_k0 hS448) rd_eq rfl <| ok_ireti i157_4 rt157 <| kt_v (pc' := 2145) rfl <| ok_iload (pc' := 2147) i0_2145 rfl rfl <| ?_
    refine ok_kc1 (pc1 := 2152) (pc2 := 2150) i0_2147 (by decide) rfl rfl <| ok_iload (pc' := 2154) i0_2152 rfl rfl <| ok_kz1 (pc1 := 2169) (pc2 := 2157) i0_2154 (by decide) rfl rfl <| ok_goto (pc' := 3329) i0_2169 rfl <| ?_
    exact K _ _ _ _ _ _ hD (by omega) (Inv_mono (Inv_same hI (Same.thr (Same.thr Same.rfl))) (by omega))
  · refine ok_iloadn (pc' := 5) i101_4 rfl rfl <| ok_aloadn (pc' := 6) i101_5 rfl rfl <| ok_getfr (r := 138) (pc' := 9) i101_6 o101 gr0_32 (ShYard_k0 hS100) (ShYard_r7 hS100) rfl <| ok_getfi (v := (q 0)) (pc' := 12) i101_9 o101 gi0_135 (ShPlan_k0 hS138) (RepP_f0 hP) rfl <| ?_
    refine ok_clt (pc1 := 26) (pc2 := 15) i101_12 (by omega) rfl rfl (fun h505 => ?_) (fun h505 => ?_)
    · refine ok_vret i101_26 rt101 <| kt_0 (pc' := 9) rfl <| ok_aloadn (pc' := 10) i134_9 rfl rfl <| ok_getfr (r := 174) (pc' := 13) i134_10 o134 gr0_55 (ShYard_k0 hS100) (ShYard_r10 hS100) rfl <| ok_iloadn (pc' := 14) i134_13 rfl rfl <| ?_
      refine ok_cn (pc' := 17) (d0 := 3) i134_14 rfl (cl_v o134 m0_262 na58 rfl rfl (bt rfl) (bt rfl) rfl (by rw [ShTrial_k0 hS174, o58])) ln58 (pd58 (aR 174) (aI v1)) (by omega) (t58 (x1 := v1) hS174 hS199 hS138 hS175 hS149 hP hRB hQ hV (by omega) (by omega) (by omega) (by omega) (by omega)) rfl (fun M506 p507 => ?_)
      refine ok_ireti i134_17 rt134 <| kt_v (pc' := 7) rfl <| ok_i2l (v := (wr (rndS q s v1))) (pc' := 8) i309_7 rfl rfl <| ok_lastore (pc' := 9) i309_8 (ShOut_k0 hS464) (ShOut_l0 hS464) (by decide) rfl <| ok_goto (pc' := 18) i309_9 rfl <| ok_iconst (pc' := 19) i309_18 rfl <| ok_ireti i309_19 rt309 <| kt_v (pc' := 2127) rfl <| ?_
      refine ok_istore (pc' := 2129) (ls' := [aR 1, aR 100, aR 448, aR 464, aR 465, aI i, aI 0, w7, w8]) i0_2127 (bt rfl) rfl rfl <| ok_aloadn (pc' := 2130) i0_2129 rfl rfl <| ok_aloadn (pc' := 2131) i0_2130 rfl rfl <| ok_iload (pc' := 2133) i0_2131 rfl rfl <| ok_iconst (pc' := 2134) i0_2133 rfl <| ok_iadd (v := (i + 1)) (pc' := 2135) i0_2134 rfl rfl <| ok_iaload (v := v1) (pc' := 2136) i0_2135 (ShScr_k0 hS1) (by decide) (ShScr_l0 hS1) (by omega) (rd_na (by omega) (Eq.trans (congrFun (p507 1 (by omega)) (i + 1)) hv1)) rfl <| ?_
      have hCM506_448 : RepO M506 448 q s := RepO.fr hO ⟨((congrFun (p507 448 (by omega)) 2).trans (by rfl)), ((congrFun (p507 448 (by omega)) 3).trans (by rfl))⟩ (fun a h1 h2 => (p507 a (by omega)).trans rfl)
      refine ok_cn (pc' := 2139) (d0 := 7) i0_2136 rfl (cl_v o0 m13_299 na253 rfl rfl (bt rfl) (bt rfl) rfl (by rw [ShModel_k0 hS448, o253])) ln253 (pd253 (aR 448) (aI v1)) (by omega) (t253 (x1 := v1) hS448 (RepO.fr hCM506_448 ⟨(by rw [up2_na (by omega)]), (by rw [up2_na (by omega)])⟩ (fun a h1 h2 => (by rw [up2_na (by omega)]))) hV hQ (by omega) (by omega) (by omega) (rd_na (by omega) (Eq.trans (congrFun (p507 448 (by omega)) 1) (hld.trans hl)))) rfl (fun M508 p509 => ?_)
      refine ok_istore (pc' := 2141) (ls' := [aR 1, aR 100, aR 448, aR 464, aR 465, aI i, aI 0, aI (rndS q s v1), w8]) i0_2139 (bt rfl) rfl rfl <| ok_aloadn (pc' := 2142) i0_2141 rfl rfl <| ok_cc i0_2142 rfl (cl_v o0 m13_188 na157 rfl rfl (bt rfl) (bt rfl) rfl (by rw [ShModel_k0 hS448, o157])) ln157 (pd157 (aR 448)) <| ok_aloadn (pc' := 1) i157_0 rfl rfl <| ?_
      have hCM508_448 : RepO M508 448 q s := RepO.fr hCM506_448 ⟨((congrFun (WI.na p509 (c := 448) (by omega)) 2).trans (by rw [up2_rd, if_neg (by omega), up2_na (by omega)])), ((congrFun (WI.na p509 (c := 448) (by omega)) 3).trans (by rw [up2_rd, if_neg (by omega), up2_na (by omega)]))⟩ (fun a h1 h2 => (WI.na p509 (by omega)).trans (by rw [up2_na (by omega), up2_na (by omega)]))
      refine ok_getfi (v := 0) (pc' := 4) i157_1 o157 gi9_63 (ShModel_k0 hS448) (Eq.trans (congrFun (WI.na p509 (c := 448) (by omega)) 0) rd_eq) rfl <| ok_ireti i157_4 rt157 <| kt_v (pc' := 2145) rfl <| ok_iload (pc' := 2147) i0_2145 rfl rfl <| ok_kc1 (pc1 := 2152) (pc2 := 2150) i0_2147 (by decide) rfl rfl <| ok_iload (pc' := 2154) i0_2152 rfl rfl <| ok_kz0 (pc1 := 2169) (pc2 := 2157) i0_2154 (by decide) rfl rfl <| ok_aloadn (pc' := 2158) i0_2157 rfl rfl <| ?_
      refine ok_iconst (pc' := 2159) i0_2158 rfl <| ok_laload (v := (wr (rndS q s v1))) (pc' := 2160) i0_2159 (ShOut_k0 hS464) (ShOut_l0 hS464) (by decide) (Eq.trans (congrFun (WI.na p509 (c := 464) (by omega)) 0) (rd_na (by omega) rd_eq)) rfl <| ok_iload (pc' := 2162) i0_2160 rfl rfl <| ok_i2l (v := (wr (rndS q s v1))) (pc' := 2163) i0_2162 rfl rfl <| ok_lcmp0 (pc' := 2164) i0_2163 rfl <| ok_kz1 (pc1 := 2169) (pc2 := 2167) i0_2164 (by decide) rfl rfl <| ok_goto (pc' := 3329) i0_2169 rfl <| ?_
      exact K _ _ _ _ _ _ hD (by omega) (Inv_mono (Inv_same hI (Same.wi (Same.thr (Same.out (Same.wr Same.rfl p507))) p509)) (by omega))
    · refine ok_throw th101_15 (bt rfl) <| kt_x hh134 <| kt_h hn309 hf309_4_10 hr309_15 <| kt_v (pc' := 2127) rfl <| ?_
      refine ok_al hD (fun g hD => ?_)
      have hS448 := HD_o hD
      have hS1 := HD_s hD
      have hS464 := HD_u hD
      have hS465 := HD_ud hD
      refine ok_istore (pc' := 2129) (ls' := [aR 1, aR 100, aR 448, aR 464, aR 465, aI i, aI 2, w7, w8]) i0_2127 (bt rfl) rfl rfl <| ok_aloadn (pc' := 2130) i0_2129 rfl rfl <| ok_aloadn (pc' := 2131) i0_2130 rfl rfl <| ok_iload (pc' := 2133) i0_2131 rfl rfl <| ok_iconst (pc' := 2134) i0_2133 rfl <| ok_iadd (v := (i + 1)) (pc' := 2135) i0_2134 rfl rfl <| ok_iaload (v := v1) (pc' := 2136) i0_2135 (ShScr_k0 hS1) (by decide) (ShScr_l0 hS1) (by omega) hv1 rfl <| ok_cc i0_2136 rfl (cl_v o0 m13_299 na253 rfl rfl (bt rfl) (bt rfl) rfl (by rw [ShModel_k0 hS448, o253])) ln253 (pd253 (aR 448) (aI v1)) <| ?_
      refine ok_aloadn (pc' := 1) i253_0 rfl rfl <| ok_iloadn (pc' := 2) i253_1 rfl rfl <| ok_cc i253_2 rfl (cl_v o253 m9_238 na194 rfl rfl (bt rfl) (bt rfl) rfl (by rw [ShModel_k0 hS448, o194])) ln194 (pd194 (aR 448) (aI v1)) <| ok_aloadn (pc' := 1) i194_0 rfl rfl <| ok_cc i194_1 rfl (cl_v o194 m9_216 na188 rfl rfl (bt rfl) (bt rfl) rfl (by rw [ShModel_k0 hS448, o188])) ln188 (pd188 (aR 448)) <| ok_aloadn (pc' := 1) i188_0 rfl rfl <| ok_iconst (pc' := 2) i188_1 rfl <| ok_putfj (kk := 0) (pc' := 5) i188_2 o188 pi188_63 (ShModel_k0 hS448) rfl rfl <| ?_
      refine ok_aloadn (pc' := 6) i188_5 rfl rfl <| ok_aloadn (pc' := 7) i188_6 rfl rfl <| ok_getfi (v := 1) (pc' := 10) i188_7 o188 gi9_66 (ShModel_k0 hS448) (rd_ni (by decide) (hld.trans hl)) rfl <| ok_kz1 (pc1 := 17) (pc2 := 13) i188_10 (by decide) rfl rfl <| ok_iconst (pc' := 18) i188_17 rfl <| ok_iconst (pc' := 19) i188_18 rfl <| ok_cc i188_19 rfl (cl_v o188 m9_70 na165 rfl rfl (bt rfl) (bt rfl) rfl (by rw [ShModel_k0 hS448, o165])) ln165 (pd165 (aR 448) (aI 0) (aI 1)) <| ok_aloadn (pc' := 1) i165_0 rfl rfl <| ?_
      refine ok_getfi (v := 0) (pc' := 4) i165_1 o165 gi9_63 (ShModel_k0 hS448) rd_eq rfl <| ok_kz0 (pc1 := 16) (pc2 := 7) i165_4 (by decide) rfl rfl <| ok_iloadn (pc' := 8) i165_7 rfl rfl <| ok_kz1 (pc1 := 16) (pc2 := 11) i165_8 (by decide) rfl rfl <| ok_aloadn (pc' := 17) i165_16 rfl rfl <| ok_getfi (v := 0) (pc' := 20) i165_17 o165 gi9_63 (ShModel_k0 hS448) rd_eq rfl <| ok_kz1 (pc1 := 27) (pc2 := 23) i165_20 (by decide) rfl rfl <| ok_iconst (pc' := 28) i165_27 rfl <| ?_
      refine ok_iretz i165_28 rt165 (by decide) <| kt_v (pc' := 22) rfl <| ok_iretz i188_22 rt188 (by decide) <| kt_v (pc' := 4) rfl <| ok_kz0 (pc1 := 34) (pc2 := 7) i194_4 (by decide) rfl rfl <| ok_aloadn (pc' := 8) i194_7 rfl rfl <| ok_iloadn (pc' := 9) i194_8 rfl rfl <| ok_iconst (pc' := 10) i194_9 rfl <| ?_
      refine ok_aloadn (pc' := 11) i194_10 rfl rfl <| ok_getfi (v := (q 0)) (pc' := 14) i194_11 o194 gi9_203 (ShModel_k0 hS448) (rd_ni (by decide) (RepO_f2 hO)) rfl <| ok_iconst (pc' := 15) i194_14 rfl <| ok_isub (v := ((q 0) - 1)) (pc' := 16) i194_15 rfl rfl <| ok_cc i194_16 rfl (cl_s o194 m9_140 na164 rfl rfl (bt rfl) (bt rfl) rfl) ln164 (pd164 (aI v1) (aI 0) (aI ((q 0) - 1))) <| ok_iloadn (pc' := 1) i164_0 rfl rfl <| ok_iloadn (pc' := 2) i164_1 rfl rfl <| ?_
      refine ok_clt (pc1 := 14) (pc2 := 5) i164_2 (by omega) rfl rfl (fun h9 => by exfalso; omega) (fun h512 => ?_)
      refine ok_iloadn (pc' := 6) i164_5 rfl rfl <| ok_iloadn (pc' := 7) i164_6 rfl rfl <| ?_
      refine ok_cgt (pc1 := 14) (pc2 := 10) i164_7 (by omega) rfl rfl (fun h513 => ?_) (fun h9 => by exfalso; omega)
      refine ok_iconst (pc' := 15) i164_14 rfl <| ok_iretz i164_15 rt164 (by decide) <| kt_v (pc' := 19) rfl <| ok_kz0 (pc1 := 26) (pc2 := 22) i194_19 (by decide) rfl rfl <| ok_iconst (pc' := 23) i194_22 rfl <| ok_goto (pc' := 27) i194_23 rfl <| ok_iconst (pc' := 28) i194_27 rfl <| ok_cc i194_28 rfl (cl_v o194 m9_70 na165 rfl rfl (bt rfl) (bt rfl) rfl (by rw [ShModel_k0 hS448, o165])) ln165 (pd165 (aR 448) (aI 1) (aI 2)) <| ?_
      refine ok_aloadn (pc' := 1) i165_0 rfl rfl <| ok_getfi (v := 0) (pc' := 4) i165_1 o165 gi9_63 (ShModel_k0 hS448) rd_eq rfl <| ok_kz0 (pc1 := 16) (pc2 := 7) i165_4 (by decide) rfl rfl <| ok_iloadn (pc' := 8) i165_7 rfl rfl <| ok_kz0 (pc1 := 16) (pc2 := 11) i165_8 (by decide) rfl rfl <| ok_aloadn (pc' := 12) i165_11 rfl rfl <| ok_iloadn (pc' := 13) i165_12 rfl rfl <| ok_putfj (kk := 0) (pc' := 16) i165_13 o165 pi165_63 (ShModel_k0 hS448) rfl rfl <| ?_
      refine ok_aloadn (pc' := 17) i165_16 rfl rfl <| ok_getfi (v := 2) (pc' := 20) i165_17 o165 gi9_63 (ShModel_k0 hS448) rd_eq rfl <| ok_kz0 (pc1 := 27) (pc2 := 23) i165_20 (by decide) rfl rfl <| ok_iconst (pc' := 24) i165_23 rfl <| ok_goto (pc' := 28) i165_24 rfl <| ok_iretz i165_28 rt165 (by decide) <| kt_v (pc' := 31) rfl <| ok_kz0 (pc1 := 38) (pc2 := 34) i194_31 (by decide) rfl rfl <| ?_
      refine ok_iconst (pc' := 35) i194_34 rfl <| ok_goto (pc' := 39) i194_35 rfl <| ok_iretz i194_39 rt194 (by decide) <| kt_v (pc' := 5) rfl <| ok_kz0 (pc1 := 10) (pc2 := 8) i253_5 (by decide) rfl rfl <| ok_iconst (pc' := 9) i253_8 rfl <| ok_ireti i253_9 rt253 <| kt_v (pc' := 2139) rfl <| ?_
      refine ok_istore (pc' := 2141) (ls' := [aR 1, aR 100, aR 448, aR 464, aR 465, aI i, aI 2, aI 0, w8]) i0_2139 (bt rfl) rfl rfl <| ok_aloadn (pc' := 2142) i0_2141 rfl rfl <| ok_cc i0_2142 rfl (cl_v o0 m13_188 na157 rfl rfl (bt rfl) (bt rfl) rfl (by rw [ShModel_k0 hS448, o157])) ln157 (pd157 (aR 448)) <| ok_aloadn (pc' := 1) i157_0 rfl rfl <| ok_getfi (v := 2) (pc' := 4) i157_1 o157 gi9_63 (ShModel_k0 hS448) rd_eq rfl <| ok_ireti i157_4 rt157 <| kt_v (pc' := 2145) rfl <| ok_iload (pc' := 2147) i0_2145 rfl rfl <| ?_
      refine ok_kc1 (pc1 := 2152) (pc2 := 2150) i0_2147 (by decide) rfl rfl <| ok_iload (pc' := 2154) i0_2152 rfl rfl <| ok_kz1 (pc1 := 2169) (pc2 := 2157) i0_2154 (by decide) rfl rfl <| ok_goto (pc' := 3329) i0_2169 rfl <| ?_
      exact K _ _ _ _ _ _ hD (by omega) (Inv_mono (Inv_same hI (Same.thr (Same.thr Same.rfl))) (by omega))
theorem c39_1 {L n : Nat} {g : AG} {M : AM} {xs : Nat → Int32} {b i : Int} {w6 w7 w8 : AV} {Q : AO → AG → AM → Prop} (hD : HD L n g) (hI : Inv xs b M) (hi : 0 ≤ i ∧ i + 6 ≤ L) (hb : 0 ≤ b ∧ b ≤ 900000) (hl : M 100 6 = 1) (K : KK L n i b xs Q) :
    Ok 10 0 2359 [aR 1, aR 100, aR 448, aR 464, aR 465, aI i, w6, w7, w8] [] g M Q := by
  have hI0 := hI
  obtain ⟨hA, hld, hl01, q, hc, ⟨nx, sz, hH, hsz⟩, hS⟩ := hI0
  have hH0 := hH
  obtain ⟨⟨hn1, hn0⟩, ⟨hz2, hz0⟩, h10, hHj⟩ := hH0
  obtain ⟨hw0, ⟨bu, by_, hb1, hb13, hbu, hZ, hU⟩, he3, he4, he5, hId, tx, hT, hUt, htl, htr⟩ := hA
  obtain ⟨s, hP, hRB, hO, hV, hQ, h40⟩ := hc hl
  have ys3 := V_3 hV
  have ys4 := V_4 hV
  have yq0 := Q_0 hQ
  have yq1 := Q_1 hQ
  have hS100 := HD_y hD
  have hS149 := HD_b hD
  have hS448 := HD_o hD
  refine ok_aloadn (pc' := 2360) i0_2359 rfl rfl <| ok_cc i0_2360 rfl (cl_v o0 m13_310 na94 rfl rfl (bt rfl) (bt rfl) rfl (by rw [ShYard_k0 hS100, o94])) ln94 (pd94 (aR 100)) <| ok_aloadn (pc' := 1) i94_0 rfl rfl <| ok_getfi (v := 1) (pc' := 4) i94_1 o94 gi0_268 (ShYard_k0 hS100) hl rfl <| ok_kz0 (pc1 := 17) (pc2 := 7) i94_4 (by decide) rfl rfl <| ok_aloadn (pc' := 8) i94_7 rfl rfl <| ok_getfr (r := 149) (pc' := 11) i94_8 o94 gr0_39 (ShYard_k0 hS100) (ShYard_r8 hS100) rfl <| ?_
  have z301 : 0 ≤ s 5 ∧ s 5 ≤ 60 := V_5 hV
  refine ok_getfi (v := (s 5)) (pc' := 14) i94_11 o94 gi0_272 (ShState_k0 hS149) (RepS_f7 hRB) rfl <| ok_goto (pc' := 18) i94_14 rfl <| ok_ireti i94_18 rt94 <| kt_v (pc' := 2363) rfl <| ok_aloadn (pc' := 2364) i0_2363 rfl rfl <| ok_cc i0_2364 rfl (cl_v o0 m13_313 na257 rfl rfl (bt rfl) (bt rfl) rfl (by rw [ShModel_k0 hS448, o257])) ln257 (pd257 (aR 448)) <| ok_aloadn (pc' := 1) i257_0 rfl rfl <| ok_aloadn (pc' := 2) i257_1 rfl rfl <| ?_
  refine ok_getfr (r := (448 + 5)) (pc' := 5) i257_2 o257 gr9_22 (ShModel_k0 hS448) (ShModel_r8 hS448) rfl <| ok_iconst (pc' := 6) i257_5 rfl <| ok_iaload (v := (s 5)) (pc' := 7) i257_6 (ShModel_k5 hS448) (by decide) (ShModel_l5 hS448) (by decide) (RepO_s hO) rfl <| ok_cc i257_7 rfl (cl_v o257 m9_341 na258 rfl rfl (bt rfl) (bt rfl) rfl (by rw [ShModel_k0 hS448, o258])) ln258 (pd258 (aR 448) (aI (s 5))) <| ok_aloadn (pc' := 1) i258_0 rfl rfl <| ok_iconst (pc' := 2) i258_1 rfl <| ok_putfj (kk := 0) (pc' := 5) i258_2 o258 pi258_63 (ShModel_k0 hS448) rfl rfl <| ok_aloadn (pc' := 6) i258_5 rfl rfl <| ?_
  refine ok_getfi (v := 1) (pc' := 9) i258_6 o258 gi9_66 (ShModel_k0 hS448) (rd_ni (by decide) (hld.trans hl)) rfl <| ok_kz0 (pc1 := 16) (pc2 := 12) i258_9 (by decide) rfl rfl <| ok_iloadn (pc' := 13) i258_12 rfl rfl <| ok_goto (pc' := 17) i258_13 rfl <| ok_ireti i258_17 rt258 <| kt_v (pc' := 10) rfl <| ok_ireti i257_10 rt257 <| kt_v (pc' := 2367) rfl <| ?_
  refine ok_ceq (pc1 := 3329) (pc2 := 2370) i0_2367 (by omega) rfl rfl (fun h501 => ?_) (fun h9 => by exfalso; omega)
  exact K _ _ _ _ _ _ hD (by omega) (Inv_mono (Inv_same hI (Same.thr Same.rfl)) (by omega))
theorem c40_1 {L n : Nat} {g : AG} {M : AM} {xs : Nat → Int32} {b i : Int} {w6 w7 w8 : AV} {Q : AO → AG → AM → Prop} (hD : HD L n g) (hI : Inv xs b M) (hi : 0 ≤ i ∧ i + 6 ≤ L) (hb : 0 ≤ b ∧ b ≤ 900000) (hl : M 100 6 = 1) (K : KK L n i b xs Q) :
    Ok 10 0 2372 [aR 1, aR 100, aR 448, aR 464, aR 465, aI i, w6, w7, w8] [] g M Q := by
  have hI0 := hI
  obtain ⟨hA, hld, hl01, q, hc, ⟨nx, sz, hH, hsz⟩, hS⟩ := hI0
  have hH0 := hH
  obtain ⟨⟨hn1, hn0⟩, ⟨hz2, hz0⟩, h10, hHj⟩ := hH0
  obtain ⟨hw0, ⟨bu, by_, hb1, hb13, hbu, hZ, hU⟩, he3, he4, he5, hId, tx, hT, hUt, htl, htr⟩ := hA
  obtain ⟨s, hP, hRB, hO, hV, hQ, h40⟩ := hc hl
  have ys3 := V_3 hV
  have ys4 := V_4 hV
  have yq0 := Q_0 hQ
  have yq1 := Q_1 hQ
  obtain ⟨v1, hv1⟩ : ∃ u9 : Int, M 1 (i + 1) = u9 := ⟨_, rfl⟩
  have hr1 : -2147483648 ≤ v1 ∧ v1 < 2147483648 := hv1 ▸ scr_rg hw0 (i + 1)
  obtain ⟨v2, hv2⟩ : ∃ u9 : Int, M 1 (i + 2) = u9 := ⟨_, rfl⟩
  have hr2 : -2147483648 ≤ v2 ∧ v2 < 2147483648 := hv2 ▸ scr_rg hw0 (i + 2)
  have hS1 := HD_s hD
  have hS100 := HD_y hD
  have hS149 := HD_b hD
  have hS448 := HD_o hD
  have hS464 := HD_u hD
  have hS465 := HD_ud hD
  refine ok_aloadn (pc' := 2373) i0_2372 rfl rfl <| ok_aloadn (pc' := 2374) i0_2373 rfl rfl <| ok_iload (pc' := 2376) i0_2374 rfl rfl <| ok_iconst (pc' := 2377) i0_2376 rfl <| ok_iadd (v := (i + 1)) (pc' := 2378) i0_2377 rfl rfl <| ok_iaload (v := v1) (pc' := 2379) i0_2378 (ShScr_k0 hS1) (by decide) (ShScr_l0 hS1) (by omega) hv1 rfl <| ok_aloadn (pc' := 2380) i0_2379 rfl rfl <| ok_iload (pc' := 2382) i0_2380 rfl rfl <| ?_
  refine ok_iconst (pc' := 2383) i0_2382 rfl <| ok_iadd (v := (i + 2)) (pc' := 2384) i0_2383 rfl rfl <| ok_iaload (v := v2) (pc' := 2385) i0_2384 (ShScr_k0 hS1) (by decide) (ShScr_l0 hS1) (by omega) hv2 rfl <| ok_aloadn (pc' := 2386) i0_2385 rfl rfl <| ok_cc i0_2386 rfl (cl_s o0 m13_314 na313 rfl rfl (bt rfl) (bt rfl) rfl) ln313 (pd313 (aR 100) (aI v1) (aI v2) (aR 464)) <| ok_aloadn (pc' := 1) i313_0 rfl rfl <| ok_iconst (pc' := 2) i313_1 rfl <| ok_aloadn (pc' := 3) i313_2 rfl rfl <| ?_
  refine ok_iloadn (pc' := 4) i313_3 rfl rfl <| ok_iloadn (pc' := 5) i313_4 rfl rfl <| ok_cc i313_5 rfl (cl_v o313 m13_124 na138 rfl rfl (bt rfl) (bt rfl) rfl (by rw [ShYard_k0 hS100, o138])) ln138 (pd138 (aR 100) (aI v1) (aI v2)) <| ok_aloadn (pc' := 1) i138_0 rfl rfl <| ok_cc i138_1 rfl (cl_v o138 m0_132 na99 rfl rfl (bt rfl) (bt rfl) rfl (by rw [ShYard_k0 hS100, o99])) ln99 (pd99 (aR 100)) <| ok_aloadn (pc' := 1) i99_0 rfl rfl <| ok_getfi (v := 1) (pc' := 4) i99_1 o99 gi0_268 (ShYard_k0 hS100) hl rfl <| ok_kz1 (pc1 := 18) (pc2 := 7) i99_4 (by decide) rfl rfl <| ?_
  refine ok_vret i99_18 rt99 <| kt_0 (pc' := 4) rfl <| ok_iloadn (pc' := 5) i138_4 rfl rfl <| ?_
  refine ok_zlt (pc1 := 19) (pc2 := 8) i138_5 (by omega) rfl rfl (fun h501 => ?_) (fun h501 => ?_)
  · refine ok_throw th138_19 (bt rfl) <| kt_h hn313 hf313_5_10 hr313_17 <| kt_v (pc' := 2389) rfl <| ?_
    refine ok_al hD (fun g hD => ?_)
    have hS448 := HD_o hD
    have hS1 := HD_s hD
    have hS464 := HD_u hD
    have hS465 := HD_ud hD
    refine ok_istore (pc' := 2391) (ls' := [aR 1, aR 100, aR 448, aR 464, aR 465, aI i, aI 2, w7, w8]) i0_2389 (bt rfl) rfl rfl <| ok_aloadn (pc' := 2392) i0_2391 rfl rfl <| ok_aloadn (pc' := 2393) i0_2392 rfl rfl <| ok_iload (pc' := 2395) i0_2393 rfl rfl <| ok_iconst (pc' := 2396) i0_2395 rfl <| ok_iadd (v := (i + 1)) (pc' := 2397) i0_2396 rfl rfl <| ok_iaload (v := v1) (pc' := 2398) i0_2397 (ShScr_k0 hS1) (by decide) (ShScr_l0 hS1) (by omega) hv1 rfl <| ok_aloadn (pc' := 2399) i0_2398 rfl rfl <| ?_
    refine ok_iload (pc' := 2401) i0_2399 rfl rfl <| ok_iconst (pc' := 2402) i0_2401 rfl <| ok_iadd (v := (i + 2)) (pc' := 2403) i0_2402 rfl rfl <| ok_iaload (v := v2) (pc' := 2404) i0_2403 (ShScr_k0 hS1) (by decide) (ShScr_l0 hS1) (by omega) hv2 rfl <| ok_cc i0_2404 rfl (cl_v o0 m13_316 na260 rfl rfl (bt rfl) (bt rfl) rfl (by rw [ShModel_k0 hS448, o260])) ln260 (pd260 (aR 448) (aI v1) (aI v2)) <| ok_aloadn (pc' := 1) i260_0 rfl rfl <| ok_cc i260_1 rfl (cl_v o260 m9_216 na188 rfl rfl (bt rfl) (bt rfl) rfl (by rw [ShModel_k0 hS448, o188])) ln188 (pd188 (aR 448)) <| ok_aloadn (pc' := 1) i188_0 rfl rfl <| ?_
    refine ok_iconst (pc' := 2) i188_1 rfl <| ok_putfj (kk := 0) (pc' := 5) i188_2 o188 pi188_63 (ShModel_k0 hS448) rfl rfl <| ok_aloadn (pc' := 6) i188_5 rfl rfl <| ok_aloadn (pc' := 7) i188_6 rfl rfl <| ok_getfi (v := 1) (pc' := 10) i188_7 o188 gi9_66 (ShModel_k0 hS448) (rd_ni (by decide) (hld.trans hl)) rfl <| ok_kz1 (pc1 := 17) (pc2 := 13) i188_10 (by decide) rfl rfl <| ok_iconst (pc' := 18) i188_17 rfl <| ok_iconst (pc' := 19) i188_18 rfl <| ?_
    refine ok_cc i188_19 rfl (cl_v o188 m9_70 na165 rfl rfl (bt rfl) (bt rfl) rfl (by rw [ShModel_k0 hS448, o165])) ln165 (pd165 (aR 448) (aI 0) (aI 1)) <| ok_aloadn (pc' := 1) i165_0 rfl rfl <| ok_getfi (v := 0) (pc' := 4) i165_1 o165 gi9_63 (ShModel_k0 hS448) rd_eq rfl <| ok_kz0 (pc1 := 16) (pc2 := 7) i165_4 (by decide) rfl rfl <| ok_iloadn (pc' := 8) i165_7 rfl rfl <| ok_kz1 (pc1 := 16) (pc2 := 11) i165_8 (by decide) rfl rfl <| ok_aloadn (pc' := 17) i165_16 rfl rfl <| ok_getfi (v := 0) (pc' := 20) i165_17 o165 gi9_63 (ShModel_k0 hS448) rd_eq rfl <| ?_
    refine ok_kz1 (pc1 := 27) (pc2 := 23) i165_20 (by decide) rfl rfl <| ok_iconst (pc' := 28) i165_27 rfl <| ok_iretz i165_28 rt165 (by decide) <| kt_v (pc' := 22) rfl <| ok_iretz i188_22 rt188 (by decide) <| kt_v (pc' := 4) rfl <| ok_kz0 (pc1 := 58) (pc2 := 7) i260_4 (by decide) rfl rfl <| ok_aloadn (pc' := 8) i260_7 rfl rfl <| ?_
    refine ok_iloadn (pc' := 9) i260_8 rfl rfl <| ok_iconst (pc' := 10) i260_9 rfl <| ok_aloadn (pc' := 11) i260_10 rfl rfl <| ok_getfr (r := (448 + 5)) (pc' := 14) i260_11 o260 gr9_22 (ShModel_k0 hS448) (ShModel_r8 hS448) rfl <| ok_iconst (pc' := 15) i260_14 rfl <| ?_
    have z301 : 0 ≤ s 5 ∧ s 5 ≤ 60 := V_5 hV
    refine ok_iaload (v := (s 5)) (pc' := 16) i260_15 (ShModel_k5 hS448) (by decide) (ShModel_l5 hS448) (by decide) (rd_na (by omega) (RepO_s hO)) rfl <| ok_iconst (pc' := 17) i260_16 rfl <| ok_isub (v := ((s 5) - 1)) (pc' := 18) i260_17 rfl rfl <| ok_cc i260_18 rfl (cl_s o260 m9_140 na164 rfl rfl (bt rfl) (bt rfl) rfl) ln164 (pd164 (aI v1) (aI 0) (aI ((s 5) - 1))) <| ok_iloadn (pc' := 1) i164_0 rfl rfl <| ok_iloadn (pc' := 2) i164_1 rfl rfl <| ?_
    refine ok_clt (pc1 := 14) (pc2 := 5) i164_2 (by omega) rfl rfl (fun h502 => ?_) (fun h9 => by exfalso; omega)
    refine ok_iconst (pc' := 15) i164_14 rfl <| ok_iretz i164_15 rt164 (by decide) <| kt_v (pc' := 21) rfl <| ok_kz0 (pc1 := 28) (pc2 := 24) i260_21 (by decide) rfl rfl <| ok_iconst (pc' := 25) i260_24 rfl <| ok_goto (pc' := 29) i260_25 rfl <| ok_iconst (pc' := 30) i260_29 rfl <| ok_cc i260_30 rfl (cl_v o260 m9_70 na165 rfl rfl (bt rfl) (bt rfl) rfl (by rw [ShModel_k0 hS448, o165])) ln165 (pd165 (aR 448) (aI 1) (aI 2)) <| ?_
    refine ok_aloadn (pc' := 1) i165_0 rfl rfl <| ok_getfi (v := 0) (pc' := 4) i165_1 o165 gi9_63 (ShModel_k0 hS448) rd_eq rfl <| ok_kz0 (pc1 := 16) (pc2 := 7) i165_4 (by decide) rfl rfl <| ok_iloadn (pc' := 8) i165_7 rfl rfl <| ok_kz0 (pc1 := 16) (pc2 := 11) i165_8 (by decide) rfl rfl <| ok_aloadn (pc' := 12) i165_11 rfl rfl <| ok_iloadn (pc' := 13) i165_12 rfl rfl <| ok_putfj (kk := 0) (pc' := 16) i165_13 o165 pi165_63 (ShModel_k0 hS448) rfl rfl <| ?_
    refine ok_aloadn (pc' := 17) i165_16 rfl rfl <| ok_getfi (v := 2) (pc' := 20) i165_17 o165 gi9_63 (ShModel_k0 hS448) rd_eq rfl <| ok_kz0 (pc1 := 27) (pc2 := 23) i165_20 (by decide) rfl rfl <| ok_iconst (pc' := 24) i165_23 rfl <| ok_goto (pc' := 28) i165_24 rfl <| ok_iretz i165_28 rt165 (by decide) <| kt_v (pc' := 33) rfl <| ok_kz1 (pc1 := 58) (pc2 := 36) i260_33 (by decide) rfl rfl <| ?_
    refine ok_iconst (pc' := 59) i260_58 rfl <| ok_goto (pc' := 76) i260_59 rfl <| ok_ireti i260_76 rt260 <| kt_v (pc' := 2407) rfl <| ok_istore (pc' := 2409) (ls' := [aR 1, aR 100, aR 448, aR 464, aR 465, aI i, aI 2, aI 0, w8]) i0_2407 (bt rfl) rfl rfl <| ok_aloadn (pc' := 2410) i0_2409 rfl rfl <| ok_cc i0_2410 rfl (cl_v o0 m13_188 na157 rfl rfl (bt rfl) (bt rfl) rfl (by rw [ShModel_k0 hS448, o157])) ln157 (pd157 (aR 448)) <| ok_aloadn (pc' := 1) i157_0 rfl rfl <| ?_
    refine ok_getfi (v := 2) (pc' := 4) i157_1 o157 gi9_63 (ShModel_k0 hS448) rd_eq rfl <| ok_ireti i157_4 rt157 <| kt_v (pc' := 2413) rfl <| ok_iload (pc' := 2415) i0_2413 rfl rfl <| ok_kc1 (pc1 := 2420) (pc2 := 2418) i0_2415 (by decide) rfl rfl <| ok_iload (pc' := 2422) i0_2420 rfl rfl <| ok_kz1 (pc1 := 2437) (pc2 := 2425) i0_2422 (by decide) rfl rfl <| ok_goto (pc' := 3329) i0_2437 rfl <| ?_
    exact K _ _ _ _ _ _ hD (by omega) (Inv_mono (Inv_same hI (Same.thr (Same.thr Same.rfl))) (by omega))
  · refine ok_iloadn (pc' := 9) i138_8 rfl rfl <| ok_aloadn (pc' := 10) i138_9 rfl rfl <| ok_getfr (r := 149) (pc' := 13) i138_10 o138 gr0_39 (ShYard_k0 hS100) (ShYard_r8 hS100) rfl <| ?_
    have z302 : 0 ≤ s 5 ∧ s 5 ≤ 60 := V_5 hV
    refine ok_getfi (v := (s 5)) (pc' := 16) i138_13 o138 gi0_272 (ShState_k0 hS149) (RepS_f7 hRB) rfl <| ?_
    refine ok_clt (pc1 := 30) (pc2 := 19) i138_16 (by omega) rfl rfl (fun h503 => ?_) (fun h503 => ?_)
    · refine ok_iloadn (pc' := 31) i138_30 rfl rfl <| ok_iconst (pc' := 32) i138_31 rfl <| ok_iconst (pc' := 33) i138_32 rfl <| ok_cc i138_33 rfl (cl_s o138 m0_172 na104 rfl rfl (bt rfl) (bt rfl) rfl) ln104 (pd104 (aI v2) (aI 0) (aI 3)) <| ok_iloadn (pc' := 1) i104_0 rfl rfl <| ok_iloadn (pc' := 2) i104_1 rfl rfl <| ?_
      refine ok_clt (pc1 := 10) (pc2 := 5) i104_2 (by omega) rfl rfl (fun h504 => ?_) (fun h504 => ?_)
      · refine ok_throw th104_10 (bt rfl) <| kt_x hh138 <| kt_h hn313 hf313_5_11 hr313_21 <| kt_v (pc' := 2389) rfl <| ?_
        refine ok_al hD (fun g hD => ?_)
        have hS448 := HD_o hD
        have hS1 := HD_s hD
        have hS464 := HD_u hD
        have hS465 := HD_ud hD
        refine ok_istore (pc' := 2391) (ls' := [aR 1, aR 100, aR 448, aR 464, aR 465, aI i, aI 3, w7, w8]) i0_2389 (bt rfl) rfl rfl <| ok_aloadn (pc' := 2392) i0_2391 rfl rfl <| ok_aloadn (pc' := 2393) i0_2392 rfl rfl <| ok_iload (pc' := 2395) i0_2393 rfl rfl <| ok_iconst (pc' := 2396) i0_2395 rfl <| ok_iadd (v := (i + 1)) (pc' := 2397) i0_2396 rfl rfl <| ok_iaload (v := v1) (pc' := 2398) i0_2397 (ShScr_k0 hS1) (by decide) (ShScr_l0 hS1) (by omega) hv1 rfl <| ok_aloadn (pc' := 2399) i0_2398 rfl rfl <| ?_
        refine ok_iload (pc' := 2401) i0_2399 rfl rfl <| ok_iconst (pc' := 2402) i0_2401 rfl <| ok_iadd (v := (i + 2)) (pc' := 2403) i0_2402 rfl rfl <| ok_iaload (v := v2) (pc' := 2404) i0_2403 (ShScr_k0 hS1) (by decide) (ShScr_l0 hS1) (by omega) hv2 rfl <| ok_cc i0_2404 rfl (cl_v o0 m13_316 na260 rfl rfl (bt rfl) (bt rfl) rfl (by rw [ShModel_k0 hS448, o260])) ln260 (pd260 (aR 448) (aI v1) (aI v2)) <| ok_aloadn (pc' := 1) i260_0 rfl rfl <| ok_cc i260_1 rfl (cl_v o260 m9_216 na188 rfl rfl (bt rfl) (bt rfl) rfl (by rw [ShModel_k0 hS448, o188])) ln188 (pd188 (aR 448)) <| ok_aloadn (pc' := 1) i188_0 rfl rfl <| ?_
        refine ok_iconst (pc' := 2) i188_1 rfl <| ok_putfj (kk := 0) (pc' := 5) i188_2 o188 pi188_63 (ShModel_k0 hS448) rfl rfl <| ok_aloadn (pc' := 6) i188_5 rfl rfl <| ok_aloadn (pc' := 7) i188_6 rfl rfl <| ok_getfi (v := 1) (pc' := 10) i188_7 o188 gi9_66 (ShModel_k0 hS448) (rd_ni (by decide) (hld.trans hl)) rfl <| ok_kz1 (pc1 := 17) (pc2 := 13) i188_10 (by decide) rfl rfl <| ok_iconst (pc' := 18) i188_17 rfl <| ok_iconst (pc' := 19) i188_18 rfl <| ?_
        refine ok_cc i188_19 rfl (cl_v o188 m9_70 na165 rfl rfl (bt rfl) (bt rfl) rfl (by rw [ShModel_k0 hS448, o165])) ln165 (pd165 (aR 448) (aI 0) (aI 1)) <| ok_aloadn (pc' := 1) i165_0 rfl rfl <| ok_getfi (v := 0) (pc' := 4) i165_1 o165 gi9_63 (ShModel_k0 hS448) rd_eq rfl <| ok_kz0 (pc1 := 16) (pc2 := 7) i165_4 (by decide) rfl rfl <| ok_iloadn (pc' := 8) i165_7 rfl rfl <| ok_kz1 (pc1 := 16) (pc2 := 11) i165_8 (by decide) rfl rfl <| ok_aloadn (pc' := 17) i165_16 rfl rfl <| ok_getfi (v := 0) (pc' := 20) i165_17 o165 gi9_63 (ShModel_k0 hS448) rd_eq rfl <| ?_
        refine ok_kz1 (pc1 := 27) (pc2 := 23) i165_20 (by decide) rfl rfl <| ok_iconst (pc' := 28) i165_27 rfl <| ok_iretz i165_28 rt165 (by decide) <| kt_v (pc' := 22) rfl <| ok_iretz i188_22 rt188 (by decide) <| kt_v (pc' := 4) rfl <| ok_kz0 (pc1 := 58) (pc2 := 7) i260_4 (by decide) rfl rfl <| ok_aloadn (pc' := 8) i260_7 rfl rfl <| ?_
        refine ok_iloadn (pc' := 9) i260_8 rfl rfl <| ok_iconst (pc' := 10) i260_9 rfl <| ok_aloadn (pc' := 11) i260_10 rfl rfl <| ok_getfr (r := (448 + 5)) (pc' := 14) i260_11 o260 gr9_22 (ShModel_k0 hS448) (ShModel_r8 hS448) rfl <| ok_iconst (pc' := 15) i260_14 rfl <| ok_iaload (v := (s 5)) (pc' := 16) i260_15 (ShModel_k5 hS448) (by decide) (ShModel_l5 hS448) (by decide) (rd_na (by omega) (RepO_s hO)) rfl <| ok_iconst (pc' := 17) i260_16 rfl <| ok_isub (v := ((s 5) - 1)) (pc' := 18) i260_17 rfl rfl <| ?_
        refine ok_cc i260_18 rfl (cl_s o260 m9_140 na164 rfl rfl (bt rfl) (bt rfl) rfl) ln164 (pd164 (aI v1) (aI 0) (aI ((s 5) - 1))) <| ok_iloadn (pc' := 1) i164_0 rfl rfl <| ok_iloadn (pc' := 2) i164_1 rfl rfl <| ?_
        refine ok_clt (pc1 := 14) (pc2 := 5) i164_2 (by omega) rfl rfl (fun h9 => by exfalso; omega) (fun h505 => ?_)
        refine ok_iloadn (pc' := 6) i164_5 rfl rfl <| ok_iloadn (pc' := 7) i164_6 rfl rfl <| ?_
        refine ok_cgt (pc1 := 14) (pc2 := 10) i164_7 (by omega) rfl rfl (fun h9 => by exfalso; omega) (fun h506 => ?_)
        refine ok_iconst (pc' := 11) i164_10 rfl <| ok_goto (pc' := 15) i164_11 rfl <| ok_iretz i164_15 rt164 (by decide) <| kt_v (pc' := 21) rfl <| ok_kz1 (pc1 := 28) (pc2 := 24) i260_21 (by decide) rfl rfl <| ok_iconst (pc' := 29) i260_28 rfl <| ok_iconst (pc' := 30) i260_29 rfl <| ok_cc i260_30 rfl (cl_v o260 m9_70 na165 rfl rfl (bt rfl) (bt rfl) rfl (by rw [ShModel_k0 hS448, o165])) ln165 (pd165 (aR 448) (aI 0) (aI 2)) <| ?_
        refine ok_aloadn (pc' := 1) i165_0 rfl rfl <| ok_getfi (v := 0) (pc' := 4) i165_1 o165 gi9_63 (ShModel_k0 hS448) rd_eq rfl <| ok_kz0 (pc1 := 16) (pc2 := 7) i165_4 (by decide) rfl rfl <| ok_iloadn (pc' := 8) i165_7 rfl rfl <| ok_kz1 (pc1 := 16) (pc2 := 11) i165_8 (by decide) rfl rfl <| ok_aloadn (pc' := 17) i165_16 rfl rfl <| ok_getfi (v := 0) (pc' := 20) i165_17 o165 gi9_63 (ShModel_k0 hS448) rd_eq rfl <| ok_kz1 (pc1 := 27) (pc2 := 23) i165_20 (by decide) rfl rfl <| ?_
        refine ok_iconst (pc' := 28) i165_27 rfl <| ok_iretz i165_28 rt165 (by decide) <| kt_v (pc' := 33) rfl <| ok_kz0 (pc1 := 58) (pc2 := 36) i260_33 (by decide) rfl rfl <| ok_aloadn (pc' := 37) i260_36 rfl rfl <| ok_iloadn (pc' := 38) i260_37 rfl rfl <| ok_iconst (pc' := 39) i260_38 rfl <| ok_iconst (pc' := 40) i260_39 rfl <| ?_
        refine ok_cc i260_40 rfl (cl_s o260 m9_140 na164 rfl rfl (bt rfl) (bt rfl) rfl) ln164 (pd164 (aI v2) (aI 0) (aI 3)) <| ok_iloadn (pc' := 1) i164_0 rfl rfl <| ok_iloadn (pc' := 2) i164_1 rfl rfl <| ?_
        refine ok_clt (pc1 := 14) (pc2 := 5) i164_2 (by omega) rfl rfl (fun h507 => ?_) (fun h9 => by exfalso; omega)
        refine ok_iconst (pc' := 15) i164_14 rfl <| ok_iretz i164_15 rt164 (by decide) <| kt_v (pc' := 43) rfl <| ok_kz0 (pc1 := 50) (pc2 := 46) i260_43 (by decide) rfl rfl <| ok_iconst (pc' := 47) i260_46 rfl <| ok_goto (pc' := 51) i260_47 rfl <| ok_iconst (pc' := 52) i260_51 rfl <| ok_cc i260_52 rfl (cl_v o260 m9_70 na165 rfl rfl (bt rfl) (bt rfl) rfl (by rw [ShModel_k0 hS448, o165])) ln165 (pd165 (aR 448) (aI 1) (aI 3)) <| ?_
        refine ok_aloadn (pc' := 1) i165_0 rfl rfl <| ok_getfi (v := 0) (pc' := 4) i165_1 o165 gi9_63 (ShModel_k0 hS448) rd_eq rfl <| ok_kz0 (pc1 := 16) (pc2 := 7) i165_4 (by decide) rfl rfl <| ok_iloadn (pc' := 8) i165_7 rfl rfl <| ok_kz0 (pc1 := 16) (pc2 := 11) i165_8 (by decide) rfl rfl <| ok_aloadn (pc' := 12) i165_11 rfl rfl <| ok_iloadn (pc' := 13) i165_12 rfl rfl <| ok_putfj (kk := 0) (pc' := 16) i165_13 o165 pi165_63 (ShModel_k0 hS448) rfl rfl <| ?_
        refine ok_aloadn (pc' := 17) i165_16 rfl rfl <| ok_getfi (v := 3) (pc' := 20) i165_17 o165 gi9_63 (ShModel_k0 hS448) rd_eq rfl <| ok_kz0 (pc1 := 27) (pc2 := 23) i165_20 (by decide) rfl rfl <| ok_iconst (pc' := 24) i165_23 rfl <| ok_goto (pc' := 28) i165_24 rfl <| ok_iretz i165_28 rt165 (by decide) <| kt_v (pc' := 55) rfl <| ok_kz0 (pc1 := 62) (pc2 := 58) i260_55 (by decide) rfl rfl <| ?_
        refine ok_iconst (pc' := 59) i260_58 rfl <| ok_goto (pc' := 76) i260_59 rfl <| ok_ireti i260_76 rt260 <| kt_v (pc' := 2407) rfl <| ok_istore (pc' := 2409) (ls' := [aR 1, aR 100, aR 448, aR 464, aR 465, aI i, aI 3, aI 0, w8]) i0_2407 (bt rfl) rfl rfl <| ok_aloadn (pc' := 2410) i0_2409 rfl rfl <| ok_cc i0_2410 rfl (cl_v o0 m13_188 na157 rfl rfl (bt rfl) (bt rfl) rfl (by rw [ShModel_k0 hS448, o157])) ln157 (pd157 (aR 448)) <| ok_aloadn (pc' := 1) i157_0 rfl rfl <| ?_
        refine ok_getfi (v := 3) (pc' := 4) i157_1 o157 gi9_63 (ShModel_k0 hS448) rd_eq rfl <| ok_ireti i157_4 rt157 <| kt_v (pc' := 2413) rfl <| ok_iload (pc' := 2415) i0_2413 rfl rfl <| ok_kc1 (pc1 := 2420) (pc2 := 2418) i0_2415 (by decide) rfl rfl <| ok_iload (pc' := 2422) i0_2420 rfl rfl <| ok_kz1 (pc1 := 2437) (pc2 := 2425) i0_2422 (by decide) rfl rfl <| ok_goto (pc' := 3329) i0_2437 rfl <| ?_
        exact K _ _ _ _ _ _ hD (by omega) (Inv_mono (Inv_same hI (Same.thr (Same.thr Same.rfl))) (by omega))
      · refine ok_iloadn (pc' := 6) i104_5 rfl rfl <| ok_iloadn (pc' := 7) i104_6 rfl rfl <| ?_
        refine ok_cle (pc1 := 21) (pc2 := 10) i104_7 (by omega) rfl rfl (fun h508 => ?_) (fun h508 => ?_)
        · refine ok_vret i104_21 rt104 <| kt_0 (pc' := 36) rfl <| ok_aloadn (pc' := 37) i138_36 rfl rfl <| ok_getfr (r := 149) (pc' := 40) i138_37 o138 gr0_39 (ShYard_k0 hS100) (ShYard_r8 hS100) rfl <| ok_getfr (r := (149 + 18)) (pc' := 43) i138_40 o138 gr0_277 (ShState_k0 hS149) (ShState_r8 hS149) rfl <| ok_iloadn (pc' := 44) i138_43 rfl rfl <| ok_aaload (r := (149 + 19 + v2.toNat)) (pc' := 45) i138_44 (ShState_k18 hS149) (by decide) (ShState_l18 hS149) (by omega) (ShState_ev18 hS149 (by omega) (by omega)) rfl <| ok_iloadn (pc' := 46) i138_45 rfl rfl <| ?_
          refine ok_iaload (v := (s ((743 + (4 * v1)) + v2))) (pc' := 47) i138_46 (ShState_kv18 hS149 (by omega) (by omega)) (by decide) (ShState_lv18 hS149 (by omega) (by omega)) (by omega) (RepS_lv hRB (by omega) (by omega) (by omega) (by omega)) rfl <| ok_ireti i138_47 rt138 <| kt_v (pc' := 8) rfl <| ok_i2l (v := (wr (s ((743 + (4 * v1)) + v2)))) (pc' := 9) i313_8 rfl rfl <| ok_lastore (pc' := 10) i313_9 (ShOut_k0 hS464) (ShOut_l0 hS464) (by decide) rfl <| ok_goto (pc' := 25) i313_10 rfl <| ok_iconst (pc' := 26) i313_25 rfl <| ok_ireti i313_26 rt313 <| ?_
          refine kt_v (pc' := 2389) rfl <| ok_istore (pc' := 2391) (ls' := [aR 1, aR 100, aR 448, aR 464, aR 465, aI i, aI 0, w7, w8]) i0_2389 (bt rfl) rfl rfl <| ok_aloadn (pc' := 2392) i0_2391 rfl rfl <| ok_aloadn (pc' := 2393) i0_2392 rfl rfl <| ok_iload (pc' := 2395) i0_2393 rfl rfl <| ok_iconst (pc' := 2396) i0_2395 rfl <| ok_iadd (v := (i + 1)) (pc' := 2397) i0_2396 rfl rfl <| ok_iaload (v := v1) (pc' := 2398) i0_2397 (ShScr_k0 hS1) (by decide) (ShScr_l0 hS1) (by omega) (rd_na (by omega) hv1) rfl <| ?_
          refine ok_aloadn (pc' := 2399) i0_2398 rfl rfl <| ok_iload (pc' := 2401) i0_2399 rfl rfl <| ok_iconst (pc' := 2402) i0_2401 rfl <| ok_iadd (v := (i + 2)) (pc' := 2403) i0_2402 rfl rfl <| ok_iaload (v := v2) (pc' := 2404) i0_2403 (ShScr_k0 hS1) (by decide) (ShScr_l0 hS1) (by omega) (rd_na (by omega) hv2) rfl <| ok_cc i0_2404 rfl (cl_v o0 m13_316 na260 rfl rfl (bt rfl) (bt rfl) rfl (by rw [ShModel_k0 hS448, o260])) ln260 (pd260 (aR 448) (aI v1) (aI v2)) <| ok_aloadn (pc' := 1) i260_0 rfl rfl <| ok_cc i260_1 rfl (cl_v o260 m9_216 na188 rfl rfl (bt rfl) (bt rfl) rfl (by rw [ShModel_k0 hS448, o188])) ln188 (pd188 (aR 448)) <| ?_
          refine ok_aloadn (pc' := 1) i188_0 rfl rfl <| ok_iconst (pc' := 2) i188_1 rfl <| ok_putfj (kk := 0) (pc' := 5) i188_2 o188 pi188_63 (ShModel_k0 hS448) rfl rfl <| ok_aloadn (pc' := 6) i188_5 rfl rfl <| ok_aloadn (pc' := 7) i188_6 rfl rfl <| ok_getfi (v := 1) (pc' := 10) i188_7 o188 gi9_66 (ShModel_k0 hS448) (rd_ni (by decide) (rd_na (by omega) (hld.trans hl))) rfl <| ok_kz1 (pc1 := 17) (pc2 := 13) i188_10 (by decide) rfl rfl <| ok_iconst (pc' := 18) i188_17 rfl <| ?_
          refine ok_iconst (pc' := 19) i188_18 rfl <| ok_cc i188_19 rfl (cl_v o188 m9_70 na165 rfl rfl (bt rfl) (bt rfl) rfl (by rw [ShModel_k0 hS448, o165])) ln165 (pd165 (aR 448) (aI 0) (aI 1)) <| ok_aloadn (pc' := 1) i165_0 rfl rfl <| ok_getfi (v := 0) (pc' := 4) i165_1 o165 gi9_63 (ShModel_k0 hS448) rd_eq rfl <| ok_kz0 (pc1 := 16) (pc2 := 7) i165_4 (by decide) rfl rfl <| ok_iloadn (pc' := 8) i165_7 rfl rfl <| ok_kz1 (pc1 := 16) (pc2 := 11) i165_8 (by decide) rfl rfl <| ok_aloadn (pc' := 17) i165_16 rfl rfl <| ?_
          refine ok_getfi (v := 0) (pc' := 20) i165_17 o165 gi9_63 (ShModel_k0 hS448) rd_eq rfl <| ok_kz1 (pc1 := 27) (pc2 := 23) i165_20 (by decide) rfl rfl <| ok_iconst (pc' := 28) i165_27 rfl <| ok_iretz i165_28 rt165 (by decide) <| kt_v (pc' := 22) rfl <| ok_iretz i188_22 rt188 (by decide) <| kt_v (pc' := 4) rfl <| ok_kz0 (pc1 := 58) (pc2 := 7) i260_4 (by decide) rfl rfl <| ?_
          refine ok_aloadn (pc' := 8) i260_7 rfl rfl <| ok_iloadn (pc' := 9) i260_8 rfl rfl <| ok_iconst (pc' := 10) i260_9 rfl <| ok_aloadn (pc' := 11) i260_10 rfl rfl <| ok_getfr (r := (448 + 5)) (pc' := 14) i260_11 o260 gr9_22 (ShModel_k0 hS448) (ShModel_r8 hS448) rfl <| ok_iconst (pc' := 15) i260_14 rfl <| ok_iaload (v := (s 5)) (pc' := 16) i260_15 (ShModel_k5 hS448) (by decide) (ShModel_l5 hS448) (by decide) (rd_na (by omega) (rd_na (by omega) (RepO_s hO))) rfl <| ok_iconst (pc' := 17) i260_16 rfl <| ?_
          refine ok_isub (v := ((s 5) - 1)) (pc' := 18) i260_17 rfl rfl <| ok_cc i260_18 rfl (cl_s o260 m9_140 na164 rfl rfl (bt rfl) (bt rfl) rfl) ln164 (pd164 (aI v1) (aI 0) (aI ((s 5) - 1))) <| ok_iloadn (pc' := 1) i164_0 rfl rfl <| ok_iloadn (pc' := 2) i164_1 rfl rfl <| ?_
          refine ok_clt (pc1 := 14) (pc2 := 5) i164_2 (by omega) rfl rfl (fun h9 => by exfalso; omega) (fun h509 => ?_)
          refine ok_iloadn (pc' := 6) i164_5 rfl rfl <| ok_iloadn (pc' := 7) i164_6 rfl rfl <| ?_
          refine ok_cgt (pc1 := 14) (pc2 := 10) i164_7 (by omega) rfl rfl (fun h9 => by exfalso; omega) (fun h510 => ?_)
          refine ok_iconst (pc' := 11) i164_10 rfl <| ok_goto (pc' := 15) i164_11 rfl <| ok_iretz i164_15 rt164 (by decide) <| kt_v (pc' := 21) rfl <| ok_kz1 (pc1 := 28) (pc2 := 24) i260_21 (by decide) rfl rfl <| ok_iconst (pc' := 29) i260_28 rfl <| ok_iconst (pc' := 30) i260_29 rfl <| ok_cc i260_30 rfl (cl_v o260 m9_70 na165 rfl rfl (bt rfl) (bt rfl) rfl (by rw [ShModel_k0 hS448, o165])) ln165 (pd165 (aR 448) (aI 0) (aI 2)) <| ?_
          refine ok_aloadn (pc' := 1) i165_0 rfl rfl <| ok_getfi (v := 0) (pc' := 4) i165_1 o165 gi9_63 (ShModel_k0 hS448) rd_eq rfl <| ok_kz0 (pc1 := 16) (pc2 := 7) i165_4 (by decide) rfl rfl <| ok_iloadn (pc' := 8) i165_7 rfl rfl <| ok_kz1 (pc1 := 16) (pc2 := 11) i165_8 (by decide) rfl rfl <| ok_aloadn (pc' := 17) i165_16 rfl rfl <| ok_getfi (v := 0) (pc' := 20) i165_17 o165 gi9_63 (ShModel_k0 hS448) rd_eq rfl <| ok_kz1 (pc1 := 27) (pc2 := 23) i165_20 (by decide) rfl rfl <| ?_
          refine ok_iconst (pc' := 28) i165_27 rfl <| ok_iretz i165_28 rt165 (by decide) <| kt_v (pc' := 33) rfl <| ok_kz0 (pc1 := 58) (pc2 := 36) i260_33 (by decide) rfl rfl <| ok_aloadn (pc' := 37) i260_36 rfl rfl <| ok_iloadn (pc' := 38) i260_37 rfl rfl <| ok_iconst (pc' := 39) i260_38 rfl <| ok_iconst (pc' := 40) i260_39 rfl <| ?_
          refine ok_cc i260_40 rfl (cl_s o260 m9_140 na164 rfl rfl (bt rfl) (bt rfl) rfl) ln164 (pd164 (aI v2) (aI 0) (aI 3)) <| ok_iloadn (pc' := 1) i164_0 rfl rfl <| ok_iloadn (pc' := 2) i164_1 rfl rfl <| ?_
          refine ok_clt (pc1 := 14) (pc2 := 5) i164_2 (by omega) rfl rfl (fun h9 => by exfalso; omega) (fun h511 => ?_)
          refine ok_iloadn (pc' := 6) i164_5 rfl rfl <| ok_iloadn (pc' := 7) i164_6 rfl rfl <| ?_
          refine ok_cgt (pc1 := 14) (pc2 := 10) i164_7 (by omega) rfl rfl (fun h9 => by exfalso; omega) (fun h512 => ?_)
          refine ok_iconst (pc' := 11) i164_10 rfl <| ok_goto (pc' := 15) i164_11 rfl <| ok_iretz i164_15 rt164 (by decide) <| kt_v (pc' := 43) rfl <| ok_kz1 (pc1 := 50) (pc2 := 46) i260_43 (by decide) rfl rfl <| ok_iconst (pc' := 51) i260_50 rfl <| ok_iconst (pc' := 52) i260_51 rfl <| ok_cc i260_52 rfl (cl_v o260 m9_70 na165 rfl rfl (bt rfl) (bt rfl) rfl (by rw [ShModel_k0 hS448, o165])) ln165 (pd165 (aR 448) (aI 0) (aI 3)) <| ?_
          refine ok_aloadn (pc' := 1) i165_0 rfl rfl <| ok_getfi (v := 0) (pc' := 4) i165_1 o165 gi9_63 (ShModel_k0 hS448) rd_eq rfl <| ok_kz0 (pc1 := 16) (pc2 := 7) i165_4 (by decide) rfl rfl <| ok_iloadn (pc' := 8) i165_7 rfl rfl <| ok_kz1 (pc1 := 16) (pc2 := 11) i165_8 (by decide) rfl rfl <| ok_aloadn (pc' := 17) i165_16 rfl rfl <| ok_getfi (v := 0) (pc' := 20) i165_17 o165 gi9_63 (ShModel_k0 hS448) rd_eq rfl <| ok_kz1 (pc1 := 27) (pc2 := 23) i165_20 (by decide) rfl rfl <| ?_
          refine ok_iconst (pc' := 28) i165_27 rfl <| ok_iretz i165_28 rt165 (by decide) <| kt_v (pc' := 55) rfl <| ok_kz1 (pc1 := 62) (pc2 := 58) i260_55 (by decide) rfl rfl <| ok_aloadn (pc' := 63) i260_62 rfl rfl <| ok_getfr (r := (448 + 5)) (pc' := 66) i260_63 o260 gr9_22 (ShModel_k0 hS448) (ShModel_r8 hS448) rfl <| ok_sipush (v := 743) (pc' := 69) i260_66 rfl rfl <| ok_iconst (pc' := 70) i260_69 rfl <| ?_
          refine ok_iloadn (pc' := 71) i260_70 rfl rfl <| ok_imul (v := (4 * v1)) (pc' := 72) i260_71 rfl rfl <| ok_iadd (v := (743 + (4 * v1))) (pc' := 73) i260_72 rfl rfl <| ok_iloadn (pc' := 74) i260_73 rfl rfl <| ok_iadd (v := ((743 + (4 * v1)) + v2)) (pc' := 75) i260_74 rfl rfl <| ok_iaload (v := (s ((743 + (4 * v1)) + v2))) (pc' := 76) i260_75 (ShModel_k5 hS448) (by decide) (ShModel_l5 hS448) (by omega) (rd_na (by omega) (rd_na (by omega) (RepO_s hO))) rfl <| ok_ireti i260_76 rt260 <| kt_v (pc' := 2407) rfl <| ?_
          refine ok_istore (pc' := 2409) (ls' := [aR 1, aR 100, aR 448, aR 464, aR 465, aI i, aI 0, aI (s ((743 + (4 * v1)) + v2)), w8]) i0_2407 (bt rfl) rfl rfl <| ok_aloadn (pc' := 2410) i0_2409 rfl rfl <| ok_cc i0_2410 rfl (cl_v o0 m13_188 na157 rfl rfl (bt rfl) (bt rfl) rfl (by rw [ShModel_k0 hS448, o157])) ln157 (pd157 (aR 448)) <| ok_aloadn (pc' := 1) i157_0 rfl rfl <| ok_getfi (v := 0) (pc' := 4) i157_1 o157 gi9_63 (ShModel_k0 hS448) rd_eq rfl <| ok_ireti i157_4 rt157 <| kt_v (pc' := 2413) rfl <| ok_iload (pc' := 2415) i0_2413 rfl rfl <| ?_
          refine ok_kc1 (pc1 := 2420) (pc2 := 2418) i0_2415 (by decide) rfl rfl <| ok_iload (pc' := 2422) i0_2420 rfl rfl <| ok_kz0 (pc1 := 2437) (pc2 := 2425) i0_2422 (by decide) rfl rfl <| ok_aloadn (pc' := 2426) i0_2425 rfl rfl <| ok_iconst (pc' := 2427) i0_2426 rfl <| ok_laload (v := (wr (s ((743 + (4 * v1)) + v2)))) (pc' := 2428) i0_2427 (ShOut_k0 hS464) (ShOut_l0 hS464) (by decide) (rd_na (by omega) rd_eq) rfl <| ok_iload (pc' := 2430) i0_2428 rfl rfl <| ok_i2l (v := (wr (s ((743 + (4 * v1)) + v2)))) (pc' := 2431) i0_2430 rfl rfl <| ?_
          refine ok_lcmp0 (pc' := 2432) i0_2431 rfl <| ok_kz1 (pc1 := 2437) (pc2 := 2435) i0_2432 (by decide) rfl rfl <| ok_goto (pc' := 3329) i0_2437 rfl <| ?_
          exact K _ _ _ _ _ _ hD (by omega) (Inv_mono (Inv_same hI (Same.thr (Same.out Same.rfl))) (by omega))
        · refine ok_throw th104_10 (bt rfl) <| kt_x hh138 <| kt_h hn313 hf313_5_11 hr313_21 <| kt_v (pc' := 2389) rfl <| ?_
          refine ok_al hD (fun g hD => ?_)
          have hS448 := HD_o hD
          have hS1 := HD_s hD
          have hS464 := HD_u hD
          have hS465 := HD_ud hD
          refine ok_istore (pc' := 2391) (ls' := [aR 1, aR 100, aR 448, aR 464, aR 465, aI i, aI 3, w7, w8]) i0_2389 (bt rfl) rfl rfl <| ok_aloadn (pc' := 2392) i0_2391 rfl rfl <| ok_aloadn (pc' := 2393) i0_2392 rfl rfl <| ok_iload (pc' := 2395) i0_2393 rfl rfl <| ok_iconst (pc' := 2396) i0_2395 rfl <| ok_iadd (v := (i + 1)) (pc' := 2397) i0_2396 rfl rfl <| ok_iaload (v := v1) (pc' := 2398) i0_2397 (ShScr_k0 hS1) (by decide) (ShScr_l0 hS1) (by omega) hv1 rfl <| ok_aloadn (pc' := 2399) i0_2398 rfl rfl <| ?_
          refine ok_iload (pc' := 2401) i0_2399 rfl rfl <| ok_iconst (pc' := 2402) i0_2401 rfl <| ok_iadd (v := (i + 2)) (pc' := 2403) i0_2402 rfl rfl <| ok_iaload (v := v2) (pc' := 2404) i0_2403 (ShScr_k0 hS1) (by decide) (ShScr_l0 hS1) (by omega) hv2 rfl <| ok_cc i0_2404 rfl (cl_v o0 m13_316 na260 rfl rfl (bt rfl) (bt rfl) rfl (by rw [ShModel_k0 hS448, o260])) ln260 (pd260 (aR 448) (aI v1) (aI v2)) <| ok_aloadn (pc' := 1) i260_0 rfl rfl <| ok_cc i260_1 rfl (cl_v o260 m9_216 na188 rfl rfl (bt rfl) (bt rfl) rfl (by rw [ShModel_k0 hS448, o188])) ln188 (pd188 (aR 448)) <| ok_aloadn (pc' := 1) i188_0 rfl rfl <| ?_
          refine ok_iconst (pc' := 2) i188_1 rfl <| ok_putfj (kk := 0) (pc' := 5) i188_2 o188 pi188_63 (ShModel_k0 hS448) rfl rfl <| ok_aloadn (pc' := 6) i188_5 rfl rfl <| ok_aloadn (pc' := 7) i188_6 rfl rfl <| ok_getfi (v := 1) (pc' := 10) i188_7 o188 gi9_66 (ShModel_k0 hS448) (rd_ni (by decide) (hld.trans hl)) rfl <| ok_kz1 (pc1 := 17) (pc2 := 13) i188_10 (by decide) rfl rfl <| ok_iconst (pc' := 18) i188_17 rfl <| ok_iconst (pc' := 19) i188_18 rfl <| ?_
          refine ok_cc i188_19 rfl (cl_v o188 m9_70 na165 rfl rfl (bt rfl) (bt rfl) rfl (by rw [ShModel_k0 hS448, o165])) ln165 (pd165 (aR 448) (aI 0) (aI 1)) <| ok_aloadn (pc' := 1) i165_0 rfl rfl <| ok_getfi (v := 0) (pc' := 4) i165_1 o165 gi9_63 (ShModel_k0 hS448) rd_eq rfl <| ok_kz0 (pc1 := 16) (pc2 := 7) i165_4 (by decide) rfl rfl <| ok_iloadn (pc' := 8) i165_7 rfl rfl <| ok_kz1 (pc1 := 16) (pc2 := 11) i165_8 (by decide) rfl rfl <| ok_aloadn (pc' := 17) i165_16 rfl rfl <| ok_getfi (v := 0) (pc' := 20) i165_17 o165 gi9_63 (ShModel_k0 hS448) rd_eq rfl <| ?_
          refine ok_kz1 (pc1 := 27) (pc2 := 23) i165_20 (by decide) rfl rfl <| ok_iconst (pc' := 28) i165_27 rfl <| ok_iretz i165_28 rt165 (by decide) <| kt_v (pc' := 22) rfl <| ok_iretz i188_22 rt188 (by decide) <| kt_v (pc' := 4) rfl <| ok_kz0 (pc1 := 58) (pc2 := 7) i260_4 (by decide) rfl rfl <| ok_aloadn (pc' := 8) i260_7 rfl rfl <| ?_
          refine ok_iloadn (pc' := 9) i260_8 rfl rfl <| ok_iconst (pc' := 10) i260_9 rfl <| ok_aloadn (pc' := 11) i260_10 rfl rfl <| ok_getfr (r := (448 + 5)) (pc' := 14) i260_11 o260 gr9_22 (ShModel_k0 hS448) (ShModel_r8 hS448) rfl <| ok_iconst (pc' := 15) i260_14 rfl <| ok_iaload (v := (s 5)) (pc' := 16) i260_15 (ShModel_k5 hS448) (by decide) (ShModel_l5 hS448) (by decide) (rd_na (by omega) (RepO_s hO)) rfl <| ok_iconst (pc' := 17) i260_16 rfl <| ok_isub (v := ((s 5) - 1)) (pc' := 18) i260_17 rfl rfl <| ?_
          refine ok_cc i260_18 rfl (cl_s o260 m9_140 na164 rfl rfl (bt rfl) (bt rfl) rfl) ln164 (pd164 (aI v1) (aI 0) (aI ((s 5) - 1))) <| ok_iloadn (pc' := 1) i164_0 rfl rfl <| ok_iloadn (pc' := 2) i164_1 rfl rfl <| ?_
          refine ok_clt (pc1 := 14) (pc2 := 5) i164_2 (by omega) rfl rfl (fun h9 => by exfalso; omega) (fun h513 => ?_)
          refine ok_iloadn (pc' := 6) i164_5 rfl rfl <| ok_iloadn (pc' := 7) i164_6 rfl rfl <| ?_
          refine ok_cgt (pc1 := 14) (pc2 := 10) i164_7 (by omega) rfl rfl (fun h9 => by exfalso; omega) (fun h514 => ?_)
          refine ok_iconst (pc' := 11) i164_10 rfl <| ok_goto (pc' := 15) i164_11 rfl <| ok_iretz i164_15 rt164 (by decide) <| kt_v (pc' := 21) rfl <| ok_kz1 (pc1 := 28) (pc2 := 24) i260_21 (by decide) rfl rfl <| ok_iconst (pc' := 29) i260_28 rfl <| ok_iconst (pc' := 30) i260_29 rfl <| ok_cc i260_30 rfl (cl_v o260 m9_70 na165 rfl rfl (bt rfl) (bt rfl) rfl (by rw [ShModel_k0 hS448, o165])) ln165 (pd165 (aR 448) (aI 0) (aI 2)) <| ?_
          refine ok_aloadn (pc' := 1) i165_0 rfl rfl <| ok_getfi (v := 0) (pc' := 4) i165_1 o165 gi9_63 (ShModel_k0 hS448) rd_eq rfl <| ok_kz0 (pc1 := 16) (pc2 := 7) i165_4 (by decide) rfl rfl <| ok_iloadn (pc' := 8) i165_7 rfl rfl <| ok_kz1 (pc1 := 16) (pc2 := 11) i165_8 (by decide) rfl rfl <| ok_aloadn (pc' := 17) i165_16 rfl rfl <| ok_getfi (v := 0) (pc' := 20) i165_17 o165 gi9_63 (ShModel_k0 hS448) rd_eq rfl <| ok_kz1 (pc1 := 27) (pc2 := 23) i165_20 (by decide) rfl rfl <| ?_
          refine ok_iconst (pc' := 28) i165_27 rfl <| ok_iretz i165_28 rt165 (by decide) <| kt_v (pc' := 33) rfl <| ok_kz0 (pc1 := 58) (pc2 := 36) i260_33 (by decide) rfl rfl <| ok_aloadn (pc' := 37) i260_36 rfl rfl <| ok_iloadn (pc' := 38) i260_37 rfl rfl <| ok_iconst (pc' := 39) i260_38 rfl <| ok_iconst (pc' := 40) i260_39 rfl <| ?_
          refine ok_cc i260_40 rfl (cl_s o260 m9_140 na164 rfl rfl (bt rfl) (bt rfl) rfl) ln164 (pd164 (aI v2) (aI 0) (aI 3)) <| ok_iloadn (pc' := 1) i164_0 rfl rfl <| ok_iloadn (pc' := 2) i164_1 rfl rfl <| ?_
          refine ok_clt (pc1 := 14) (pc2 := 5) i164_2 (by omega) rfl rfl (fun h9 => by exfalso; omega) (fun h515 => ?_)
          refine ok_iloadn (pc' := 6) i164_5 rfl rfl <| ok_iloadn (pc' := 7) i164_6 rfl rfl <| ?_
          refine ok_cgt (pc1 := 14) (pc2 := 10) i164_7 (by omega) rfl rfl (fun h516 => ?_) (fun h9 => by exfalso; omega)
          refine ok_iconst (pc' := 15) i164_14 rfl <| ok_iretz i164_15 rt164 (by decide) <| kt_v (pc' := 43) rfl <| ok_kz0 (pc1 := 50) (pc2 := 46) i260_43 (by decide) rfl rfl <| ok_iconst (pc' := 47) i260_46 rfl <| ok_goto (pc' := 51) i260_47 rfl <| ok_iconst (pc' := 52) i260_51 rfl <| ok_cc i260_52 rfl (cl_v o260 m9_70 na165 rfl rfl (bt rfl) (bt rfl) rfl (by rw [ShModel_k0 hS448, o165])) ln165 (pd165 (aR 448) (aI 1) (aI 3)) <| ?_
          refine ok_aloadn (pc' := 1) i165_0 rfl rfl <| ok_getfi (v := 0) (pc' := 4) i165_1 o165 gi9_63 (ShModel_k0 hS448) rd_eq rfl <| ok_kz0 (pc1 := 16) (pc2 := 7) i165_4 (by decide) rfl rfl <| ok_iloadn (pc' := 8) i165_7 rfl rfl <| ok_kz0 (pc1 := 16) (pc2 := 11) i165_8 (by decide) rfl rfl <| ok_aloadn (pc' := 12) i165_11 rfl rfl <| ok_iloadn (pc' := 13) i165_12 rfl rfl <| ok_putfj (kk := 0) (pc' := 16) i165_13 o165 pi165_63 (ShModel_k0 hS448) rfl rfl <| ?_
          refine ok_aloadn (pc' := 17) i165_16 rfl rfl <| ok_getfi (v := 3) (pc' := 20) i165_17 o165 gi9_63 (ShModel_k0 hS448) rd_eq rfl <| ok_kz0 (pc1 := 27) (pc2 := 23) i165_20 (by decide) rfl rfl <| ok_iconst (pc' := 24) i165_23 rfl <| ok_goto (pc' := 28) i165_24 rfl <| ok_iretz i165_28 rt165 (by decide) <| kt_v (pc' := 55) rfl <| ok_kz0 (pc1 := 62) (pc2 := 58) i260_55 (by decide) rfl rfl <| ?_
          refine ok_iconst (pc' := 59) i260_58 rfl <| ok_goto (pc' := 76) i260_59 rfl <| ok_ireti i260_76 rt260 <| kt_v (pc' := 2407) rfl <| ok_istore (pc' := 2409) (ls' := [aR 1, aR 100, aR 448, aR 464, aR 465, aI i, aI 3, aI 0, w8]) i0_2407 (bt rfl) rfl rfl <| ok_aloadn (pc' := 2410) i0_2409 rfl rfl <| ok_cc i0_2410 rfl (cl_v o0 m13_188 na157 rfl rfl (bt rfl) (bt rfl) rfl (by rw [ShModel_k0 hS448, o157])) ln157 (pd157 (aR 448)) <| ok_aloadn (pc' := 1) i157_0 rfl rfl <| ?_
          refine ok_getfi (v := 3) (pc' := 4) i157_1 o157 gi9_63 (ShModel_k0 hS448) rd_eq rfl <| ok_ireti i157_4 rt157 <| kt_v (pc' := 2413) rfl <| ok_iload (pc' := 2415) i0_2413 rfl rfl <| ok_kc1 (pc1 := 2420) (pc2 := 2418) i0_2415 (by decide) rfl rfl <| ok_iload (pc' := 2422) i0_2420 rfl rfl <| ok_kz1 (pc1 := 2437) (pc2 := 2425) i0_2422 (by decide) rfl rfl <| ok_goto (pc' := 3329) i0_2437 rfl <| ?_
          exact K _ _ _ _ _ _ hD (by omega) (Inv_mono (Inv_same hI (Same.thr (Same.thr Same.rfl))) (by omega))
    · refine ok_throw th138_19 (bt rfl) <| kt_h hn313 hf313_5_10 hr313_17 <| kt_v (pc' := 2389) rfl <| ?_
      refine ok_al hD (fun g hD => ?_)
      have hS448 := HD_o hD
      have hS1 := HD_s hD
      have hS464 := HD_u hD
      have hS465 := HD_ud hD
      refine ok_istore (pc' := 2391) (ls' := [aR 1, aR 100, aR 448, aR 464, aR 465, aI i, aI 2, w7, w8]) i0_2389 (bt rfl) rfl rfl <| ok_aloadn (pc' := 2392) i0_2391 rfl rfl <| ok_aloadn (pc' := 2393) i0_2392 rfl rfl <| ok_iload (pc' := 2395) i0_2393 rfl rfl <| ok_iconst (pc' := 2396) i0_2395 rfl <| ok_iadd (v := (i + 1)) (pc' := 2397) i0_2396 rfl rfl <| ok_iaload (v := v1) (pc' := 2398) i0_2397 (ShScr_k0 hS1) (by decide) (ShScr_l0 hS1) (by omega) hv1 rfl <| ok_aloadn (pc' := 2399) i0_2398 rfl rfl <| ?_
      refine ok_iload (pc' := 2401) i0_2399 rfl rfl <| ok_iconst (pc' := 2402) i0_2401 rfl <| ok_iadd (v := (i + 2)) (pc' := 2403) i0_2402 rfl rfl <| ok_iaload (v := v2) (pc' := 2404) i0_2403 (ShScr_k0 hS1) (by decide) (ShScr_l0 hS1) (by omega) hv2 rfl <| ok_cc i0_2404 rfl (cl_v o0 m13_316 na260 rfl rfl (bt rfl) (bt rfl) rfl (by rw [ShModel_k0 hS448, o260])) ln260 (pd260 (aR 448) (aI v1) (aI v2)) <| ok_aloadn (pc' := 1) i260_0 rfl rfl <| ok_cc i260_1 rfl (cl_v o260 m9_216 na188 rfl rfl (bt rfl) (bt rfl) rfl (by rw [ShModel_k0 hS448, o188])) ln188 (pd188 (aR 448)) <| ok_aloadn (pc' := 1) i188_0 rfl rfl <| ?_
      refine ok_iconst (pc' := 2) i188_1 rfl <| ok_putfj (kk := 0) (pc' := 5) i188_2 o188 pi188_63 (ShModel_k0 hS448) rfl rfl <| ok_aloadn (pc' := 6) i188_5 rfl rfl <| ok_aloadn (pc' := 7) i188_6 rfl rfl <| ok_getfi (v := 1) (pc' := 10) i188_7 o188 gi9_66 (ShModel_k0 hS448) (rd_ni (by decide) (hld.trans hl)) rfl <| ok_kz1 (pc1 := 17) (pc2 := 13) i188_10 (by decide) rfl rfl <| ok_iconst (pc' := 18) i188_17 rfl <| ok_iconst (pc' := 19) i188_18 rfl <| ?_
      refine ok_cc i188_19 rfl (cl_v o188 m9_70 na165 rfl rfl (bt rfl) (bt rfl) rfl (by rw [ShModel_k0 hS448, o165])) ln165 (pd165 (aR 448) (aI 0) (aI 1)) <| ok_aloadn (pc' := 1) i165_0 rfl rfl <| ok_getfi (v := 0) (pc' := 4) i165_1 o165 gi9_63 (ShModel_k0 hS448) rd_eq rfl <| ok_kz0 (pc1 := 16) (pc2 := 7) i165_4 (by decide) rfl rfl <| ok_iloadn (pc' := 8) i165_7 rfl rfl <| ok_kz1 (pc1 := 16) (pc2 := 11) i165_8 (by decide) rfl rfl <| ok_aloadn (pc' := 17) i165_16 rfl rfl <| ok_getfi (v := 0) (pc' := 20) i165_17 o165 gi9_63 (ShModel_k0 hS448) rd_eq rfl <| ?_
      refine ok_kz1 (pc1 := 27) (pc2 := 23) i165_20 (by decide) rfl rfl <| ok_iconst (pc' := 28) i165_27 rfl <| ok_iretz i165_28 rt165 (by decide) <| kt_v (pc' := 22) rfl <| ok_iretz i188_22 rt188 (by decide) <| kt_v (pc' := 4) rfl <| ok_kz0 (pc1 := 58) (pc2 := 7) i260_4 (by decide) rfl rfl <| ok_aloadn (pc' := 8) i260_7 rfl rfl <| ?_
      refine ok_iloadn (pc' := 9) i260_8 rfl rfl <| ok_iconst (pc' := 10) i260_9 rfl <| ok_aloadn (pc' := 11) i260_10 rfl rfl <| ok_getfr (r := (448 + 5)) (pc' := 14) i260_11 o260 gr9_22 (ShModel_k0 hS448) (ShModel_r8 hS448) rfl <| ok_iconst (pc' := 15) i260_14 rfl <| ok_iaload (v := (s 5)) (pc' := 16) i260_15 (ShModel_k5 hS448) (by decide) (ShModel_l5 hS448) (by decide) (rd_na (by omega) (RepO_s hO)) rfl <| ok_iconst (pc' := 17) i260_16 rfl <| ok_isub (v := ((s 5) - 1)) (pc' := 18) i260_17 rfl rfl <| ?_
      refine ok_cc i260_18 rfl (cl_s o260 m9_140 na164 rfl rfl (bt rfl) (bt rfl) rfl) ln164 (pd164 (aI v1) (aI 0) (aI ((s 5) - 1))) <| ok_iloadn (pc' := 1) i164_0 rfl rfl <| ok_iloadn (pc' := 2) i164_1 rfl rfl <| ?_
      refine ok_clt (pc1 := 14) (pc2 := 5) i164_2 (by omega) rfl rfl (fun h9 => by exfalso; omega) (fun h517 => ?_)
      refine ok_iloadn (pc' := 6) i164_5 rfl rfl <| ok_iloadn (pc' := 7) i164_6 rfl rfl <| ?_
      refine ok_cgt (pc1 := 14) (pc2 := 10) i164_7 (by omega) rfl rfl (fun h518 => ?_) (fun h9 => by exfalso; omega)
      refine ok_iconst (pc' := 15) i164_14 rfl <| ok_iretz i164_15 rt164 (by decide) <| kt_v (pc' := 21) rfl <| ok_kz0 (pc1 := 28) (pc2 := 24) i260_21 (by decide) rfl rfl <| ok_iconst (pc' := 25) i260_24 rfl <| ok_goto (pc' := 29) i260_25 rfl <| ok_iconst (pc' := 30) i260_29 rfl <| ok_cc i260_30 rfl (cl_v o260 m9_70 na165 rfl rfl (bt rfl) (bt rfl) rfl (by rw [ShModel_k0 hS448, o165])) ln165 (pd165 (aR 448) (aI 1) (aI 2)) <| ?_
      refine ok_aloadn (pc' := 1) i165_0 rfl rfl <| ok_getfi (v := 0) (pc' := 4) i165_1 o165 gi9_63 (ShModel_k0 hS448) rd_eq rfl <| ok_kz0 (pc1 := 16) (pc2 := 7) i165_4 (by decide) rfl rfl <| ok_iloadn (pc' := 8) i165_7 rfl rfl <| ok_kz0 (pc1 := 16) (pc2 := 11) i165_8 (by decide) rfl rfl <| ok_aloadn (pc' := 12) i165_11 rfl rfl <| ok_iloadn (pc' := 13) i165_12 rfl rfl <| ok_putfj (kk := 0) (pc' := 16) i165_13 o165 pi165_63 (ShModel_k0 hS448) rfl rfl <| ?_
      refine ok_aloadn (pc' := 17) i165_16 rfl rfl <| ok_getfi (v := 2) (pc' := 20) i165_17 o165 gi9_63 (ShModel_k0 hS448) rd_eq rfl <| ok_kz0 (pc1 := 27) (pc2 := 23) i165_20 (by decide) rfl rfl <| ok_iconst (pc' := 24) i165_23 rfl <| ok_goto (pc' := 28) i165_24 rfl <| ok_iretz i165_28 rt165 (by decide) <| kt_v (pc' := 33) rfl <| ok_kz1 (pc1 := 58) (pc2 := 36) i260_33 (by decide) rfl rfl <| ?_
      refine ok_iconst (pc' := 59) i260_58 rfl <| ok_goto (pc' := 76) i260_59 rfl <| ok_ireti i260_76 rt260 <| kt_v (pc' := 2407) rfl <| ok_istore (pc' := 2409) (ls' := [aR 1, aR 100, aR 448, aR 464, aR 465, aI i, aI 2, aI 0, w8]) i0_2407 (bt rfl) rfl rfl <| ok_aloadn (pc' := 2410) i0_2409 rfl rfl <| ok_cc i0_2410 rfl (cl_v o0 m13_188 na157 rfl rfl (bt rfl) (bt rfl) rfl (by rw [ShModel_k0 hS448, o157])) ln157 (pd157 (aR 448)) <| ok_aloadn (pc' := 1) i157_0 rfl rfl <| ?_
      refine ok_getfi (v := 2) (pc' := 4) i157_1 o157 gi9_63 (ShModel_k0 hS448) rd_eq rfl <| ok_ireti i157_4 rt157 <| kt_v (pc' := 2413) rfl <| ok_iload (pc' := 2415) i0_2413 rfl rfl <| ok_kc1 (pc1 := 2420) (pc2 := 2418) i0_2415 (by decide) rfl rfl <| ok_iload (pc' := 2422) i0_2420 rfl rfl <| ok_kz1 (pc1 := 2437) (pc2 := 2425) i0_2422 (by decide) rfl rfl <| ok_goto (pc' := 3329) i0_2437 rfl <| ?_
      exact K _ _ _ _ _ _ hD (by omega) (Inv_mono (Inv_same hI (Same.thr (Same.thr Same.rfl))) (by omega))
theorem c6_1_0 {L n : Nat} {g : AG} {M : AM} {xs : Nat → Int32} {b i : Int} {w6 w7 w8 : AV} {Q : AO → AG → AM → Prop} (hD : HD L n g) (hI : Inv xs b M) (hi : 0 ≤ i ∧ i + 6 ≤ L) (hb : 0 ≤ b ∧ b ≤ 900000) (hl : M 100 6 = 1) (hc1 : M 1 (i + 1) = 0) (K : KK L n i b xs Q) :
    Ok 10 0 469 [aR 1, aR 100, aR 448, aR 464, aR 465, aI i, w6, w7, w8] [] g M Q := by
  have hI0 := hI
  obtain ⟨hA, hld, hl01, q, hc, ⟨nx, sz, hH, hsz⟩, hS⟩ := hI0
  have hH0 := hH
  obtain ⟨⟨hn1, hn0⟩, ⟨hz2, hz0⟩, h10, hHj⟩ := hH0
  obtain ⟨hw0, ⟨bu, by_, hb1, hb13, hbu, hZ, hU⟩, he3, he4, he5, hId, tx, hT, hUt, htl, htr⟩ := hA
  obtain ⟨s, hP, hRB, hO, hV, hQ, h40⟩ := hc hl
  have ys3 := V_3 hV
  have ys4 := V_4 hV
  have yq0 := Q_0 hQ
  have yq1 := Q_1 hQ
  obtain ⟨v1, hv1⟩ : ∃ u9 : Int, M 1 (i + 1) = u9 := ⟨_, rfl⟩
  have hr1 : -2147483648 ≤ v1 ∧ v1 < 2147483648 := hv1 ▸ scr_rg hw0 (i + 1)
  have hS1 := HD_s hD
  have hS100 := HD_y hD
  have hS138 := HD_p hD
  have hS448 := HD_o hD
  have hS464 := HD_u hD
  refine ok_aloadn (pc' := 470) i0_469 rfl rfl <| ok_aloadn (pc' := 471) i0_470 rfl rfl <| ok_iload (pc' := 473) i0_471 rfl rfl <| ok_iconst (pc' := 474) i0_473 rfl <| ok_iadd (v := (i + 1)) (pc' := 475) i0_474 rfl rfl <| ok_iaload (v := 0) (pc' := 476) i0_475 (ShScr_k0 hS1) (by decide) (ShScr_l0 hS1) (by omega) hc1 rfl <| ok_aloadn (pc' := 477) i0_476 rfl rfl <| ok_cc i0_477 rfl (cl_s o0 m13_207 na280 rfl rfl (bt rfl) (bt rfl) rfl) ln280 (pd280 (aR 100) (aI 0) (aR 464)) <| ?_
  refine ok_aloadn (pc' := 1) i280_0 rfl rfl <| ok_iconst (pc' := 2) i280_1 rfl <| ok_aloadn (pc' := 3) i280_2 rfl rfl <| ok_iloadn (pc' := 4) i280_3 rfl rfl <| ok_cc i280_4 rfl (cl_v o280 m13_17 na98 rfl rfl (bt rfl) (bt rfl) rfl (by rw [ShYard_k0 hS100, o98])) ln98 (pd98 (aR 100) (aI 0)) <| ok_aloadn (pc' := 1) i98_0 rfl rfl <| ok_cc i98_1 rfl (cl_v o98 m0_132 na99 rfl rfl (bt rfl) (bt rfl) rfl (by rw [ShYard_k0 hS100, o99])) ln99 (pd99 (aR 100)) <| ok_aloadn (pc' := 1) i99_0 rfl rfl <| ?_
  refine ok_getfi (v := 1) (pc' := 4) i99_1 o99 gi0_268 (ShYard_k0 hS100) hl rfl <| ok_kz1 (pc1 := 18) (pc2 := 7) i99_4 (by decide) rfl rfl <| ok_vret i99_18 rt99 <| kt_0 (pc' := 4) rfl <| ok_iloadn (pc' := 5) i98_4 rfl rfl <| ok_tsw (pc' := 52) (off := 47) i98_5 ⟨by decide, by decide⟩ (Or.inl ⟨by decide, by decide, rfl⟩) rfl <| ok_aloadn (pc' := 53) i98_52 rfl rfl <| ok_getfr (r := 138) (pc' := 56) i98_53 o98 gr0_32 (ShYard_k0 hS100) (ShYard_r7 hS100) rfl <| ?_
  refine ok_getfi (v := (q 0)) (pc' := 59) i98_56 o98 gi0_135 (ShPlan_k0 hS138) (RepP_f0 hP) rfl <| ok_ireti i98_59 rt98 <| kt_v (pc' := 7) rfl <| ok_i2l (v := (wr (q 0))) (pc' := 8) i280_7 rfl rfl <| ok_lastore (pc' := 9) i280_8 (ShOut_k0 hS464) (ShOut_l0 hS464) (by decide) rfl <| ok_goto (pc' := 18) i280_9 rfl <| ok_iconst (pc' := 19) i280_18 rfl <| ok_ireti i280_19 rt280 <| ?_
  refine kt_v (pc' := 480) rfl <| ok_istore (pc' := 482) (ls' := [aR 1, aR 100, aR 448, aR 464, aR 465, aI i, aI 0, w7, w8]) i0_480 (bt rfl) rfl rfl <| ok_aloadn (pc' := 483) i0_482 rfl rfl <| ok_aloadn (pc' := 484) i0_483 rfl rfl <| ok_iload (pc' := 486) i0_484 rfl rfl <| ok_iconst (pc' := 487) i0_486 rfl <| ok_iadd (v := (i + 1)) (pc' := 488) i0_487 rfl rfl <| ok_iaload (v := 0) (pc' := 489) i0_488 (ShScr_k0 hS1) (by decide) (ShScr_l0 hS1) (by omega) (rd_na (by omega) hc1) rfl <| ?_
  refine ok_cc i0_489 rfl (cl_v o0 m13_209 na187 rfl rfl (bt rfl) (bt rfl) rfl (by rw [ShModel_k0 hS448, o187])) ln187 (pd187 (aR 448) (aI 0)) <| ok_aloadn (pc' := 1) i187_0 rfl rfl <| ok_cc i187_1 rfl (cl_v o187 m9_216 na188 rfl rfl (bt rfl) (bt rfl) rfl (by rw [ShModel_k0 hS448, o188])) ln188 (pd188 (aR 448)) <| ok_aloadn (pc' := 1) i188_0 rfl rfl <| ok_iconst (pc' := 2) i188_1 rfl <| ok_putfj (kk := 0) (pc' := 5) i188_2 o188 pi188_63 (ShModel_k0 hS448) rfl rfl <| ok_aloadn (pc' := 6) i188_5 rfl rfl <| ok_aloadn (pc' := 7) i188_6 rfl rfl <| ?_
  refine ok_getfi (v := 1) (pc' := 10) i188_7 o188 gi9_66 (ShModel_k0 hS448) (rd_ni (by decide) (rd_na (by omega) (hld.trans hl))) rfl <| ok_kz1 (pc1 := 17) (pc2 := 13) i188_10 (by decide) rfl rfl <| ok_iconst (pc' := 18) i188_17 rfl <| ok_iconst (pc' := 19) i188_18 rfl <| ok_cc i188_19 rfl (cl_v o188 m9_70 na165 rfl rfl (bt rfl) (bt rfl) rfl (by rw [ShModel_k0 hS448, o165])) ln165 (pd165 (aR 448) (aI 0) (aI 1)) <| ok_aloadn (pc' := 1) i165_0 rfl rfl <| ok_getfi (v := 0) (pc' := 4) i165_1 o165 gi9_63 (ShModel_k0 hS448) rd_eq rfl <| ok_kz0 (pc1 := 16) (pc2 := 7) i165_4 (by decide) rfl rfl <| ?_
  refine ok_iloadn (pc' := 8) i165_7 rfl rfl <| ok_kz1 (pc1 := 16) (pc2 := 11) i165_8 (by decide) rfl rfl <| ok_aloadn (pc' := 17) i165_16 rfl rfl <| ok_getfi (v := 0) (pc' := 20) i165_17 o165 gi9_63 (ShModel_k0 hS448) rd_eq rfl <| ok_kz1 (pc1 := 27) (pc2 := 23) i165_20 (by decide) rfl rfl <| ok_iconst (pc' := 28) i165_27 rfl <| ok_iretz i165_28 rt165 (by decide) <| kt_v (pc' := 22) rfl <| ?_
  refine ok_iretz i188_22 rt188 (by decide) <| kt_v (pc' := 4) rfl <| ok_kz0 (pc1 := 30) (pc2 := 7) i187_4 (by decide) rfl rfl <| ok_aloadn (pc' := 8) i187_7 rfl rfl <| ok_iloadn (pc' := 9) i187_8 rfl rfl <| ok_iconst (pc' := 10) i187_9 rfl <| ok_bipush (v := 7) (pc' := 12) i187_10 rfl rfl <| ok_cc i187_12 rfl (cl_s o187 m9_140 na164 rfl rfl (bt rfl) (bt rfl) rfl) ln164 (pd164 (aI 0) (aI 0) (aI 7)) <| ?_
  refine ok_iloadn (pc' := 1) i164_0 rfl rfl <| ok_iloadn (pc' := 2) i164_1 rfl rfl <| ok_kc0 (pc1 := 14) (pc2 := 5) i164_2 (by decide) rfl rfl <| ok_iloadn (pc' := 6) i164_5 rfl rfl <| ok_iloadn (pc' := 7) i164_6 rfl rfl <| ok_kc0 (pc1 := 14) (pc2 := 10) i164_7 (by decide) rfl rfl <| ok_iconst (pc' := 11) i164_10 rfl <| ok_goto (pc' := 15) i164_11 rfl <| ?_
  refine ok_iretz i164_15 rt164 (by decide) <| kt_v (pc' := 15) rfl <| ok_kz1 (pc1 := 22) (pc2 := 18) i187_15 (by decide) rfl rfl <| ok_iconst (pc' := 23) i187_22 rfl <| ok_iconst (pc' := 24) i187_23 rfl <| ok_cc i187_24 rfl (cl_v o187 m9_70 na165 rfl rfl (bt rfl) (bt rfl) rfl (by rw [ShModel_k0 hS448, o165])) ln165 (pd165 (aR 448) (aI 0) (aI 2)) <| ok_aloadn (pc' := 1) i165_0 rfl rfl <| ok_getfi (v := 0) (pc' := 4) i165_1 o165 gi9_63 (ShModel_k0 hS448) rd_eq rfl <| ?_
  refine ok_kz0 (pc1 := 16) (pc2 := 7) i165_4 (by decide) rfl rfl <| ok_iloadn (pc' := 8) i165_7 rfl rfl <| ok_kz1 (pc1 := 16) (pc2 := 11) i165_8 (by decide) rfl rfl <| ok_aloadn (pc' := 17) i165_16 rfl rfl <| ok_getfi (v := 0) (pc' := 20) i165_17 o165 gi9_63 (ShModel_k0 hS448) rd_eq rfl <| ok_kz1 (pc1 := 27) (pc2 := 23) i165_20 (by decide) rfl rfl <| ok_iconst (pc' := 28) i165_27 rfl <| ok_iretz i165_28 rt165 (by decide) <| ?_
  refine kt_v (pc' := 27) rfl <| ok_kz1 (pc1 := 32) (pc2 := 30) i187_27 (by decide) rfl rfl <| ok_iconst (pc' := 33) i187_32 rfl <| ok_istoren (pc' := 34) (ls' := [aR 448, aI 0, aI 0, aU]) i187_33 (bt rfl) rfl rfl <| ok_iloadn (pc' := 35) i187_34 rfl rfl <| ok_tsw (pc' := 76) (off := 41) i187_35 ⟨by decide, by decide⟩ (Or.inl ⟨by decide, by decide, rfl⟩) rfl <| ok_aloadn (pc' := 77) i187_76 rfl rfl <| ok_getfi (v := (q 0)) (pc' := 80) i187_77 o187 gi9_203 (ShModel_k0 hS448) (rd_ni (by decide) (rd_na (by omega) (RepO_f2 hO))) rfl <| ?_
  refine ok_ireti i187_80 rt187 <| kt_v (pc' := 492) rfl <| ok_istore (pc' := 494) (ls' := [aR 1, aR 100, aR 448, aR 464, aR 465, aI i, aI 0, aI (q 0), w8]) i0_492 (bt rfl) rfl rfl <| ok_aloadn (pc' := 495) i0_494 rfl rfl <| ok_cc i0_495 rfl (cl_v o0 m13_188 na157 rfl rfl (bt rfl) (bt rfl) rfl (by rw [ShModel_k0 hS448, o157])) ln157 (pd157 (aR 448)) <| ok_aloadn (pc' := 1) i157_0 rfl rfl <| ok_getfi (v := 0) (pc' := 4) i157_1 o157 gi9_63 (ShModel_k0 hS448) rd_eq rfl <| ok_ireti i157_4 rt157 <| ?_
  refine kt_v (pc' := 498) rfl <| ok_iload (pc' := 500) i0_498 rfl rfl <| ok_kc1 (pc1 := 505) (pc2 := 503) i0_500 (by decide) rfl rfl <| ok_iload (pc' := 507) i0_505 rfl rfl <| ok_kz0 (pc1 := 522) (pc2 := 510) i0_507 (by decide) rfl rfl <| ok_aloadn (pc' := 511) i0_510 rfl rfl <| ok_iconst (pc' := 512) i0_511 rfl <| ok_laload (v := (wr (q 0))) (pc' := 513) i0_512 (ShOut_k0 hS464) (ShOut_l0 hS464) (by decide) (rd_na (by omega) rd_eq) rfl <| ?_
  refine ok_iload (pc' := 515) i0_513 rfl rfl <| ok_i2l (v := (wr (q 0))) (pc' := 516) i0_515 rfl rfl <| ok_lcmp0 (pc' := 517) i0_516 rfl <| ok_kz1 (pc1 := 522) (pc2 := 520) i0_517 (by decide) rfl rfl <| ok_goto (pc' := 3329) i0_522 rfl <| ?_
  exact K _ _ _ _ _ _ hD (by omega) (Inv_mono (Inv_same hI (Same.thr (Same.out Same.rfl))) (by omega))
theorem c6_1_1 {L n : Nat} {g : AG} {M : AM} {xs : Nat → Int32} {b i : Int} {w6 w7 w8 : AV} {Q : AO → AG → AM → Prop} (hD : HD L n g) (hI : Inv xs b M) (hi : 0 ≤ i ∧ i + 6 ≤ L) (hb : 0 ≤ b ∧ b ≤ 900000) (hl : M 100 6 = 1) (hc1 : M 1 (i + 1) = 1) (K : KK L n i b xs Q) :
    Ok 10 0 469 [aR 1, aR 100, aR 448, aR 464, aR 465, aI i, w6, w7, w8] [] g M Q := by
  have hI0 := hI
  obtain ⟨hA, hld, hl01, q, hc, ⟨nx, sz, hH, hsz⟩, hS⟩ := hI0
  have hH0 := hH
  obtain ⟨⟨hn1, hn0⟩, ⟨hz2, hz0⟩, h10, hHj⟩ := hH0
  obtain ⟨hw0, ⟨bu, by_, hb1, hb13, hbu, hZ, hU⟩, he3, he4, he5, hId, tx, hT, hUt, htl, htr⟩ := hA
  obtain ⟨s, hP, hRB, hO, hV, hQ, h40⟩ := hc hl
  have ys3 := V_3 hV
  have ys4 := V_4 hV
  have yq0 := Q_0 hQ
  have yq1 := Q_1 hQ
  obtain ⟨v1, hv1⟩ : ∃ u9 : Int, M 1 (i + 1) = u9 := ⟨_, rfl⟩
  have hr1 : -2147483648 ≤ v1 ∧ v1 < 2147483648 := hv1 ▸ scr_rg hw0 (i + 1)
  have hS1 := HD_s hD
  have hS100 := HD_y hD
  have hS149 := HD_b hD
  have hS448 := HD_o hD
  have hS464 := HD_u hD
  refine ok_aloadn (pc' := 470) i0_469 rfl rfl <| ok_aloadn (pc' := 471) i0_470 rfl rfl <| ok_iload (pc' := 473) i0_471 rfl rfl <| ok_iconst (pc' := 474) i0_473 rfl <| ok_iadd (v := (i + 1)) (pc' := 475) i0_474 rfl rfl <| ok_iaload (v := 1) (pc' := 476) i0_475 (ShScr_k0 hS1) (by decide) (ShScr_l0 hS1) (by omega) hc1 rfl <| ok_aloadn (pc' := 477) i0_476 rfl rfl <| ok_cc i0_477 rfl (cl_s o0 m13_207 na280 rfl rfl (bt rfl) (bt rfl) rfl) ln280 (pd280 (aR 100) (aI 1) (aR 464)) <| ?_
  refine ok_aloadn (pc' := 1) i280_0 rfl rfl <| ok_iconst (pc' := 2) i280_1 rfl <| ok_aloadn (pc' := 3) i280_2 rfl rfl <| ok_iloadn (pc' := 4) i280_3 rfl rfl <| ok_cc i280_4 rfl (cl_v o280 m13_17 na98 rfl rfl (bt rfl) (bt rfl) rfl (by rw [ShYard_k0 hS100, o98])) ln98 (pd98 (aR 100) (aI 1)) <| ok_aloadn (pc' := 1) i98_0 rfl rfl <| ok_cc i98_1 rfl (cl_v o98 m0_132 na99 rfl rfl (bt rfl) (bt rfl) rfl (by rw [ShYard_k0 hS100, o99])) ln99 (pd99 (aR 100)) <| ok_aloadn (pc' := 1) i99_0 rfl rfl <| ?_
  refine ok_getfi (v := 1) (pc' := 4) i99_1 o99 gi0_268 (ShYard_k0 hS100) hl rfl <| ok_kz1 (pc1 := 18) (pc2 := 7) i99_4 (by decide) rfl rfl <| ok_vret i99_18 rt99 <| kt_0 (pc' := 4) rfl <| ok_iloadn (pc' := 5) i98_4 rfl rfl <| ok_tsw (pc' := 60) (off := 55) i98_5 ⟨by decide, by decide⟩ (Or.inl ⟨by decide, by decide, rfl⟩) rfl <| ok_aloadn (pc' := 61) i98_60 rfl rfl <| ok_getfr (r := 149) (pc' := 64) i98_61 o98 gr0_39 (ShYard_k0 hS100) (ShYard_r8 hS100) rfl <| ?_
  refine ok_getfi (v := (s 3)) (pc' := 67) i98_64 o98 gi0_129 (ShState_k0 hS149) (RepS_f2 hRB) rfl <| ok_ireti i98_67 rt98 <| kt_v (pc' := 7) rfl <| ok_i2l (v := (wr (s 3))) (pc' := 8) i280_7 rfl rfl <| ok_lastore (pc' := 9) i280_8 (ShOut_k0 hS464) (ShOut_l0 hS464) (by decide) rfl <| ok_goto (pc' := 18) i280_9 rfl <| ok_iconst (pc' := 19) i280_18 rfl <| ok_ireti i280_19 rt280 <| ?_
  refine kt_v (pc' := 480) rfl <| ok_istore (pc' := 482) (ls' := [aR 1, aR 100, aR 448, aR 464, aR 465, aI i, aI 0, w7, w8]) i0_480 (bt rfl) rfl rfl <| ok_aloadn (pc' := 483) i0_482 rfl rfl <| ok_aloadn (pc' := 484) i0_483 rfl rfl <| ok_iload (pc' := 486) i0_484 rfl rfl <| ok_iconst (pc' := 487) i0_486 rfl <| ok_iadd (v := (i + 1)) (pc' := 488) i0_487 rfl rfl <| ok_iaload (v := 1) (pc' := 489) i0_488 (ShScr_k0 hS1) (by decide) (ShScr_l0 hS1) (by omega) (rd_na (by omega) hc1) rfl <| ?_
  refine ok_cc i0_489 rfl (cl_v o0 m13_209 na187 rfl rfl (bt rfl) (bt rfl) rfl (by rw [ShModel_k0 hS448, o187])) ln187 (pd187 (aR 448) (aI 1)) <| ok_aloadn (pc' := 1) i187_0 rfl rfl <| ok_cc i187_1 rfl (cl_v o187 m9_216 na188 rfl rfl (bt rfl) (bt rfl) rfl (by rw [ShModel_k0 hS448, o188])) ln188 (pd188 (aR 448)) <| ok_aloadn (pc' := 1) i188_0 rfl rfl <| ok_iconst (pc' := 2) i188_1 rfl <| ok_putfj (kk := 0) (pc' := 5) i188_2 o188 pi188_63 (ShModel_k0 hS448) rfl rfl <| ok_aloadn (pc' := 6) i188_5 rfl rfl <| ok_aloadn (pc' := 7) i188_6 rfl rfl <| ?_
  refine ok_getfi (v := 1) (pc' := 10) i188_7 o188 gi9_66 (ShModel_k0 hS448) (rd_ni (by decide) (rd_na (by omega) (hld.trans hl))) rfl <| ok_kz1 (pc1 := 17) (pc2 := 13) i188_10 (by decide) rfl rfl <| ok_iconst (pc' := 18) i188_17 rfl <| ok_iconst (pc' := 19) i188_18 rfl <| ok_cc i188_19 rfl (cl_v o188 m9_70 na165 rfl rfl (bt rfl) (bt rfl) rfl (by rw [ShModel_k0 hS448, o165])) ln165 (pd165 (aR 448) (aI 0) (aI 1)) <| ok_aloadn (pc' := 1) i165_0 rfl rfl <| ok_getfi (v := 0) (pc' := 4) i165_1 o165 gi9_63 (ShModel_k0 hS448) rd_eq rfl <| ok_kz0 (pc1 := 16) (pc2 := 7) i165_4 (by decide) rfl rfl <| ?_
  refine ok_iloadn (pc' := 8) i165_7 rfl rfl <| ok_kz1 (pc1 := 16) (pc2 := 11) i165_8 (by decide) rfl rfl <| ok_aloadn (pc' := 17) i165_16 rfl rfl <| ok_getfi (v := 0) (pc' := 20) i165_17 o165 gi9_63 (ShModel_k0 hS448) rd_eq rfl <| ok_kz1 (pc1 := 27) (pc2 := 23) i165_20 (by decide) rfl rfl <| ok_iconst (pc' := 28) i165_27 rfl <| ok_iretz i165_28 rt165 (by decide) <| kt_v (pc' := 22) rfl <| ?_
  refine ok_iretz i188_22 rt188 (by decide) <| kt_v (pc' := 4) rfl <| ok_kz0 (pc1 := 30) (pc2 := 7) i187_4 (by decide) rfl rfl <| ok_aloadn (pc' := 8) i187_7 rfl rfl <| ok_iloadn (pc' := 9) i187_8 rfl rfl <| ok_iconst (pc' := 10) i187_9 rfl <| ok_bipush (v := 7) (pc' := 12) i187_10 rfl rfl <| ok_cc i187_12 rfl (cl_s o187 m9_140 na164 rfl rfl (bt rfl) (bt rfl) rfl) ln164 (pd164 (aI 1) (aI 0) (aI 7)) <| ?_
  refine ok_iloadn (pc' := 1) i164_0 rfl rfl <| ok_iloadn (pc' := 2) i164_1 rfl rfl <| ok_kc0 (pc1 := 14) (pc2 := 5) i164_2 (by decide) rfl rfl <| ok_iloadn (pc' := 6) i164_5 rfl rfl <| ok_iloadn (pc' := 7) i164_6 rfl rfl <| ok_kc0 (pc1 := 14) (pc2 := 10) i164_7 (by decide) rfl rfl <| ok_iconst (pc' := 11) i164_10 rfl <| ok_goto (pc' := 15) i164_11 rfl <| ?_
  refine ok_iretz i164_15 rt164 (by decide) <| kt_v (pc' := 15) rfl <| ok_kz1 (pc1 := 22) (pc2 := 18) i187_15 (by decide) rfl rfl <| ok_iconst (pc' := 23) i187_22 rfl <| ok_iconst (pc' := 24) i187_23 rfl <| ok_cc i187_24 rfl (cl_v o187 m9_70 na165 rfl rfl (bt rfl) (bt rfl) rfl (by rw [ShModel_k0 hS448, o165])) ln165 (pd165 (aR 448) (aI 0) (aI 2)) <| ok_aloadn (pc' := 1) i165_0 rfl rfl <| ok_getfi (v := 0) (pc' := 4) i165_1 o165 gi9_63 (ShModel_k0 hS448) rd_eq rfl <| ?_
  refine ok_kz0 (pc1 := 16) (pc2 := 7) i165_4 (by decide) rfl rfl <| ok_iloadn (pc' := 8) i165_7 rfl rfl <| ok_kz1 (pc1 := 16) (pc2 := 11) i165_8 (by decide) rfl rfl <| ok_aloadn (pc' := 17) i165_16 rfl rfl <| ok_getfi (v := 0) (pc' := 20) i165_17 o165 gi9_63 (ShModel_k0 hS448) rd_eq rfl <| ok_kz1 (pc1 := 27) (pc2 := 23) i165_20 (by decide) rfl rfl <| ok_iconst (pc' := 28) i165_27 rfl <| ok_iretz i165_28 rt165 (by decide) <| ?_
  refine kt_v (pc' := 27) rfl <| ok_kz1 (pc1 := 32) (pc2 := 30) i187_27 (by decide) rfl rfl <| ok_iconst (pc' := 33) i187_32 rfl <| ok_istoren (pc' := 34) (ls' := [aR 448, aI 1, aI 0, aU]) i187_33 (bt rfl) rfl rfl <| ok_iloadn (pc' := 35) i187_34 rfl rfl <| ok_tsw (pc' := 81) (off := 46) i187_35 ⟨by decide, by decide⟩ (Or.inl ⟨by decide, by decide, rfl⟩) rfl <| ok_aloadn (pc' := 82) i187_81 rfl rfl <| ok_getfr (r := (448 + 5)) (pc' := 85) i187_82 o187 gr9_22 (ShModel_k0 hS448) (ShModel_r8 hS448) rfl <| ?_
  refine ok_iconst (pc' := 86) i187_85 rfl <| ok_iaload (v := (s 3)) (pc' := 87) i187_86 (ShModel_k5 hS448) (by decide) (ShModel_l5 hS448) (by decide) (rd_na (by omega) (rd_na (by omega) (RepO_s hO))) rfl <| ok_ireti i187_87 rt187 <| kt_v (pc' := 492) rfl <| ok_istore (pc' := 494) (ls' := [aR 1, aR 100, aR 448, aR 464, aR 465, aI i, aI 0, aI (s 3), w8]) i0_492 (bt rfl) rfl rfl <| ok_aloadn (pc' := 495) i0_494 rfl rfl <| ok_cc i0_495 rfl (cl_v o0 m13_188 na157 rfl rfl (bt rfl) (bt rfl) rfl (by rw [ShModel_k0 hS448, o157])) ln157 (pd157 (aR 448)) <| ok_aloadn (pc' := 1) i157_0 rfl rfl <| ?_
  refine ok_getfi (v := 0) (pc' := 4) i157_1 o157 gi9_63 (ShModel_k0 hS448) rd_eq rfl <| ok_ireti i157_4 rt157 <| kt_v (pc' := 498) rfl <| ok_iload (pc' := 500) i0_498 rfl rfl <| ok_kc1 (pc1 := 505) (pc2 := 503) i0_500 (by decide) rfl rfl <| ok_iload (pc' := 507) i0_505 rfl rfl <| ok_kz0 (pc1 := 522) (pc2 := 510) i0_507 (by decide) rfl rfl <| ok_aloadn (pc' := 511) i0_510 rfl rfl <| ?_
  refine ok_iconst (pc' := 512) i0_511 rfl <| ok_laload (v := (wr (s 3))) (pc' := 513) i0_512 (ShOut_k0 hS464) (ShOut_l0 hS464) (by decide) (rd_na (by omega) rd_eq) rfl <| ok_iload (pc' := 515) i0_513 rfl rfl <| ok_i2l (v := (wr (s 3))) (pc' := 516) i0_515 rfl rfl <| ok_lcmp0 (pc' := 517) i0_516 rfl <| ok_kz1 (pc1 := 522) (pc2 := 520) i0_517 (by decide) rfl rfl <| ok_goto (pc' := 3329) i0_522 rfl <| ?_
  exact K _ _ _ _ _ _ hD (by omega) (Inv_mono (Inv_same hI (Same.thr (Same.out Same.rfl))) (by omega))
theorem c6_1_2 {L n : Nat} {g : AG} {M : AM} {xs : Nat → Int32} {b i : Int} {w6 w7 w8 : AV} {Q : AO → AG → AM → Prop} (hD : HD L n g) (hI : Inv xs b M) (hi : 0 ≤ i ∧ i + 6 ≤ L) (hb : 0 ≤ b ∧ b ≤ 900000) (hl : M 100 6 = 1) (hc1 : M 1 (i + 1) = 2) (K : KK L n i b xs Q) :
    Ok 10 0 469 [aR 1, aR 100, aR 448, aR 464, aR 465, aI i, w6, w7, w8] [] g M Q := by
  have hI0 := hI
  obtain ⟨hA, hld, hl01, q, hc, ⟨nx, sz, hH, hsz⟩, hS⟩ := hI0
  have hH0 := hH
  obtain ⟨⟨hn1, hn0⟩, ⟨hz2, hz0⟩, h10, hHj⟩ := hH0
  obtain ⟨hw0, ⟨bu, by_, hb1, hb13, hbu, hZ, hU⟩, he3, he4, he5, hId, tx, hT, hUt, htl, htr⟩ := hA
  obtain ⟨s, hP, hRB, hO, hV, hQ, h40⟩ := hc hl
  have ys3 := V_3 hV
  have ys4 := V_4 hV
  have yq0 := Q_0 hQ
  have yq1 := Q_1 hQ
  obtain ⟨v1, hv1⟩ : ∃ u9 : Int, M 1 (i + 1) = u9 := ⟨_, rfl⟩
  have hr1 : -2147483648 ≤ v1 ∧ v1 < 2147483648 := hv1 ▸ scr_rg hw0 (i + 1)
  have hS1 := HD_s hD
  have hS100 := HD_y hD
  have hS149 := HD_b hD
  have hS448 := HD_o hD
  have hS464 := HD_u hD
  refine ok_aloadn (pc' := 470) i0_469 rfl rfl <| ok_aloadn (pc' := 471) i0_470 rfl rfl <| ok_iload (pc' := 473) i0_471 rfl rfl <| ok_iconst (pc' := 474) i0_473 rfl <| ok_iadd (v := (i + 1)) (pc' := 475) i0_474 rfl rfl <| ok_iaload (v := 2) (pc' := 476) i0_475 (ShScr_k0 hS1) (by decide) (ShScr_l0 hS1) (by omega) hc1 rfl <| ok_aloadn (pc' := 477) i0_476 rfl rfl <| ok_cc i0_477 rfl (cl_s o0 m13_207 na280 rfl rfl (bt rfl) (bt rfl) rfl) ln280 (pd280 (aR 100) (aI 2) (aR 464)) <| ?_
  refine ok_aloadn (pc' := 1) i280_0 rfl rfl <| ok_iconst (pc' := 2) i280_1 rfl <| ok_aloadn (pc' := 3) i280_2 rfl rfl <| ok_iloadn (pc' := 4) i280_3 rfl rfl <| ok_cc i280_4 rfl (cl_v o280 m13_17 na98 rfl rfl (bt rfl) (bt rfl) rfl (by rw [ShYard_k0 hS100, o98])) ln98 (pd98 (aR 100) (aI 2)) <| ok_aloadn (pc' := 1) i98_0 rfl rfl <| ok_cc i98_1 rfl (cl_v o98 m0_132 na99 rfl rfl (bt rfl) (bt rfl) rfl (by rw [ShYard_k0 hS100, o99])) ln99 (pd99 (aR 100)) <| ok_aloadn (pc' := 1) i99_0 rfl rfl <| ?_
  refine ok_getfi (v := 1) (pc' := 4) i99_1 o99 gi0_268 (ShYard_k0 hS100) hl rfl <| ok_kz1 (pc1 := 18) (pc2 := 7) i99_4 (by decide) rfl rfl <| ok_vret i99_18 rt99 <| kt_0 (pc' := 4) rfl <| ok_iloadn (pc' := 5) i98_4 rfl rfl <| ok_tsw (pc' := 68) (off := 63) i98_5 ⟨by decide, by decide⟩ (Or.inl ⟨by decide, by decide, rfl⟩) rfl <| ok_aloadn (pc' := 69) i98_68 rfl rfl <| ok_getfr (r := 149) (pc' := 72) i98_69 o98 gr0_39 (ShYard_k0 hS100) (ShYard_r8 hS100) rfl <| ?_
  refine ok_getfi (v := (s 4)) (pc' := 75) i98_72 o98 gi0_138 (ShState_k0 hS149) (RepS_f4 hRB) rfl <| ok_ireti i98_75 rt98 <| kt_v (pc' := 7) rfl <| ok_i2l (v := (wr (s 4))) (pc' := 8) i280_7 rfl rfl <| ok_lastore (pc' := 9) i280_8 (ShOut_k0 hS464) (ShOut_l0 hS464) (by decide) rfl <| ok_goto (pc' := 18) i280_9 rfl <| ok_iconst (pc' := 19) i280_18 rfl <| ok_ireti i280_19 rt280 <| ?_
  refine kt_v (pc' := 480) rfl <| ok_istore (pc' := 482) (ls' := [aR 1, aR 100, aR 448, aR 464, aR 465, aI i, aI 0, w7, w8]) i0_480 (bt rfl) rfl rfl <| ok_aloadn (pc' := 483) i0_482 rfl rfl <| ok_aloadn (pc' := 484) i0_483 rfl rfl <| ok_iload (pc' := 486) i0_484 rfl rfl <| ok_iconst (pc' := 487) i0_486 rfl <| ok_iadd (v := (i + 1)) (pc' := 488) i0_487 rfl rfl <| ok_iaload (v := 2) (pc' := 489) i0_488 (ShScr_k0 hS1) (by decide) (ShScr_l0 hS1) (by omega) (rd_na (by omega) hc1) rfl <| ?_
  refine ok_cc i0_489 rfl (cl_v o0 m13_209 na187 rfl rfl (bt rfl) (bt rfl) rfl (by rw [ShModel_k0 hS448, o187])) ln187 (pd187 (aR 448) (aI 2)) <| ok_aloadn (pc' := 1) i187_0 rfl rfl <| ok_cc i187_1 rfl (cl_v o187 m9_216 na188 rfl rfl (bt rfl) (bt rfl) rfl (by rw [ShModel_k0 hS448, o188])) ln188 (pd188 (aR 448)) <| ok_aloadn (pc' := 1) i188_0 rfl rfl <| ok_iconst (pc' := 2) i188_1 rfl <| ok_putfj (kk := 0) (pc' := 5) i188_2 o188 pi188_63 (ShModel_k0 hS448) rfl rfl <| ok_aloadn (pc' := 6) i188_5 rfl rfl <| ok_aloadn (pc' := 7) i188_6 rfl rfl <| ?_
  refine ok_getfi (v := 1) (pc' := 10) i188_7 o188 gi9_66 (ShModel_k0 hS448) (rd_ni (by decide) (rd_na (by omega) (hld.trans hl))) rfl <| ok_kz1 (pc1 := 17) (pc2 := 13) i188_10 (by decide) rfl rfl <| ok_iconst (pc' := 18) i188_17 rfl <| ok_iconst (pc' := 19) i188_18 rfl <| ok_cc i188_19 rfl (cl_v o188 m9_70 na165 rfl rfl (bt rfl) (bt rfl) rfl (by rw [ShModel_k0 hS448, o165])) ln165 (pd165 (aR 448) (aI 0) (aI 1)) <| ok_aloadn (pc' := 1) i165_0 rfl rfl <| ok_getfi (v := 0) (pc' := 4) i165_1 o165 gi9_63 (ShModel_k0 hS448) rd_eq rfl <| ok_kz0 (pc1 := 16) (pc2 := 7) i165_4 (by decide) rfl rfl <| ?_
  refine ok_iloadn (pc' := 8) i165_7 rfl rfl <| ok_kz1 (pc1 := 16) (pc2 := 11) i165_8 (by decide) rfl rfl <| ok_aloadn (pc' := 17) i165_16 rfl rfl <| ok_getfi (v := 0) (pc' := 20) i165_17 o165 gi9_63 (ShModel_k0 hS448) rd_eq rfl <| ok_kz1 (pc1 := 27) (pc2 := 23) i165_20 (by decide) rfl rfl <| ok_iconst (pc' := 28) i165_27 rfl <| ok_iretz i165_28 rt165 (by decide) <| kt_v (pc' := 22) rfl <| ?_
  refine ok_iretz i188_22 rt188 (by decide) <| kt_v (pc' := 4) rfl <| ok_kz0 (pc1 := 30) (pc2 := 7) i187_4 (by decide) rfl rfl <| ok_aloadn (pc' := 8) i187_7 rfl rfl <| ok_iloadn (pc' := 9) i187_8 rfl rfl <| ok_iconst (pc' := 10) i187_9 rfl <| ok_bipush (v := 7) (pc' := 12) i187_10 rfl rfl <| ok_cc i187_12 rfl (cl_s o187 m9_140 na164 rfl rfl (bt rfl) (bt rfl) rfl) ln164 (pd164 (aI 2) (aI 0) (aI 7)) <| ?_
  refine ok_iloadn (pc' := 1) i164_0 rfl rfl <| ok_iloadn (pc' := 2) i164_1 rfl rfl <| ok_kc0 (pc1 := 14) (pc2 := 5) i164_2 (by decide) rfl rfl <| ok_iloadn (pc' := 6) i164_5 rfl rfl <| ok_iloadn (pc' := 7) i164_6 rfl rfl <| ok_kc0 (pc1 := 14) (pc2 := 10) i164_7 (by decide) rfl rfl <| ok_iconst (pc' := 11) i164_10 rfl <| ok_goto (pc' := 15) i164_11 rfl <| ?_
  refine ok_iretz i164_15 rt164 (by decide) <| kt_v (pc' := 15) rfl <| ok_kz1 (pc1 := 22) (pc2 := 18) i187_15 (by decide) rfl rfl <| ok_iconst (pc' := 23) i187_22 rfl <| ok_iconst (pc' := 24) i187_23 rfl <| ok_cc i187_24 rfl (cl_v o187 m9_70 na165 rfl rfl (bt rfl) (bt rfl) rfl (by rw [ShModel_k0 hS448, o165])) ln165 (pd165 (aR 448) (aI 0) (aI 2)) <| ok_aloadn (pc' := 1) i165_0 rfl rfl <| ok_getfi (v := 0) (pc' := 4) i165_1 o165 gi9_63 (ShModel_k0 hS448) rd_eq rfl <| ?_
  refine ok_kz0 (pc1 := 16) (pc2 := 7) i165_4 (by decide) rfl rfl <| ok_iloadn (pc' := 8) i165_7 rfl rfl <| ok_kz1 (pc1 := 16) (pc2 := 11) i165_8 (by decide) rfl rfl <| ok_aloadn (pc' := 17) i165_16 rfl rfl <| ok_getfi (v := 0) (pc' := 20) i165_17 o165 gi9_63 (ShModel_k0 hS448) rd_eq rfl <| ok_kz1 (pc1 := 27) (pc2 := 23) i165_20 (by decide) rfl rfl <| ok_iconst (pc' := 28) i165_27 rfl <| ok_iretz i165_28 rt165 (by decide) <| ?_
  refine kt_v (pc' := 27) rfl <| ok_kz1 (pc1 := 32) (pc2 := 30) i187_27 (by decide) rfl rfl <| ok_iconst (pc' := 33) i187_32 rfl <| ok_istoren (pc' := 34) (ls' := [aR 448, aI 2, aI 0, aU]) i187_33 (bt rfl) rfl rfl <| ok_iloadn (pc' := 35) i187_34 rfl rfl <| ok_tsw (pc' := 88) (off := 53) i187_35 ⟨by decide, by decide⟩ (Or.inl ⟨by decide, by decide, rfl⟩) rfl <| ok_aloadn (pc' := 89) i187_88 rfl rfl <| ok_getfr (r := (448 + 5)) (pc' := 92) i187_89 o187 gr9_22 (ShModel_k0 hS448) (ShModel_r8 hS448) rfl <| ?_
  refine ok_iconst (pc' := 93) i187_92 rfl <| ok_iaload (v := (s 4)) (pc' := 94) i187_93 (ShModel_k5 hS448) (by decide) (ShModel_l5 hS448) (by decide) (rd_na (by omega) (rd_na (by omega) (RepO_s hO))) rfl <| ok_ireti i187_94 rt187 <| kt_v (pc' := 492) rfl <| ok_istore (pc' := 494) (ls' := [aR 1, aR 100, aR 448, aR 464, aR 465, aI i, aI 0, aI (s 4), w8]) i0_492 (bt rfl) rfl rfl <| ok_aloadn (pc' := 495) i0_494 rfl rfl <| ok_cc i0_495 rfl (cl_v o0 m13_188 na157 rfl rfl (bt rfl) (bt rfl) rfl (by rw [ShModel_k0 hS448, o157])) ln157 (pd157 (aR 448)) <| ok_aloadn (pc' := 1) i157_0 rfl rfl <| ?_
  refine ok_getfi (v := 0) (pc' := 4) i157_1 o157 gi9_63 (ShModel_k0 hS448) rd_eq rfl <| ok_ireti i157_4 rt157 <| kt_v (pc' := 498) rfl <| ok_iload (pc' := 500) i0_498 rfl rfl <| ok_kc1 (pc1 := 505) (pc2 := 503) i0_500 (by decide) rfl rfl <| ok_iload (pc' := 507) i0_505 rfl rfl <| ok_kz0 (pc1 := 522) (pc2 := 510) i0_507 (by decide) rfl rfl <| ok_aloadn (pc' := 511) i0_510 rfl rfl <| ?_
  refine ok_iconst (pc' := 512) i0_511 rfl <| ok_laload (v := (wr (s 4))) (pc' := 513) i0_512 (ShOut_k0 hS464) (ShOut_l0 hS464) (by decide) (rd_na (by omega) rd_eq) rfl <| ok_iload (pc' := 515) i0_513 rfl rfl <| ok_i2l (v := (wr (s 4))) (pc' := 516) i0_515 rfl rfl <| ok_lcmp0 (pc' := 517) i0_516 rfl <| ok_kz1 (pc1 := 522) (pc2 := 520) i0_517 (by decide) rfl rfl <| ok_goto (pc' := 3329) i0_522 rfl <| ?_
  exact K _ _ _ _ _ _ hD (by omega) (Inv_mono (Inv_same hI (Same.thr (Same.out Same.rfl))) (by omega))
theorem c6_1_3 {L n : Nat} {g : AG} {M : AM} {xs : Nat → Int32} {b i : Int} {w6 w7 w8 : AV} {Q : AO → AG → AM → Prop} (hD : HD L n g) (hI : Inv xs b M) (hi : 0 ≤ i ∧ i + 6 ≤ L) (hb : 0 ≤ b ∧ b ≤ 900000) (hl : M 100 6 = 1) (hc1 : M 1 (i + 1) = 3) (K : KK L n i b xs Q) :
    Ok 10 0 469 [aR 1, aR 100, aR 448, aR 464, aR 465, aI i, w6, w7, w8] [] g M Q := by
  have hI0 := hI
  obtain ⟨hA, hld, hl01, q, hc, ⟨nx, sz, hH, hsz⟩, hS⟩ := hI0
  have hH0 := hH
  obtain ⟨⟨hn1, hn0⟩, ⟨hz2, hz0⟩, h10, hHj⟩ := hH0
  obtain ⟨hw0, ⟨bu, by_, hb1, hb13, hbu, hZ, hU⟩, he3, he4, he5, hId, tx, hT, hUt, htl, htr⟩ := hA
  obtain ⟨s, hP, hRB, hO, hV, hQ, h40⟩ := hc hl
  have ys3 := V_3 hV
  have ys4 := V_4 hV
  have yq0 := Q_0 hQ
  have yq1 := Q_1 hQ
  obtain ⟨v1, hv1⟩ : ∃ u9 : Int, M 1 (i + 1) = u9 := ⟨_, rfl⟩
  have hr1 : -2147483648 ≤ v1 ∧ v1 < 2147483648 := hv1 ▸ scr_rg hw0 (i + 1)
  have hS1 := HD_s hD
  have hS100 := HD_y hD
  have hS138 := HD_p hD
  have hS448 := HD_o hD
  have hS464 := HD_u hD
  refine ok_aloadn (pc' := 470) i0_469 rfl rfl <| ok_aloadn (pc' := 471) i0_470 rfl rfl <| ok_iload (pc' := 473) i0_471 rfl rfl <| ok_iconst (pc' := 474) i0_473 rfl <| ok_iadd (v := (i + 1)) (pc' := 475) i0_474 rfl rfl <| ok_iaload (v := 3) (pc' := 476) i0_475 (ShScr_k0 hS1) (by decide) (ShScr_l0 hS1) (by omega) hc1 rfl <| ok_aloadn (pc' := 477) i0_476 rfl rfl <| ok_cc i0_477 rfl (cl_s o0 m13_207 na280 rfl rfl (bt rfl) (bt rfl) rfl) ln280 (pd280 (aR 100) (aI 3) (aR 464)) <| ?_
  refine ok_aloadn (pc' := 1) i280_0 rfl rfl <| ok_iconst (pc' := 2) i280_1 rfl <| ok_aloadn (pc' := 3) i280_2 rfl rfl <| ok_iloadn (pc' := 4) i280_3 rfl rfl <| ok_cc i280_4 rfl (cl_v o280 m13_17 na98 rfl rfl (bt rfl) (bt rfl) rfl (by rw [ShYard_k0 hS100, o98])) ln98 (pd98 (aR 100) (aI 3)) <| ok_aloadn (pc' := 1) i98_0 rfl rfl <| ok_cc i98_1 rfl (cl_v o98 m0_132 na99 rfl rfl (bt rfl) (bt rfl) rfl (by rw [ShYard_k0 hS100, o99])) ln99 (pd99 (aR 100)) <| ok_aloadn (pc' := 1) i99_0 rfl rfl <| ?_
  refine ok_getfi (v := 1) (pc' := 4) i99_1 o99 gi0_268 (ShYard_k0 hS100) hl rfl <| ok_kz1 (pc1 := 18) (pc2 := 7) i99_4 (by decide) rfl rfl <| ok_vret i99_18 rt99 <| kt_0 (pc' := 4) rfl <| ok_iloadn (pc' := 5) i98_4 rfl rfl <| ok_tsw (pc' := 76) (off := 71) i98_5 ⟨by decide, by decide⟩ (Or.inl ⟨by decide, by decide, rfl⟩) rfl <| ok_aloadn (pc' := 77) i98_76 rfl rfl <| ok_getfr (r := 138) (pc' := 80) i98_77 o98 gr0_32 (ShYard_k0 hS100) (ShYard_r7 hS100) rfl <| ?_
  refine ok_getfi (v := (q 1)) (pc' := 83) i98_80 o98 gi0_141 (ShPlan_k0 hS138) (RepP_f3 hP) rfl <| ok_ireti i98_83 rt98 <| kt_v (pc' := 7) rfl <| ok_i2l (v := (wr (q 1))) (pc' := 8) i280_7 rfl rfl <| ok_lastore (pc' := 9) i280_8 (ShOut_k0 hS464) (ShOut_l0 hS464) (by decide) rfl <| ok_goto (pc' := 18) i280_9 rfl <| ok_iconst (pc' := 19) i280_18 rfl <| ok_ireti i280_19 rt280 <| ?_
  refine kt_v (pc' := 480) rfl <| ok_istore (pc' := 482) (ls' := [aR 1, aR 100, aR 448, aR 464, aR 465, aI i, aI 0, w7, w8]) i0_480 (bt rfl) rfl rfl <| ok_aloadn (pc' := 483) i0_482 rfl rfl <| ok_aloadn (pc' := 484) i0_483 rfl rfl <| ok_iload (pc' := 486) i0_484 rfl rfl <| ok_iconst (pc' := 487) i0_486 rfl <| ok_iadd (v := (i + 1)) (pc' := 488) i0_487 rfl rfl <| ok_iaload (v := 3) (pc' := 489) i0_488 (ShScr_k0 hS1) (by decide) (ShScr_l0 hS1) (by omega) (rd_na (by omega) hc1) rfl <| ?_
  refine ok_cc i0_489 rfl (cl_v o0 m13_209 na187 rfl rfl (bt rfl) (bt rfl) rfl (by rw [ShModel_k0 hS448, o187])) ln187 (pd187 (aR 448) (aI 3)) <| ok_aloadn (pc' := 1) i187_0 rfl rfl <| ok_cc i187_1 rfl (cl_v o187 m9_216 na188 rfl rfl (bt rfl) (bt rfl) rfl (by rw [ShModel_k0 hS448, o188])) ln188 (pd188 (aR 448)) <| ok_aloadn (pc' := 1) i188_0 rfl rfl <| ok_iconst (pc' := 2) i188_1 rfl <| ok_putfj (kk := 0) (pc' := 5) i188_2 o188 pi188_63 (ShModel_k0 hS448) rfl rfl <| ok_aloadn (pc' := 6) i188_5 rfl rfl <| ok_aloadn (pc' := 7) i188_6 rfl rfl <| ?_
  refine ok_getfi (v := 1) (pc' := 10) i188_7 o188 gi9_66 (ShModel_k0 hS448) (rd_ni (by decide) (rd_na (by omega) (hld.trans hl))) rfl <| ok_kz1 (pc1 := 17) (pc2 := 13) i188_10 (by decide) rfl rfl <| ok_iconst (pc' := 18) i188_17 rfl <| ok_iconst (pc' := 19) i188_18 rfl <| ok_cc i188_19 rfl (cl_v o188 m9_70 na165 rfl rfl (bt rfl) (bt rfl) rfl (by rw [ShModel_k0 hS448, o165])) ln165 (pd165 (aR 448) (aI 0) (aI 1)) <| ok_aloadn (pc' := 1) i165_0 rfl rfl <| ok_getfi (v := 0) (pc' := 4) i165_1 o165 gi9_63 (ShModel_k0 hS448) rd_eq rfl <| ok_kz0 (pc1 := 16) (pc2 := 7) i165_4 (by decide) rfl rfl <| ?_
  refine ok_iloadn (pc' := 8) i165_7 rfl rfl <| ok_kz1 (pc1 := 16) (pc2 := 11) i165_8 (by decide) rfl rfl <| ok_aloadn (pc' := 17) i165_16 rfl rfl <| ok_getfi (v := 0) (pc' := 20) i165_17 o165 gi9_63 (ShModel_k0 hS448) rd_eq rfl <| ok_kz1 (pc1 := 27) (pc2 := 23) i165_20 (by decide) rfl rfl <| ok_iconst (pc' := 28) i165_27 rfl <| ok_iretz i165_28 rt165 (by decide) <| kt_v (pc' := 22) rfl <| ?_
  refine ok_iretz i188_22 rt188 (by decide) <| kt_v (pc' := 4) rfl <| ok_kz0 (pc1 := 30) (pc2 := 7) i187_4 (by decide) rfl rfl <| ok_aloadn (pc' := 8) i187_7 rfl rfl <| ok_iloadn (pc' := 9) i187_8 rfl rfl <| ok_iconst (pc' := 10) i187_9 rfl <| ok_bipush (v := 7) (pc' := 12) i187_10 rfl rfl <| ok_cc i187_12 rfl (cl_s o187 m9_140 na164 rfl rfl (bt rfl) (bt rfl) rfl) ln164 (pd164 (aI 3) (aI 0) (aI 7)) <| ?_
  refine ok_iloadn (pc' := 1) i164_0 rfl rfl <| ok_iloadn (pc' := 2) i164_1 rfl rfl <| ok_kc0 (pc1 := 14) (pc2 := 5) i164_2 (by decide) rfl rfl <| ok_iloadn (pc' := 6) i164_5 rfl rfl <| ok_iloadn (pc' := 7) i164_6 rfl rfl <| ok_kc0 (pc1 := 14) (pc2 := 10) i164_7 (by decide) rfl rfl <| ok_iconst (pc' := 11) i164_10 rfl <| ok_goto (pc' := 15) i164_11 rfl <| ?_
  refine ok_iretz i164_15 rt164 (by decide) <| kt_v (pc' := 15) rfl <| ok_kz1 (pc1 := 22) (pc2 := 18) i187_15 (by decide) rfl rfl <| ok_iconst (pc' := 23) i187_22 rfl <| ok_iconst (pc' := 24) i187_23 rfl <| ok_cc i187_24 rfl (cl_v o187 m9_70 na165 rfl rfl (bt rfl) (bt rfl) rfl (by rw [ShModel_k0 hS448, o165])) ln165 (pd165 (aR 448) (aI 0) (aI 2)) <| ok_aloadn (pc' := 1) i165_0 rfl rfl <| ok_getfi (v := 0) (pc' := 4) i165_1 o165 gi9_63 (ShModel_k0 hS448) rd_eq rfl <| ?_
  refine ok_kz0 (pc1 := 16) (pc2 := 7) i165_4 (by decide) rfl rfl <| ok_iloadn (pc' := 8) i165_7 rfl rfl <| ok_kz1 (pc1 := 16) (pc2 := 11) i165_8 (by decide) rfl rfl <| ok_aloadn (pc' := 17) i165_16 rfl rfl <| ok_getfi (v := 0) (pc' := 20) i165_17 o165 gi9_63 (ShModel_k0 hS448) rd_eq rfl <| ok_kz1 (pc1 := 27) (pc2 := 23) i165_20 (by decide) rfl rfl <| ok_iconst (pc' := 28) i165_27 rfl <| ok_iretz i165_28 rt165 (by decide) <| ?_
  refine kt_v (pc' := 27) rfl <| ok_kz1 (pc1 := 32) (pc2 := 30) i187_27 (by decide) rfl rfl <| ok_iconst (pc' := 33) i187_32 rfl <| ok_istoren (pc' := 34) (ls' := [aR 448, aI 3, aI 0, aU]) i187_33 (bt rfl) rfl rfl <| ok_iloadn (pc' := 35) i187_34 rfl rfl <| ok_tsw (pc' := 95) (off := 60) i187_35 ⟨by decide, by decide⟩ (Or.inl ⟨by decide, by decide, rfl⟩) rfl <| ok_aloadn (pc' := 96) i187_95 rfl rfl <| ok_getfi (v := (q 1)) (pc' := 99) i187_96 o187 gi9_206 (ShModel_k0 hS448) (rd_ni (by decide) (rd_na (by omega) (RepO_f3 hO))) rfl <| ?_
  refine ok_ireti i187_99 rt187 <| kt_v (pc' := 492) rfl <| ok_istore (pc' := 494) (ls' := [aR 1, aR 100, aR 448, aR 464, aR 465, aI i, aI 0, aI (q 1), w8]) i0_492 (bt rfl) rfl rfl <| ok_aloadn (pc' := 495) i0_494 rfl rfl <| ok_cc i0_495 rfl (cl_v o0 m13_188 na157 rfl rfl (bt rfl) (bt rfl) rfl (by rw [ShModel_k0 hS448, o157])) ln157 (pd157 (aR 448)) <| ok_aloadn (pc' := 1) i157_0 rfl rfl <| ok_getfi (v := 0) (pc' := 4) i157_1 o157 gi9_63 (ShModel_k0 hS448) rd_eq rfl <| ok_ireti i157_4 rt157 <| ?_
  refine kt_v (pc' := 498) rfl <| ok_iload (pc' := 500) i0_498 rfl rfl <| ok_kc1 (pc1 := 505) (pc2 := 503) i0_500 (by decide) rfl rfl <| ok_iload (pc' := 507) i0_505 rfl rfl <| ok_kz0 (pc1 := 522) (pc2 := 510) i0_507 (by decide) rfl rfl <| ok_aloadn (pc' := 511) i0_510 rfl rfl <| ok_iconst (pc' := 512) i0_511 rfl <| ok_laload (v := (wr (q 1))) (pc' := 513) i0_512 (ShOut_k0 hS464) (ShOut_l0 hS464) (by decide) (rd_na (by omega) rd_eq) rfl <| ?_
  refine ok_iload (pc' := 515) i0_513 rfl rfl <| ok_i2l (v := (wr (q 1))) (pc' := 516) i0_515 rfl rfl <| ok_lcmp0 (pc' := 517) i0_516 rfl <| ok_kz1 (pc1 := 522) (pc2 := 520) i0_517 (by decide) rfl rfl <| ok_goto (pc' := 3329) i0_522 rfl <| ?_
  exact K _ _ _ _ _ _ hD (by omega) (Inv_mono (Inv_same hI (Same.thr (Same.out Same.rfl))) (by omega))
theorem c6_1_4 {L n : Nat} {g : AG} {M : AM} {xs : Nat → Int32} {b i : Int} {w6 w7 w8 : AV} {Q : AO → AG → AM → Prop} (hD : HD L n g) (hI : Inv xs b M) (hi : 0 ≤ i ∧ i + 6 ≤ L) (hb : 0 ≤ b ∧ b ≤ 900000) (hl : M 100 6 = 1) (hc1 : M 1 (i + 1) = 4) (K : KK L n i b xs Q) :
    Ok 10 0 469 [aR 1, aR 100, aR 448, aR 464, aR 465, aI i, w6, w7, w8] [] g M Q := by
  have hI0 := hI
  obtain ⟨hA, hld, hl01, q, hc, ⟨nx, sz, hH, hsz⟩, hS⟩ := hI0
  have hH0 := hH
  obtain ⟨⟨hn1, hn0⟩, ⟨hz2, hz0⟩, h10, hHj⟩ := hH0
  obtain ⟨hw0, ⟨bu, by_, hb1, hb13, hbu, hZ, hU⟩, he3, he4, he5, hId, tx, hT, hUt, htl, htr⟩ := hA
  obtain ⟨s, hP, hRB, hO, hV, hQ, h40⟩ := hc hl
  have ys3 := V_3 hV
  have ys4 := V_4 hV
  have yq0 := Q_0 hQ
  have yq1 := Q_1 hQ
  obtain ⟨v1, hv1⟩ : ∃ u9 : Int, M 1 (i + 1) = u9 := ⟨_, rfl⟩
  have hr1 : -2147483648 ≤ v1 ∧ v1 < 2147483648 := hv1 ▸ scr_rg hw0 (i + 1)
  have hS1 := HD_s hD
  have hS100 := HD_y hD
  have hS149 := HD_b hD
  have hS448 := HD_o hD
  have hS464 := HD_u hD
  refine ok_aloadn (pc' := 470) i0_469 rfl rfl <| ok_aloadn (pc' := 471) i0_470 rfl rfl <| ok_iload (pc' := 473) i0_471 rfl rfl <| ok_iconst (pc' := 474) i0_473 rfl <| ok_iadd (v := (i + 1)) (pc' := 475) i0_474 rfl rfl <| ok_iaload (v := 4) (pc' := 476) i0_475 (ShScr_k0 hS1) (by decide) (ShScr_l0 hS1) (by omega) hc1 rfl <| ok_aloadn (pc' := 477) i0_476 rfl rfl <| ok_cc i0_477 rfl (cl_s o0 m13_207 na280 rfl rfl (bt rfl) (bt rfl) rfl) ln280 (pd280 (aR 100) (aI 4) (aR 464)) <| ?_
  refine ok_aloadn (pc' := 1) i280_0 rfl rfl <| ok_iconst (pc' := 2) i280_1 rfl <| ok_aloadn (pc' := 3) i280_2 rfl rfl <| ok_iloadn (pc' := 4) i280_3 rfl rfl <| ok_cc i280_4 rfl (cl_v o280 m13_17 na98 rfl rfl (bt rfl) (bt rfl) rfl (by rw [ShYard_k0 hS100, o98])) ln98 (pd98 (aR 100) (aI 4)) <| ok_aloadn (pc' := 1) i98_0 rfl rfl <| ok_cc i98_1 rfl (cl_v o98 m0_132 na99 rfl rfl (bt rfl) (bt rfl) rfl (by rw [ShYard_k0 hS100, o99])) ln99 (pd99 (aR 100)) <| ok_aloadn (pc' := 1) i99_0 rfl rfl <| ?_
  refine ok_getfi (v := 1) (pc' := 4) i99_1 o99 gi0_268 (ShYard_k0 hS100) hl rfl <| ok_kz1 (pc1 := 18) (pc2 := 7) i99_4 (by decide) rfl rfl <| ok_vret i99_18 rt99 <| kt_0 (pc' := 4) rfl <| ok_iloadn (pc' := 5) i98_4 rfl rfl <| ok_tsw (pc' := 84) (off := 79) i98_5 ⟨by decide, by decide⟩ (Or.inl ⟨by decide, by decide, rfl⟩) rfl <| ok_aloadn (pc' := 85) i98_84 rfl rfl <| ok_getfr (r := 149) (pc' := 88) i98_85 o98 gr0_39 (ShYard_k0 hS100) (ShYard_r8 hS100) rfl <| ?_
  refine ok_cp (pc' := 91) (d0 := 0) i98_88 rfl (cl_v o98 m0_144 na18 rfl rfl (bt rfl) (bt rfl) rfl (by rw [ShState_k0 hS149, o18])) ln18 (pd18 (aR 149)) (by omega) (t18 hS149 hRB hV hQ) rfl <| ok_ireti i98_91 rt98 <| kt_v (pc' := 7) rfl <| ok_i2l (v := (wr (r18 s))) (pc' := 8) i280_7 rfl rfl <| ok_lastore (pc' := 9) i280_8 (ShOut_k0 hS464) (ShOut_l0 hS464) (by decide) rfl <| ok_goto (pc' := 18) i280_9 rfl <| ok_iconst (pc' := 19) i280_18 rfl <| ok_ireti i280_19 rt280 <| ?_
  refine kt_v (pc' := 480) rfl <| ok_istore (pc' := 482) (ls' := [aR 1, aR 100, aR 448, aR 464, aR 465, aI i, aI 0, w7, w8]) i0_480 (bt rfl) rfl rfl <| ok_aloadn (pc' := 483) i0_482 rfl rfl <| ok_aloadn (pc' := 484) i0_483 rfl rfl <| ok_iload (pc' := 486) i0_484 rfl rfl <| ok_iconst (pc' := 487) i0_486 rfl <| ok_iadd (v := (i + 1)) (pc' := 488) i0_487 rfl rfl <| ok_iaload (v := 4) (pc' := 489) i0_488 (ShScr_k0 hS1) (by decide) (ShScr_l0 hS1) (by omega) (rd_na (by omega) hc1) rfl <| ?_
  refine ok_cc i0_489 rfl (cl_v o0 m13_209 na187 rfl rfl (bt rfl) (bt rfl) rfl (by rw [ShModel_k0 hS448, o187])) ln187 (pd187 (aR 448) (aI 4)) <| ok_aloadn (pc' := 1) i187_0 rfl rfl <| ok_cc i187_1 rfl (cl_v o187 m9_216 na188 rfl rfl (bt rfl) (bt rfl) rfl (by rw [ShModel_k0 hS448, o188])) ln188 (pd188 (aR 448)) <| ok_aloadn (pc' := 1) i188_0 rfl rfl <| ok_iconst (pc' := 2) i188_1 rfl <| ok_putfj (kk := 0) (pc' := 5) i188_2 o188 pi188_63 (ShModel_k0 hS448) rfl rfl <| ok_aloadn (pc' := 6) i188_5 rfl rfl <| ok_aloadn (pc' := 7) i188_6 rfl rfl <| ?_
  refine ok_getfi (v := 1) (pc' := 10) i188_7 o188 gi9_66 (ShModel_k0 hS448) (rd_ni (by decide) (rd_na (by omega) (hld.trans hl))) rfl <| ok_kz1 (pc1 := 17) (pc2 := 13) i188_10 (by decide) rfl rfl <| ok_iconst (pc' := 18) i188_17 rfl <| ok_iconst (pc' := 19) i188_18 rfl <| ok_cc i188_19 rfl (cl_v o188 m9_70 na165 rfl rfl (bt rfl) (bt rfl) rfl (by rw [ShModel_k0 hS448, o165])) ln165 (pd165 (aR 448) (aI 0) (aI 1)) <| ok_aloadn (pc' := 1) i165_0 rfl rfl <| ok_getfi (v := 0) (pc' := 4) i165_1 o165 gi9_63 (ShModel_k0 hS448) rd_eq rfl <| ok_kz0 (pc1 := 16) (pc2 := 7) i165_4 (by decide) rfl rfl <| ?_
  refine ok_iloadn (pc' := 8) i165_7 rfl rfl <| ok_kz1 (pc1 := 16) (pc2 := 11) i165_8 (by decide) rfl rfl <| ok_aloadn (pc' := 17) i165_16 rfl rfl <| ok_getfi (v := 0) (pc' := 20) i165_17 o165 gi9_63 (ShModel_k0 hS448) rd_eq rfl <| ok_kz1 (pc1 := 27) (pc2 := 23) i165_20 (by decide) rfl rfl <| ok_iconst (pc' := 28) i165_27 rfl <| ok_iretz i165_28 rt165 (by decide) <| kt_v (pc' := 22) rfl <| ?_
  refine ok_iretz i188_22 rt188 (by decide) <| kt_v (pc' := 4) rfl <| ok_kz0 (pc1 := 30) (pc2 := 7) i187_4 (by decide) rfl rfl <| ok_aloadn (pc' := 8) i187_7 rfl rfl <| ok_iloadn (pc' := 9) i187_8 rfl rfl <| ok_iconst (pc' := 10) i187_9 rfl <| ok_bipush (v := 7) (pc' := 12) i187_10 rfl rfl <| ok_cc i187_12 rfl (cl_s o187 m9_140 na164 rfl rfl (bt rfl) (bt rfl) rfl) ln164 (pd164 (aI 4) (aI 0) (aI 7)) <| ?_
  refine ok_iloadn (pc' := 1) i164_0 rfl rfl <| ok_iloadn (pc' := 2) i164_1 rfl rfl <| ok_kc0 (pc1 := 14) (pc2 := 5) i164_2 (by decide) rfl rfl <| ok_iloadn (pc' := 6) i164_5 rfl rfl <| ok_iloadn (pc' := 7) i164_6 rfl rfl <| ok_kc0 (pc1 := 14) (pc2 := 10) i164_7 (by decide) rfl rfl <| ok_iconst (pc' := 11) i164_10 rfl <| ok_goto (pc' := 15) i164_11 rfl <| ?_
  refine ok_iretz i164_15 rt164 (by decide) <| kt_v (pc' := 15) rfl <| ok_kz1 (pc1 := 22) (pc2 := 18) i187_15 (by decide) rfl rfl <| ok_iconst (pc' := 23) i187_22 rfl <| ok_iconst (pc' := 24) i187_23 rfl <| ok_cc i187_24 rfl (cl_v o187 m9_70 na165 rfl rfl (bt rfl) (bt rfl) rfl (by rw [ShModel_k0 hS448, o165])) ln165 (pd165 (aR 448) (aI 0) (aI 2)) <| ok_aloadn (pc' := 1) i165_0 rfl rfl <| ok_getfi (v := 0) (pc' := 4) i165_1 o165 gi9_63 (ShModel_k0 hS448) rd_eq rfl <| ?_
  refine ok_kz0 (pc1 := 16) (pc2 := 7) i165_4 (by decide) rfl rfl <| ok_iloadn (pc' := 8) i165_7 rfl rfl <| ok_kz1 (pc1 := 16) (pc2 := 11) i165_8 (by decide) rfl rfl <| ok_aloadn (pc' := 17) i165_16 rfl rfl <| ok_getfi (v := 0) (pc' := 20) i165_17 o165 gi9_63 (ShModel_k0 hS448) rd_eq rfl <| ok_kz1 (pc1 := 27) (pc2 := 23) i165_20 (by decide) rfl rfl <| ok_iconst (pc' := 28) i165_27 rfl <| ok_iretz i165_28 rt165 (by decide) <| ?_
  refine kt_v (pc' := 27) rfl <| ok_kz1 (pc1 := 32) (pc2 := 30) i187_27 (by decide) rfl rfl <| ok_iconst (pc' := 33) i187_32 rfl <| ok_istoren (pc' := 34) (ls' := [aR 448, aI 4, aI 0, aU]) i187_33 (bt rfl) rfl rfl <| ok_iloadn (pc' := 35) i187_34 rfl rfl <| ok_tsw (pc' := 100) (off := 65) i187_35 ⟨by decide, by decide⟩ (Or.inl ⟨by decide, by decide, rfl⟩) rfl <| ok_iconst (pc' := 101) i187_100 rfl <| ok_istoren (pc' := 102) (ls' := [aR 448, aI 4, aI 0, aI 0]) i187_101 (bt rfl) rfl rfl <| ?_
  refine w187_102 (x1 := 4) hS448 (RepO.fr hO ⟨(by rw [up2_rd, if_neg (by omega), up2_na (by omega)]), (by rw [up2_rd, if_neg (by omega), up2_na (by omega)])⟩ (fun a h1 h2 => (by rw [up2_na (by omega), up2_na (by omega)]))) hV hQ (by omega)  (?_)
  refine ok_iloadn (pc' := 130) i187_129 rfl rfl <| ok_ireti i187_130 rt187 <| kt_v (pc' := 492) rfl <| ok_istore (pc' := 494) (ls' := [aR 1, aR 100, aR 448, aR 464, aR 465, aI i, aI 0, aI (itv (f187_102 s) 0 0 ((s 3).toNat)), w8]) i0_492 (bt rfl) rfl rfl <| ok_aloadn (pc' := 495) i0_494 rfl rfl <| ok_cc i0_495 rfl (cl_v o0 m13_188 na157 rfl rfl (bt rfl) (bt rfl) rfl (by rw [ShModel_k0 hS448, o157])) ln157 (pd157 (aR 448)) <| ok_aloadn (pc' := 1) i157_0 rfl rfl <| ok_getfi (v := 0) (pc' := 4) i157_1 o157 gi9_63 (ShModel_k0 hS448) rd_eq rfl <| ?_
  refine ok_ireti i157_4 rt157 <| kt_v (pc' := 498) rfl <| ok_iload (pc' := 500) i0_498 rfl rfl <| ok_kc1 (pc1 := 505) (pc2 := 503) i0_500 (by decide) rfl rfl <| ok_iload (pc' := 507) i0_505 rfl rfl <| ok_kz0 (pc1 := 522) (pc2 := 510) i0_507 (by decide) rfl rfl <| ok_aloadn (pc' := 511) i0_510 rfl rfl <| ok_iconst (pc' := 512) i0_511 rfl <| ?_
  refine ok_laload (v := (wr (r18 s))) (pc' := 513) i0_512 (ShOut_k0 hS464) (ShOut_l0 hS464) (by decide) (rd_na (by omega) rd_eq) rfl <| ok_iload (pc' := 515) i0_513 rfl rfl <| ok_i2l (v := (wr (itv (f187_102 s) 0 0 ((s 3).toNat)))) (pc' := 516) i0_515 rfl rfl <| ok_lcmpe (congrArg wr (e_187a (s := s))) (pc' := 517) i0_516 rfl <| ok_kz1 (pc1 := 522) (pc2 := 520) i0_517 (by decide) rfl rfl <| ok_goto (pc' := 3329) i0_522 rfl <| ?_
  exact K _ _ _ _ _ _ hD (by omega) (Inv_mono (Inv_same hI (Same.thr (Same.out Same.rfl))) (by omega))
theorem c6_1_5 {L n : Nat} {g : AG} {M : AM} {xs : Nat → Int32} {b i : Int} {w6 w7 w8 : AV} {Q : AO → AG → AM → Prop} (hD : HD L n g) (hI : Inv xs b M) (hi : 0 ≤ i ∧ i + 6 ≤ L) (hb : 0 ≤ b ∧ b ≤ 900000) (hl : M 100 6 = 1) (hc1 : M 1 (i + 1) = 5) (K : KK L n i b xs Q) :
    Ok 10 0 469 [aR 1, aR 100, aR 448, aR 464, aR 465, aI i, w6, w7, w8] [] g M Q := by
  have hI0 := hI
  obtain ⟨hA, hld, hl01, q, hc, ⟨nx, sz, hH, hsz⟩, hS⟩ := hI0
  have hH0 := hH
  obtain ⟨⟨hn1, hn0⟩, ⟨hz2, hz0⟩, h10, hHj⟩ := hH0
  obtain ⟨hw0, ⟨bu, by_, hb1, hb13, hbu, hZ, hU⟩, he3, he4, he5, hId, tx, hT, hUt, htl, htr⟩ := hA
  obtain ⟨s, hP, hRB, hO, hV, hQ, h40⟩ := hc hl
  have ys3 := V_3 hV
  have ys4 := V_4 hV
  have yq0 := Q_0 hQ
  have yq1 := Q_1 hQ
  obtain ⟨v1, hv1⟩ : ∃ u9 : Int, M 1 (i + 1) = u9 := ⟨_, rfl⟩
  have hr1 : -2147483648 ≤ v1 ∧ v1 < 2147483648 := hv1 ▸ scr_rg hw0 (i + 1)
  have hS1 := HD_s hD
  have hS100 := HD_y hD
  have hS149 := HD_b hD
  have hS448 := HD_o hD
  have hS464 := HD_u hD
  refine ok_aloadn (pc' := 470) i0_469 rfl rfl <| ok_aloadn (pc' := 471) i0_470 rfl rfl <| ok_iload (pc' := 473) i0_471 rfl rfl <| ok_iconst (pc' := 474) i0_473 rfl <| ok_iadd (v := (i + 1)) (pc' := 475) i0_474 rfl rfl <| ok_iaload (v := 5) (pc' := 476) i0_475 (ShScr_k0 hS1) (by decide) (ShScr_l0 hS1) (by omega) hc1 rfl <| ok_aloadn (pc' := 477) i0_476 rfl rfl <| ok_cc i0_477 rfl (cl_s o0 m13_207 na280 rfl rfl (bt rfl) (bt rfl) rfl) ln280 (pd280 (aR 100) (aI 5) (aR 464)) <| ?_
  refine ok_aloadn (pc' := 1) i280_0 rfl rfl <| ok_iconst (pc' := 2) i280_1 rfl <| ok_aloadn (pc' := 3) i280_2 rfl rfl <| ok_iloadn (pc' := 4) i280_3 rfl rfl <| ok_cc i280_4 rfl (cl_v o280 m13_17 na98 rfl rfl (bt rfl) (bt rfl) rfl (by rw [ShYard_k0 hS100, o98])) ln98 (pd98 (aR 100) (aI 5)) <| ok_aloadn (pc' := 1) i98_0 rfl rfl <| ok_cc i98_1 rfl (cl_v o98 m0_132 na99 rfl rfl (bt rfl) (bt rfl) rfl (by rw [ShYard_k0 hS100, o99])) ln99 (pd99 (aR 100)) <| ok_aloadn (pc' := 1) i99_0 rfl rfl <| ?_
  refine ok_getfi (v := 1) (pc' := 4) i99_1 o99 gi0_268 (ShYard_k0 hS100) hl rfl <| ok_kz1 (pc1 := 18) (pc2 := 7) i99_4 (by decide) rfl rfl <| ok_vret i99_18 rt99 <| kt_0 (pc' := 4) rfl <| ok_iloadn (pc' := 5) i98_4 rfl rfl <| ok_tsw (pc' := 92) (off := 87) i98_5 ⟨by decide, by decide⟩ (Or.inl ⟨by decide, by decide, rfl⟩) rfl <| ok_aloadn (pc' := 93) i98_92 rfl rfl <| ok_getfr (r := 149) (pc' := 96) i98_93 o98 gr0_39 (ShYard_k0 hS100) (ShYard_r8 hS100) rfl <| ?_
  refine ok_cp (pc' := 99) (d0 := 0) i98_96 rfl (cl_v o98 m0_147 na19 rfl rfl (bt rfl) (bt rfl) rfl (by rw [ShState_k0 hS149, o19])) ln19 (pd19 (aR 149)) (by omega) (t19 hS149 (RepS.toD hRB) hV hQ) rfl <| ok_ireti i98_99 rt98 <| kt_v (pc' := 7) rfl <| ok_i2l (v := (wr (r19 s))) (pc' := 8) i280_7 rfl rfl <| ok_lastore (pc' := 9) i280_8 (ShOut_k0 hS464) (ShOut_l0 hS464) (by decide) rfl <| ok_goto (pc' := 18) i280_9 rfl <| ok_iconst (pc' := 19) i280_18 rfl <| ok_ireti i280_19 rt280 <| ?_
  refine kt_v (pc' := 480) rfl <| ok_istore (pc' := 482) (ls' := [aR 1, aR 100, aR 448, aR 464, aR 465, aI i, aI 0, w7, w8]) i0_480 (bt rfl) rfl rfl <| ok_aloadn (pc' := 483) i0_482 rfl rfl <| ok_aloadn (pc' := 484) i0_483 rfl rfl <| ok_iload (pc' := 486) i0_484 rfl rfl <| ok_iconst (pc' := 487) i0_486 rfl <| ok_iadd (v := (i + 1)) (pc' := 488) i0_487 rfl rfl <| ok_iaload (v := 5) (pc' := 489) i0_488 (ShScr_k0 hS1) (by decide) (ShScr_l0 hS1) (by omega) (rd_na (by omega) hc1) rfl <| ?_
  refine ok_cc i0_489 rfl (cl_v o0 m13_209 na187 rfl rfl (bt rfl) (bt rfl) rfl (by rw [ShModel_k0 hS448, o187])) ln187 (pd187 (aR 448) (aI 5)) <| ok_aloadn (pc' := 1) i187_0 rfl rfl <| ok_cc i187_1 rfl (cl_v o187 m9_216 na188 rfl rfl (bt rfl) (bt rfl) rfl (by rw [ShModel_k0 hS448, o188])) ln188 (pd188 (aR 448)) <| ok_aloadn (pc' := 1) i188_0 rfl rfl <| ok_iconst (pc' := 2) i188_1 rfl <| ok_putfj (kk := 0) (pc' := 5) i188_2 o188 pi188_63 (ShModel_k0 hS448) rfl rfl <| ok_aloadn (pc' := 6) i188_5 rfl rfl <| ok_aloadn (pc' := 7) i188_6 rfl rfl <| ?_
  refine ok_getfi (v := 1) (pc' := 10) i188_7 o188 gi9_66 (ShModel_k0 hS448) (rd_ni (by decide) (rd_na (by omega) (hld.trans hl))) rfl <| ok_kz1 (pc1 := 17) (pc2 := 13) i188_10 (by decide) rfl rfl <| ok_iconst (pc' := 18) i188_17 rfl <| ok_iconst (pc' := 19) i188_18 rfl <| ok_cc i188_19 rfl (cl_v o188 m9_70 na165 rfl rfl (bt rfl) (bt rfl) rfl (by rw [ShModel_k0 hS448, o165])) ln165 (pd165 (aR 448) (aI 0) (aI 1)) <| ok_aloadn (pc' := 1) i165_0 rfl rfl <| ok_getfi (v := 0) (pc' := 4) i165_1 o165 gi9_63 (ShModel_k0 hS448) rd_eq rfl <| ok_kz0 (pc1 := 16) (pc2 := 7) i165_4 (by decide) rfl rfl <| ?_
  refine ok_iloadn (pc' := 8) i165_7 rfl rfl <| ok_kz1 (pc1 := 16) (pc2 := 11) i165_8 (by decide) rfl rfl <| ok_aloadn (pc' := 17) i165_16 rfl rfl <| ok_getfi (v := 0) (pc' := 20) i165_17 o165 gi9_63 (ShModel_k0 hS448) rd_eq rfl <| ok_kz1 (pc1 := 27) (pc2 := 23) i165_20 (by decide) rfl rfl <| ok_iconst (pc' := 28) i165_27 rfl <| ok_iretz i165_28 rt165 (by decide) <| kt_v (pc' := 22) rfl <| ?_
  refine ok_iretz i188_22 rt188 (by decide) <| kt_v (pc' := 4) rfl <| ok_kz0 (pc1 := 30) (pc2 := 7) i187_4 (by decide) rfl rfl <| ok_aloadn (pc' := 8) i187_7 rfl rfl <| ok_iloadn (pc' := 9) i187_8 rfl rfl <| ok_iconst (pc' := 10) i187_9 rfl <| ok_bipush (v := 7) (pc' := 12) i187_10 rfl rfl <| ok_cc i187_12 rfl (cl_s o187 m9_140 na164 rfl rfl (bt rfl) (bt rfl) rfl) ln164 (pd164 (aI 5) (aI 0) (aI 7)) <| ?_
  refine ok_iloadn (pc' := 1) i164_0 rfl rfl <| ok_iloadn (pc' := 2) i164_1 rfl rfl <| ok_kc0 (pc1 := 14) (pc2 := 5) i164_2 (by decide) rfl rfl <| ok_iloadn (pc' := 6) i164_5 rfl rfl <| ok_iloadn (pc' := 7) i164_6 rfl rfl <| ok_kc0 (pc1 := 14) (pc2 := 10) i164_7 (by decide) rfl rfl <| ok_iconst (pc' := 11) i164_10 rfl <| ok_goto (pc' := 15) i164_11 rfl <| ?_
  refine ok_iretz i164_15 rt164 (by decide) <| kt_v (pc' := 15) rfl <| ok_kz1 (pc1 := 22) (pc2 := 18) i187_15 (by decide) rfl rfl <| ok_iconst (pc' := 23) i187_22 rfl <| ok_iconst (pc' := 24) i187_23 rfl <| ok_cc i187_24 rfl (cl_v o187 m9_70 na165 rfl rfl (bt rfl) (bt rfl) rfl (by rw [ShModel_k0 hS448, o165])) ln165 (pd165 (aR 448) (aI 0) (aI 2)) <| ok_aloadn (pc' := 1) i165_0 rfl rfl <| ok_getfi (v := 0) (pc' := 4) i165_1 o165 gi9_63 (ShModel_k0 hS448) rd_eq rfl <| ?_
  refine ok_kz0 (pc1 := 16) (pc2 := 7) i165_4 (by decide) rfl rfl <| ok_iloadn (pc' := 8) i165_7 rfl rfl <| ok_kz1 (pc1 := 16) (pc2 := 11) i165_8 (by decide) rfl rfl <| ok_aloadn (pc' := 17) i165_16 rfl rfl <| ok_getfi (v := 0) (pc' := 20) i165_17 o165 gi9_63 (ShModel_k0 hS448) rd_eq rfl <| ok_kz1 (pc1 := 27) (pc2 := 23) i165_20 (by decide) rfl rfl <| ok_iconst (pc' := 28) i165_27 rfl <| ok_iretz i165_28 rt165 (by decide) <| ?_
  refine kt_v (pc' := 27) rfl <| ok_kz1 (pc1 := 32) (pc2 := 30) i187_27 (by decide) rfl rfl <| ok_iconst (pc' := 33) i187_32 rfl <| ok_istoren (pc' := 34) (ls' := [aR 448, aI 5, aI 0, aU]) i187_33 (bt rfl) rfl rfl <| ok_iloadn (pc' := 35) i187_34 rfl rfl <| ok_tsw (pc' := 131) (off := 96) i187_35 ⟨by decide, by decide⟩ (Or.inl ⟨by decide, by decide, rfl⟩) rfl <| ok_iconst (pc' := 132) i187_131 rfl <| ok_istoren (pc' := 133) (ls' := [aR 448, aI 5, aI 0, aI 0]) i187_132 (bt rfl) rfl rfl <| ?_
  refine w187_133 (x1 := 5) hS448 (RepO.fr hO ⟨(by rw [up2_rd, if_neg (by omega), up2_na (by omega)]), (by rw [up2_rd, if_neg (by omega), up2_na (by omega)])⟩ (fun a h1 h2 => (by rw [up2_na (by omega), up2_na (by omega)]))) hV hQ (by omega)  (?_)
  refine ok_iloadn (pc' := 161) i187_160 rfl rfl <| ok_ireti i187_161 rt187 <| kt_v (pc' := 492) rfl <| ok_istore (pc' := 494) (ls' := [aR 1, aR 100, aR 448, aR 464, aR 465, aI i, aI 0, aI (itv (f187_133 s) 0 0 ((s 4).toNat)), w8]) i0_492 (bt rfl) rfl rfl <| ok_aloadn (pc' := 495) i0_494 rfl rfl <| ok_cc i0_495 rfl (cl_v o0 m13_188 na157 rfl rfl (bt rfl) (bt rfl) rfl (by rw [ShModel_k0 hS448, o157])) ln157 (pd157 (aR 448)) <| ok_aloadn (pc' := 1) i157_0 rfl rfl <| ok_getfi (v := 0) (pc' := 4) i157_1 o157 gi9_63 (ShModel_k0 hS448) rd_eq rfl <| ?_
  refine ok_ireti i157_4 rt157 <| kt_v (pc' := 498) rfl <| ok_iload (pc' := 500) i0_498 rfl rfl <| ok_kc1 (pc1 := 505) (pc2 := 503) i0_500 (by decide) rfl rfl <| ok_iload (pc' := 507) i0_505 rfl rfl <| ok_kz0 (pc1 := 522) (pc2 := 510) i0_507 (by decide) rfl rfl <| ok_aloadn (pc' := 511) i0_510 rfl rfl <| ok_iconst (pc' := 512) i0_511 rfl <| ?_
  refine ok_laload (v := (wr (r19 s))) (pc' := 513) i0_512 (ShOut_k0 hS464) (ShOut_l0 hS464) (by decide) (rd_na (by omega) rd_eq) rfl <| ok_iload (pc' := 515) i0_513 rfl rfl <| ok_i2l (v := (wr (itv (f187_133 s) 0 0 ((s 4).toNat)))) (pc' := 516) i0_515 rfl rfl <| ok_lcmpe (congrArg wr (e_187b (s := s))) (pc' := 517) i0_516 rfl <| ok_kz1 (pc1 := 522) (pc2 := 520) i0_517 (by decide) rfl rfl <| ok_goto (pc' := 3329) i0_522 rfl <| ?_
  exact K _ _ _ _ _ _ hD (by omega) (Inv_mono (Inv_same hI (Same.thr (Same.out Same.rfl))) (by omega))
theorem c6_1_6 {L n : Nat} {g : AG} {M : AM} {xs : Nat → Int32} {b i : Int} {w6 w7 w8 : AV} {Q : AO → AG → AM → Prop} (hD : HD L n g) (hI : Inv xs b M) (hi : 0 ≤ i ∧ i + 6 ≤ L) (hb : 0 ≤ b ∧ b ≤ 900000) (hl : M 100 6 = 1) (hc1 : M 1 (i + 1) = 6) (K : KK L n i b xs Q) :
    Ok 10 0 469 [aR 1, aR 100, aR 448, aR 464, aR 465, aI i, w6, w7, w8] [] g M Q := by
  have hI0 := hI
  obtain ⟨hA, hld, hl01, q, hc, ⟨nx, sz, hH, hsz⟩, hS⟩ := hI0
  have hH0 := hH
  obtain ⟨⟨hn1, hn0⟩, ⟨hz2, hz0⟩, h10, hHj⟩ := hH0
  obtain ⟨hw0, ⟨bu, by_, hb1, hb13, hbu, hZ, hU⟩, he3, he4, he5, hId, tx, hT, hUt, htl, htr⟩ := hA
  obtain ⟨s, hP, hRB, hO, hV, hQ, h40⟩ := hc hl
  have ys3 := V_3 hV
  have ys4 := V_4 hV
  have yq0 := Q_0 hQ
  have yq1 := Q_1 hQ
  obtain ⟨v1, hv1⟩ : ∃ u9 : Int, M 1 (i + 1) = u9 := ⟨_, rfl⟩
  have hr1 : -2147483648 ≤ v1 ∧ v1 < 2147483648 := hv1 ▸ scr_rg hw0 (i + 1)
  have hS1 := HD_s hD
  have hS100 := HD_y hD
  have hS149 := HD_b hD
  have hS448 := HD_o hD
  have hS464 := HD_u hD
  refine ok_aloadn (pc' := 470) i0_469 rfl rfl <| ok_aloadn (pc' := 471) i0_470 rfl rfl <| ok_iload (pc' := 473) i0_471 rfl rfl <| ok_iconst (pc' := 474) i0_473 rfl <| ok_iadd (v := (i + 1)) (pc' := 475) i0_474 rfl rfl <| ok_iaload (v := 6) (pc' := 476) i0_475 (ShScr_k0 hS1) (by decide) (ShScr_l0 hS1) (by omega) hc1 rfl <| ok_aloadn (pc' := 477) i0_476 rfl rfl <| ok_cc i0_477 rfl (cl_s o0 m13_207 na280 rfl rfl (bt rfl) (bt rfl) rfl) ln280 (pd280 (aR 100) (aI 6) (aR 464)) <| ?_
  refine ok_aloadn (pc' := 1) i280_0 rfl rfl <| ok_iconst (pc' := 2) i280_1 rfl <| ok_aloadn (pc' := 3) i280_2 rfl rfl <| ok_iloadn (pc' := 4) i280_3 rfl rfl <| ok_cc i280_4 rfl (cl_v o280 m13_17 na98 rfl rfl (bt rfl) (bt rfl) rfl (by rw [ShYard_k0 hS100, o98])) ln98 (pd98 (aR 100) (aI 6)) <| ok_aloadn (pc' := 1) i98_0 rfl rfl <| ok_cc i98_1 rfl (cl_v o98 m0_132 na99 rfl rfl (bt rfl) (bt rfl) rfl (by rw [ShYard_k0 hS100, o99])) ln99 (pd99 (aR 100)) <| ok_aloadn (pc' := 1) i99_0 rfl rfl <| ?_
  refine ok_getfi (v := 1) (pc' := 4) i99_1 o99 gi0_268 (ShYard_k0 hS100) hl rfl <| ok_kz1 (pc1 := 18) (pc2 := 7) i99_4 (by decide) rfl rfl <| ok_vret i99_18 rt99 <| kt_0 (pc' := 4) rfl <| ok_iloadn (pc' := 5) i98_4 rfl rfl <| ok_tsw (pc' := 100) (off := 95) i98_5 ⟨by decide, by decide⟩ (Or.inl ⟨by decide, by decide, rfl⟩) rfl <| ok_aloadn (pc' := 101) i98_100 rfl rfl <| ok_getfr (r := 149) (pc' := 104) i98_101 o98 gr0_39 (ShYard_k0 hS100) (ShYard_r8 hS100) rfl <| ?_
  refine ok_cp (pc' := 107) (d0 := 0) i98_104 rfl (cl_v o98 m0_150 na20 rfl rfl (bt rfl) (bt rfl) rfl (by rw [ShState_k0 hS149, o20])) ln20 (pd20 (aR 149)) (by omega) (t20 hS149 (RepS.toD hRB) hV hQ) rfl <| ?_
  have z301 : 0 ≤ (r20 s) ∧ (r20 s) ≤ 144 := x20 (M := M) hS149 (RepS.toD hRB) hV hQ
  refine ok_ireti i98_107 rt98 <| kt_v (pc' := 7) rfl <| ok_i2l (v := (wr (r20 s))) (pc' := 8) i280_7 rfl rfl <| ok_lastore (pc' := 9) i280_8 (ShOut_k0 hS464) (ShOut_l0 hS464) (by decide) rfl <| ok_goto (pc' := 18) i280_9 rfl <| ok_iconst (pc' := 19) i280_18 rfl <| ok_ireti i280_19 rt280 <| kt_v (pc' := 480) rfl <| ?_
  refine ok_istore (pc' := 482) (ls' := [aR 1, aR 100, aR 448, aR 464, aR 465, aI i, aI 0, w7, w8]) i0_480 (bt rfl) rfl rfl <| ok_aloadn (pc' := 483) i0_482 rfl rfl <| ok_aloadn (pc' := 484) i0_483 rfl rfl <| ok_iload (pc' := 486) i0_484 rfl rfl <| ok_iconst (pc' := 487) i0_486 rfl <| ok_iadd (v := (i + 1)) (pc' := 488) i0_487 rfl rfl <| ok_iaload (v := 6) (pc' := 489) i0_488 (ShScr_k0 hS1) (by decide) (ShScr_l0 hS1) (by omega) (rd_na (by omega) hc1) rfl <| ok_cc i0_489 rfl (cl_v o0 m13_209 na187 rfl rfl (bt rfl) (bt rfl) rfl (by rw [ShModel_k0 hS448, o187])) ln187 (pd187 (aR 448) (aI 6)) <| ?_
  refine ok_aloadn (pc' := 1) i187_0 rfl rfl <| ok_cc i187_1 rfl (cl_v o187 m9_216 na188 rfl rfl (bt rfl) (bt rfl) rfl (by rw [ShModel_k0 hS448, o188])) ln188 (pd188 (aR 448)) <| ok_aloadn (pc' := 1) i188_0 rfl rfl <| ok_iconst (pc' := 2) i188_1 rfl <| ok_putfj (kk := 0) (pc' := 5) i188_2 o188 pi188_63 (ShModel_k0 hS448) rfl rfl <| ok_aloadn (pc' := 6) i188_5 rfl rfl <| ok_aloadn (pc' := 7) i188_6 rfl rfl <| ok_getfi (v := 1) (pc' := 10) i188_7 o188 gi9_66 (ShModel_k0 hS448) (rd_ni (by decide) (rd_na (by omega) (hld.trans hl))) rfl <| ?_
  refine ok_kz1 (pc1 := 17) (pc2 := 13) i188_10 (by decide) rfl rfl <| ok_iconst (pc' := 18) i188_17 rfl <| ok_iconst (pc' := 19) i188_18 rfl <| ok_cc i188_19 rfl (cl_v o188 m9_70 na165 rfl rfl (bt rfl) (bt rfl) rfl (by rw [ShModel_k0 hS448, o165])) ln165 (pd165 (aR 448) (aI 0) (aI 1)) <| ok_aloadn (pc' := 1) i165_0 rfl rfl <| ok_getfi (v := 0) (pc' := 4) i165_1 o165 gi9_63 (ShModel_k0 hS448) rd_eq rfl <| ok_kz0 (pc1 := 16) (pc2 := 7) i165_4 (by decide) rfl rfl <| ok_iloadn (pc' := 8) i165_7 rfl rfl <| ?_
  refine ok_kz1 (pc1 := 16) (pc2 := 11) i165_8 (by decide) rfl rfl <| ok_aloadn (pc' := 17) i165_16 rfl rfl <| ok_getfi (v := 0) (pc' := 20) i165_17 o165 gi9_63 (ShModel_k0 hS448) rd_eq rfl <| ok_kz1 (pc1 := 27) (pc2 := 23) i165_20 (by decide) rfl rfl <| ok_iconst (pc' := 28) i165_27 rfl <| ok_iretz i165_28 rt165 (by decide) <| kt_v (pc' := 22) rfl <| ok_iretz i188_22 rt188 (by decide) <| ?_
  refine kt_v (pc' := 4) rfl <| ok_kz0 (pc1 := 30) (pc2 := 7) i187_4 (by decide) rfl rfl <| ok_aloadn (pc' := 8) i187_7 rfl rfl <| ok_iloadn (pc' := 9) i187_8 rfl rfl <| ok_iconst (pc' := 10) i187_9 rfl <| ok_bipush (v := 7) (pc' := 12) i187_10 rfl rfl <| ok_cc i187_12 rfl (cl_s o187 m9_140 na164 rfl rfl (bt rfl) (bt rfl) rfl) ln164 (pd164 (aI 6) (aI 0) (aI 7)) <| ok_iloadn (pc' := 1) i164_0 rfl rfl <| ?_
  refine ok_iloadn (pc' := 2) i164_1 rfl rfl <| ok_kc0 (pc1 := 14) (pc2 := 5) i164_2 (by decide) rfl rfl <| ok_iloadn (pc' := 6) i164_5 rfl rfl <| ok_iloadn (pc' := 7) i164_6 rfl rfl <| ok_kc0 (pc1 := 14) (pc2 := 10) i164_7 (by decide) rfl rfl <| ok_iconst (pc' := 11) i164_10 rfl <| ok_goto (pc' := 15) i164_11 rfl <| ok_iretz i164_15 rt164 (by decide) <| ?_
  refine kt_v (pc' := 15) rfl <| ok_kz1 (pc1 := 22) (pc2 := 18) i187_15 (by decide) rfl rfl <| ok_iconst (pc' := 23) i187_22 rfl <| ok_iconst (pc' := 24) i187_23 rfl <| ok_cc i187_24 rfl (cl_v o187 m9_70 na165 rfl rfl (bt rfl) (bt rfl) rfl (by rw [ShModel_k0 hS448, o165])) ln165 (pd165 (aR 448) (aI 0) (aI 2)) <| ok_aloadn (pc' := 1) i165_0 rfl rfl <| ok_getfi (v := 0) (pc' := 4) i165_1 o165 gi9_63 (ShModel_k0 hS448) rd_eq rfl <| ok_kz0 (pc1 := 16) (pc2 := 7) i165_4 (by decide) rfl rfl <| ?_
  refine ok_iloadn (pc' := 8) i165_7 rfl rfl <| ok_kz1 (pc1 := 16) (pc2 := 11) i165_8 (by decide) rfl rfl <| ok_aloadn (pc' := 17) i165_16 rfl rfl <| ok_getfi (v := 0) (pc' := 20) i165_17 o165 gi9_63 (ShModel_k0 hS448) rd_eq rfl <| ok_kz1 (pc1 := 27) (pc2 := 23) i165_20 (by decide) rfl rfl <| ok_iconst (pc' := 28) i165_27 rfl <| ok_iretz i165_28 rt165 (by decide) <| kt_v (pc' := 27) rfl <| ?_
  refine ok_kz1 (pc1 := 32) (pc2 := 30) i187_27 (by decide) rfl rfl <| ok_iconst (pc' := 33) i187_32 rfl <| ok_istoren (pc' := 34) (ls' := [aR 448, aI 6, aI 0, aU]) i187_33 (bt rfl) rfl rfl <| ok_iloadn (pc' := 35) i187_34 rfl rfl <| ok_tsw (pc' := 162) (off := 127) i187_35 ⟨by decide, by decide⟩ (Or.inl ⟨by decide, by decide, rfl⟩) rfl <| ok_aloadn (pc' := 163) i187_162 rfl rfl <| ok_cp (pc' := 166) (d0 := 1) i187_163 rfl (cl_v o187 m9_235 na192 rfl rfl (bt rfl) (bt rfl) rfl (by rw [ShModel_k0 hS448, o192])) ln192 (pd192 (aR 448)) (by omega) (t192 hS448 (RepO.toE (RepO.fr hO ⟨(by rw [up2_rd, if_neg (by omega), up2_na (by omega)]), (by rw [up2_rd, if_neg (by omega), up2_na (by omega)])⟩ (fun a h1 h2 => (by rw [up2_na (by omega), up2_na (by omega)])))) hV hQ) rfl <| ?_
  have z302 : 0 ≤ (r192 s) ∧ (r192 s) ≤ 144 := x192 (M := (up2 (up2 M 464 0 (wr (r20 s))) 448 0 0)) hS448 (RepO.toE (RepO.fr hO ⟨(by rw [up2_rd, if_neg (by omega), up2_na (by omega)]), (by rw [up2_rd, if_neg (by omega), up2_na (by omega)])⟩ (fun a h1 h2 => (by rw [up2_na (by omega), up2_na (by omega)])))) hV hQ
  refine ok_ireti i187_166 rt187 <| kt_v (pc' := 492) rfl <| ok_istore (pc' := 494) (ls' := [aR 1, aR 100, aR 448, aR 464, aR 465, aI i, aI 0, aI (r192 s), w8]) i0_492 (bt rfl) rfl rfl <| ok_aloadn (pc' := 495) i0_494 rfl rfl <| ok_cc i0_495 rfl (cl_v o0 m13_188 na157 rfl rfl (bt rfl) (bt rfl) rfl (by rw [ShModel_k0 hS448, o157])) ln157 (pd157 (aR 448)) <| ok_aloadn (pc' := 1) i157_0 rfl rfl <| ok_getfi (v := 0) (pc' := 4) i157_1 o157 gi9_63 (ShModel_k0 hS448) rd_eq rfl <| ok_ireti i157_4 rt157 <| ?_
  refine kt_v (pc' := 498) rfl <| ok_iload (pc' := 500) i0_498 rfl rfl <| ok_kc1 (pc1 := 505) (pc2 := 503) i0_500 (by decide) rfl rfl <| ok_iload (pc' := 507) i0_505 rfl rfl <| ok_kz0 (pc1 := 522) (pc2 := 510) i0_507 (by decide) rfl rfl <| ok_aloadn (pc' := 511) i0_510 rfl rfl <| ok_iconst (pc' := 512) i0_511 rfl <| ok_laload (v := (wr (r20 s))) (pc' := 513) i0_512 (ShOut_k0 hS464) (ShOut_l0 hS464) (by decide) (rd_na (by omega) rd_eq) rfl <| ?_
  refine ok_iload (pc' := 515) i0_513 rfl rfl <| ok_i2l (v := (wr (r192 s))) (pc' := 516) i0_515 rfl rfl <| ok_lcmpe (congrArg wr (e_192 (s := s)).symm) (pc' := 517) i0_516 rfl <| ok_kz1 (pc1 := 522) (pc2 := 520) i0_517 (by decide) rfl rfl <| ok_goto (pc' := 3329) i0_522 rfl <| ?_
  exact K _ _ _ _ _ _ hD (by omega) (Inv_mono (Inv_same hI (Same.thr (Same.out Same.rfl))) (by omega))
theorem c6_1_7 {L n : Nat} {g : AG} {M : AM} {xs : Nat → Int32} {b i : Int} {w6 w7 w8 : AV} {Q : AO → AG → AM → Prop} (hD : HD L n g) (hI : Inv xs b M) (hi : 0 ≤ i ∧ i + 6 ≤ L) (hb : 0 ≤ b ∧ b ≤ 900000) (hl : M 100 6 = 1) (hc1 : M 1 (i + 1) = 7) (K : KK L n i b xs Q) :
    Ok 10 0 469 [aR 1, aR 100, aR 448, aR 464, aR 465, aI i, w6, w7, w8] [] g M Q := by
  have hI0 := hI
  obtain ⟨hA, hld, hl01, q, hc, ⟨nx, sz, hH, hsz⟩, hS⟩ := hI0
  have hH0 := hH
  obtain ⟨⟨hn1, hn0⟩, ⟨hz2, hz0⟩, h10, hHj⟩ := hH0
  obtain ⟨hw0, ⟨bu, by_, hb1, hb13, hbu, hZ, hU⟩, he3, he4, he5, hId, tx, hT, hUt, htl, htr⟩ := hA
  obtain ⟨s, hP, hRB, hO, hV, hQ, h40⟩ := hc hl
  have ys3 := V_3 hV
  have ys4 := V_4 hV
  have yq0 := Q_0 hQ
  have yq1 := Q_1 hQ
  obtain ⟨v1, hv1⟩ : ∃ u9 : Int, M 1 (i + 1) = u9 := ⟨_, rfl⟩
  have hr1 : -2147483648 ≤ v1 ∧ v1 < 2147483648 := hv1 ▸ scr_rg hw0 (i + 1)
  have hS1 := HD_s hD
  have hS100 := HD_y hD
  have hS149 := HD_b hD
  have hS448 := HD_o hD
  have hS464 := HD_u hD
  refine ok_aloadn (pc' := 470) i0_469 rfl rfl <| ok_aloadn (pc' := 471) i0_470 rfl rfl <| ok_iload (pc' := 473) i0_471 rfl rfl <| ok_iconst (pc' := 474) i0_473 rfl <| ok_iadd (v := (i + 1)) (pc' := 475) i0_474 rfl rfl <| ok_iaload (v := 7) (pc' := 476) i0_475 (ShScr_k0 hS1) (by decide) (ShScr_l0 hS1) (by omega) hc1 rfl <| ok_aloadn (pc' := 477) i0_476 rfl rfl <| ok_cc i0_477 rfl (cl_s o0 m13_207 na280 rfl rfl (bt rfl) (bt rfl) rfl) ln280 (pd280 (aR 100) (aI 7) (aR 464)) <| ?_
  refine ok_aloadn (pc' := 1) i280_0 rfl rfl <| ok_iconst (pc' := 2) i280_1 rfl <| ok_aloadn (pc' := 3) i280_2 rfl rfl <| ok_iloadn (pc' := 4) i280_3 rfl rfl <| ok_cc i280_4 rfl (cl_v o280 m13_17 na98 rfl rfl (bt rfl) (bt rfl) rfl (by rw [ShYard_k0 hS100, o98])) ln98 (pd98 (aR 100) (aI 7)) <| ok_aloadn (pc' := 1) i98_0 rfl rfl <| ok_cc i98_1 rfl (cl_v o98 m0_132 na99 rfl rfl (bt rfl) (bt rfl) rfl (by rw [ShYard_k0 hS100, o99])) ln99 (pd99 (aR 100)) <| ok_aloadn (pc' := 1) i99_0 rfl rfl <| ?_
  refine ok_getfi (v := 1) (pc' := 4) i99_1 o99 gi0_268 (ShYard_k0 hS100) hl rfl <| ok_kz1 (pc1 := 18) (pc2 := 7) i99_4 (by decide) rfl rfl <| ok_vret i99_18 rt99 <| kt_0 (pc' := 4) rfl <| ok_iloadn (pc' := 5) i98_4 rfl rfl <| ok_tsw (pc' := 108) (off := 103) i98_5 ⟨by decide, by decide⟩ (Or.inl ⟨by decide, by decide, rfl⟩) rfl <| ok_aloadn (pc' := 109) i98_108 rfl rfl <| ok_getfr (r := 149) (pc' := 112) i98_109 o98 gr0_39 (ShYard_k0 hS100) (ShYard_r8 hS100) rfl <| ?_
  refine ok_cp (pc' := 115) (d0 := 0) i98_112 rfl (cl_v o98 m0_153 na21 rfl rfl (bt rfl) (bt rfl) rfl (by rw [ShState_k0 hS149, o21])) ln21 (pd21 (aR 149)) (by omega) (t21 hS149 hRB hV hQ) rfl <| ok_ireti i98_115 rt98 <| kt_v (pc' := 7) rfl <| ok_i2l (v := (wr (r21 s))) (pc' := 8) i280_7 rfl rfl <| ok_lastore (pc' := 9) i280_8 (ShOut_k0 hS464) (ShOut_l0 hS464) (by decide) rfl <| ok_goto (pc' := 18) i280_9 rfl <| ok_iconst (pc' := 19) i280_18 rfl <| ok_ireti i280_19 rt280 <| ?_
  refine kt_v (pc' := 480) rfl <| ok_istore (pc' := 482) (ls' := [aR 1, aR 100, aR 448, aR 464, aR 465, aI i, aI 0, w7, w8]) i0_480 (bt rfl) rfl rfl <| ok_aloadn (pc' := 483) i0_482 rfl rfl <| ok_aloadn (pc' := 484) i0_483 rfl rfl <| ok_iload (pc' := 486) i0_484 rfl rfl <| ok_iconst (pc' := 487) i0_486 rfl <| ok_iadd (v := (i + 1)) (pc' := 488) i0_487 rfl rfl <| ok_iaload (v := 7) (pc' := 489) i0_488 (ShScr_k0 hS1) (by decide) (ShScr_l0 hS1) (by omega) (rd_na (by omega) hc1) rfl <| ?_
  refine ok_cc i0_489 rfl (cl_v o0 m13_209 na187 rfl rfl (bt rfl) (bt rfl) rfl (by rw [ShModel_k0 hS448, o187])) ln187 (pd187 (aR 448) (aI 7)) <| ok_aloadn (pc' := 1) i187_0 rfl rfl <| ok_cc i187_1 rfl (cl_v o187 m9_216 na188 rfl rfl (bt rfl) (bt rfl) rfl (by rw [ShModel_k0 hS448, o188])) ln188 (pd188 (aR 448)) <| ok_aloadn (pc' := 1) i188_0 rfl rfl <| ok_iconst (pc' := 2) i188_1 rfl <| ok_putfj (kk := 0) (pc' := 5) i188_2 o188 pi188_63 (ShModel_k0 hS448) rfl rfl <| ok_aloadn (pc' := 6) i188_5 rfl rfl <| ok_aloadn (pc' := 7) i188_6 rfl rfl <| ?_
  refine ok_getfi (v := 1) (pc' := 10) i188_7 o188 gi9_66 (ShModel_k0 hS448) (rd_ni (by decide) (rd_na (by omega) (hld.trans hl))) rfl <| ok_kz1 (pc1 := 17) (pc2 := 13) i188_10 (by decide) rfl rfl <| ok_iconst (pc' := 18) i188_17 rfl <| ok_iconst (pc' := 19) i188_18 rfl <| ok_cc i188_19 rfl (cl_v o188 m9_70 na165 rfl rfl (bt rfl) (bt rfl) rfl (by rw [ShModel_k0 hS448, o165])) ln165 (pd165 (aR 448) (aI 0) (aI 1)) <| ok_aloadn (pc' := 1) i165_0 rfl rfl <| ok_getfi (v := 0) (pc' := 4) i165_1 o165 gi9_63 (ShModel_k0 hS448) rd_eq rfl <| ok_kz0 (pc1 := 16) (pc2 := 7) i165_4 (by decide) rfl rfl <| ?_
  refine ok_iloadn (pc' := 8) i165_7 rfl rfl <| ok_kz1 (pc1 := 16) (pc2 := 11) i165_8 (by decide) rfl rfl <| ok_aloadn (pc' := 17) i165_16 rfl rfl <| ok_getfi (v := 0) (pc' := 20) i165_17 o165 gi9_63 (ShModel_k0 hS448) rd_eq rfl <| ok_kz1 (pc1 := 27) (pc2 := 23) i165_20 (by decide) rfl rfl <| ok_iconst (pc' := 28) i165_27 rfl <| ok_iretz i165_28 rt165 (by decide) <| kt_v (pc' := 22) rfl <| ?_
  refine ok_iretz i188_22 rt188 (by decide) <| kt_v (pc' := 4) rfl <| ok_kz0 (pc1 := 30) (pc2 := 7) i187_4 (by decide) rfl rfl <| ok_aloadn (pc' := 8) i187_7 rfl rfl <| ok_iloadn (pc' := 9) i187_8 rfl rfl <| ok_iconst (pc' := 10) i187_9 rfl <| ok_bipush (v := 7) (pc' := 12) i187_10 rfl rfl <| ok_cc i187_12 rfl (cl_s o187 m9_140 na164 rfl rfl (bt rfl) (bt rfl) rfl) ln164 (pd164 (aI 7) (aI 0) (aI 7)) <| ?_
  refine ok_iloadn (pc' := 1) i164_0 rfl rfl <| ok_iloadn (pc' := 2) i164_1 rfl rfl <| ok_kc0 (pc1 := 14) (pc2 := 5) i164_2 (by decide) rfl rfl <| ok_iloadn (pc' := 6) i164_5 rfl rfl <| ok_iloadn (pc' := 7) i164_6 rfl rfl <| ok_kc0 (pc1 := 14) (pc2 := 10) i164_7 (by decide) rfl rfl <| ok_iconst (pc' := 11) i164_10 rfl <| ok_goto (pc' := 15) i164_11 rfl <| ?_
  refine ok_iretz i164_15 rt164 (by decide) <| kt_v (pc' := 15) rfl <| ok_kz1 (pc1 := 22) (pc2 := 18) i187_15 (by decide) rfl rfl <| ok_iconst (pc' := 23) i187_22 rfl <| ok_iconst (pc' := 24) i187_23 rfl <| ok_cc i187_24 rfl (cl_v o187 m9_70 na165 rfl rfl (bt rfl) (bt rfl) rfl (by rw [ShModel_k0 hS448, o165])) ln165 (pd165 (aR 448) (aI 0) (aI 2)) <| ok_aloadn (pc' := 1) i165_0 rfl rfl <| ok_getfi (v := 0) (pc' := 4) i165_1 o165 gi9_63 (ShModel_k0 hS448) rd_eq rfl <| ?_
  refine ok_kz0 (pc1 := 16) (pc2 := 7) i165_4 (by decide) rfl rfl <| ok_iloadn (pc' := 8) i165_7 rfl rfl <| ok_kz1 (pc1 := 16) (pc2 := 11) i165_8 (by decide) rfl rfl <| ok_aloadn (pc' := 17) i165_16 rfl rfl <| ok_getfi (v := 0) (pc' := 20) i165_17 o165 gi9_63 (ShModel_k0 hS448) rd_eq rfl <| ok_kz1 (pc1 := 27) (pc2 := 23) i165_20 (by decide) rfl rfl <| ok_iconst (pc' := 28) i165_27 rfl <| ok_iretz i165_28 rt165 (by decide) <| ?_
  refine kt_v (pc' := 27) rfl <| ok_kz1 (pc1 := 32) (pc2 := 30) i187_27 (by decide) rfl rfl <| ok_iconst (pc' := 33) i187_32 rfl <| ok_istoren (pc' := 34) (ls' := [aR 448, aI 7, aI 0, aU]) i187_33 (bt rfl) rfl rfl <| ok_iloadn (pc' := 35) i187_34 rfl rfl <| ok_tsw (pc' := 167) (off := 132) i187_35 ⟨by decide, by decide⟩ (Or.inr ⟨by decide, rfl⟩) rfl <| ok_iconst (pc' := 168) i187_167 rfl <| ok_istoren (pc' := 169) (ls' := [aR 448, aI 7, aI 0, aI 1]) i187_168 (bt rfl) rfl rfl <| ?_
  refine w187_169 (x1 := 7) hS448 (RepO.fr hO ⟨(by rw [up2_rd, if_neg (by omega), up2_na (by omega)]), (by rw [up2_rd, if_neg (by omega), up2_na (by omega)])⟩ (fun a h1 h2 => (by rw [up2_na (by omega), up2_na (by omega)]))) hV hQ (by omega)  (?_)
  refine ok_iloadn (pc' := 196) i187_195 rfl rfl <| ok_ireti i187_196 rt187 <| kt_v (pc' := 492) rfl <| ok_istore (pc' := 494) (ls' := [aR 1, aR 100, aR 448, aR 464, aR 465, aI i, aI 0, aI (itv (f187_169 s) 0 1 200), w8]) i0_492 (bt rfl) rfl rfl <| ok_aloadn (pc' := 495) i0_494 rfl rfl <| ok_cc i0_495 rfl (cl_v o0 m13_188 na157 rfl rfl (bt rfl) (bt rfl) rfl (by rw [ShModel_k0 hS448, o157])) ln157 (pd157 (aR 448)) <| ok_aloadn (pc' := 1) i157_0 rfl rfl <| ok_getfi (v := 0) (pc' := 4) i157_1 o157 gi9_63 (ShModel_k0 hS448) rd_eq rfl <| ?_
  refine ok_ireti i157_4 rt157 <| kt_v (pc' := 498) rfl <| ok_iload (pc' := 500) i0_498 rfl rfl <| ok_kc1 (pc1 := 505) (pc2 := 503) i0_500 (by decide) rfl rfl <| ok_iload (pc' := 507) i0_505 rfl rfl <| ok_kz0 (pc1 := 522) (pc2 := 510) i0_507 (by decide) rfl rfl <| ok_aloadn (pc' := 511) i0_510 rfl rfl <| ok_iconst (pc' := 512) i0_511 rfl <| ?_
  refine ok_laload (v := (wr (r21 s))) (pc' := 513) i0_512 (ShOut_k0 hS464) (ShOut_l0 hS464) (by decide) (rd_na (by omega) rd_eq) rfl <| ok_iload (pc' := 515) i0_513 rfl rfl <| ok_i2l (v := (wr (itv (f187_169 s) 0 1 200))) (pc' := 516) i0_515 rfl rfl <| ok_lcmpe (congrArg wr (e_187c (s := s))) (pc' := 517) i0_516 rfl <| ok_kz1 (pc1 := 522) (pc2 := 520) i0_517 (by decide) rfl rfl <| ok_goto (pc' := 3329) i0_522 rfl <| ?_
  exact K _ _ _ _ _ _ hD (by omega) (Inv_mono (Inv_same hI (Same.thr (Same.out Same.rfl))) (by omega))
