/-! THE LAW'S CASES, 2c (by program, wip/gen) -/
theorem hh98 : am_hh 98 = [] := rfl
theorem hn280 : am_hh 280 ≠ [] := by decide +kernel
theorem hf280_4_12 : am_find 280 4 12 (am_hh 280) = some (12, 20) := by decide +kernel
theorem hr280_12 : am_hret 280 12 = some 1 := by decide +kernel
theorem hf288_4_12 : am_find 288 4 12 (am_hh 288) = some (12, 20) := by decide +kernel
theorem hr288_12 : am_hret 288 12 = some 1 := by decide +kernel
theorem hf289_4_12 : am_find 289 4 12 (am_hh 289) = some (12, 20) := by decide +kernel
theorem hr289_12 : am_hret 289 12 = some 1 := by decide +kernel
theorem m13_240 : am_mlk 13 240 1 290 = true := by decide +kernel
theorem na290 : am_na 290 = 4 := by decide +kernel
theorem nl290 : am_nL 290 = 5 := by decide +kernel
theorem pd290 : ∀ a0 a1 a2 a3 : AV, am_pad 290 [a0, a1, a2, a3] = [a0, a1, a2, a3, aU] := by intros; unfold am_pad; rw [nl290]; rfl
theorem ln290 : 4 ≤ am_nL 290 := by rw [nl290]; decide
theorem o290 : am_oc 290 = 13 := by decide +kernel
theorem m13_52 : am_mlk 13 52 0 115 = true := by decide +kernel
theorem na115 : am_na 115 = 2 := by decide +kernel
theorem nl115 : am_nL 115 = 3 := by decide +kernel
theorem pd115 : ∀ a0 a1 a2 : AV, am_pad 115 [a0, a1, a2] = [a0, a1, a2] := by intros; unfold am_pad; rw [nl115]; rfl
theorem ln115 : 3 ≤ am_nL 115 := by rw [nl115]; decide
theorem o115 : am_oc 115 = 0 := by decide +kernel
theorem hh115 : am_hh 115 = [] := rfl
theorem hn290 : am_hh 290 ≠ [] := by decide +kernel
theorem hf290_5_12 : am_find 290 5 12 (am_hh 290) = some (13, 20) := by decide +kernel
theorem hr290_13 : am_hret 290 13 = some 1 := by decide +kernel
theorem m13_242 : am_mlk 13 242 0 209 = true := by decide +kernel
theorem na209 : am_na 209 = 2 := by decide +kernel
theorem nl209 : am_nL 209 = 3 := by decide +kernel
theorem pd209 : ∀ a0 a1 a2 : AV, am_pad 209 [a0, a1, a2] = [a0, a1, a2] := by intros; unfold am_pad; rw [nl209]; rfl
theorem ln209 : 3 ≤ am_nL 209 := by rw [nl209]; decide
theorem o209 : am_oc 209 = 9 := by decide +kernel
theorem rt209 : am_rt 209 = some .int := by decide +kernel
theorem hf291_5_12 : am_find 291 5 12 (am_hh 291) = some (13, 20) := by decide +kernel
theorem hr291_13 : am_hret 291 13 = some 1 := by decide +kernel
theorem hh117 : am_hh 117 = [] := rfl
theorem hn292 : am_hh 292 ≠ [] := by decide +kernel
theorem hf292_3_12 : am_find 292 3 12 (am_hh 292) = some (11, 20) := by decide +kernel
theorem hr292_11 : am_hret 292 11 = some 1 := by decide +kernel
theorem hh118 : am_hh 118 = [] := rfl
theorem hn293 : am_hh 293 ≠ [] := by decide +kernel
theorem hf293_3_12 : am_find 293 3 12 (am_hh 293) = some (11, 20) := by decide +kernel
theorem hr293_11 : am_hret 293 11 = some 1 := by decide +kernel
theorem hh119 : am_hh 119 = [] := rfl
theorem hn294 : am_hh 294 ≠ [] := by decide +kernel
theorem hf294_3_12 : am_find 294 3 12 (am_hh 294) = some (11, 20) := by decide +kernel
theorem hr294_11 : am_hret 294 11 = some 1 := by decide +kernel
theorem hh120 : am_hh 120 = [] := rfl
theorem hn295 : am_hh 295 ≠ [] := by decide +kernel
theorem hf295_3_12 : am_find 295 3 12 (am_hh 295) = some (11, 20) := by decide +kernel
theorem hr295_11 : am_hret 295 11 = some 1 := by decide +kernel
theorem hh121 : am_hh 121 = [] := rfl
theorem hn296 : am_hh 296 ≠ [] := by decide +kernel
theorem hf296_3_12 : am_find 296 3 12 (am_hh 296) = some (11, 20) := by decide +kernel
theorem hr296_11 : am_hret 296 11 = some 1 := by decide +kernel
theorem hf297_5_12 : am_find 297 5 12 (am_hh 297) = some (20, 20) := by decide +kernel
theorem hr297_20 : am_hret 297 20 = some 1 := by decide +kernel
theorem hf298_5_12 : am_find 298 5 12 (am_hh 298) = some (13, 20) := by decide +kernel
theorem hr298_13 : am_hret 298 13 = some 1 := by decide +kernel
theorem hf299_4_12 : am_find 299 4 12 (am_hh 299) = some (12, 20) := by decide +kernel
theorem hr299_12 : am_hret 299 12 = some 1 := by decide +kernel
theorem hh125 : am_hh 125 = [] := rfl
theorem hn300 : am_hh 300 ≠ [] := by decide +kernel
theorem hf300_3_12 : am_find 300 3 12 (am_hh 300) = some (11, 20) := by decide +kernel
theorem hr300_11 : am_hret 300 11 = some 1 := by decide +kernel
theorem hf301_4_12 : am_find 301 4 12 (am_hh 301) = some (12, 20) := by decide +kernel
theorem hr301_12 : am_hret 301 12 = some 1 := by decide +kernel
theorem hf302_4_12 : am_find 302 4 12 (am_hh 302) = some (12, 20) := by decide +kernel
theorem hr302_12 : am_hret 302 12 = some 1 := by decide +kernel
theorem hf303_4_12 : am_find 303 4 12 (am_hh 303) = some (12, 20) := by decide +kernel
theorem hr303_12 : am_hret 303 12 = some 1 := by decide +kernel
theorem hf304_4_12 : am_find 304 4 12 (am_hh 304) = some (12, 20) := by decide +kernel
theorem hr304_12 : am_hret 304 12 = some 1 := by decide +kernel
theorem m13_285 : am_mlk 13 285 1 305 = true := by decide +kernel
theorem na305 : am_na 305 = 4 := by decide +kernel
theorem nl305 : am_nL 305 = 5 := by decide +kernel
theorem pd305 : ∀ a0 a1 a2 a3 : AV, am_pad 305 [a0, a1, a2, a3] = [a0, a1, a2, a3, aU] := by intros; unfold am_pad; rw [nl305]; rfl
theorem ln305 : 4 ≤ am_nL 305 := by rw [nl305]; decide
theorem o305 : am_oc 305 = 13 := by decide +kernel
theorem m13_98 : am_mlk 13 98 0 130 = true := by decide +kernel
theorem na130 : am_na 130 = 2 := by decide +kernel
theorem nl130 : am_nL 130 = 3 := by decide +kernel
theorem pd130 : ∀ a0 a1 a2 : AV, am_pad 130 [a0, a1, a2] = [a0, a1, a2] := by intros; unfold am_pad; rw [nl130]; rfl
theorem ln130 : 3 ≤ am_nL 130 := by rw [nl130]; decide
theorem o130 : am_oc 130 = 0 := by decide +kernel
theorem hh130 : am_hh 130 = [] := rfl
theorem hn305 : am_hh 305 ≠ [] := by decide +kernel
theorem hf305_5_12 : am_find 305 5 12 (am_hh 305) = some (13, 20) := by decide +kernel
theorem hr305_13 : am_hret 305 13 = some 1 := by decide +kernel
theorem m13_287 : am_mlk 13 287 0 247 = true := by decide +kernel
theorem na247 : am_na 247 = 2 := by decide +kernel
theorem nl247 : am_nL 247 = 5 := by decide +kernel
theorem pd247 : ∀ a0 a1 a2 : AV, am_pad 247 [a0, a1, a2] = [a0, a1, a2, aU, aU] := by intros; unfold am_pad; rw [nl247]; rfl
theorem ln247 : 3 ≤ am_nL 247 := by rw [nl247]; decide
theorem o247 : am_oc 247 = 9 := by decide +kernel
theorem rt247 : am_rt 247 = some .int := by decide +kernel
theorem hh131 : am_hh 131 = [] := rfl
theorem hn306 : am_hh 306 ≠ [] := by decide +kernel
theorem hf306_3_12 : am_find 306 3 12 (am_hh 306) = some (11, 20) := by decide +kernel
theorem hr306_11 : am_hret 306 11 = some 1 := by decide +kernel
theorem hf307_4_12 : am_find 307 4 12 (am_hh 307) = some (12, 20) := by decide +kernel
theorem hr307_12 : am_hret 307 12 = some 1 := by decide +kernel
theorem hh133 : am_hh 133 = [] := rfl
theorem hn308 : am_hh 308 ≠ [] := by decide +kernel
theorem hf308_3_12 : am_find 308 3 12 (am_hh 308) = some (11, 20) := by decide +kernel
theorem hr308_11 : am_hret 308 11 = some 1 := by decide +kernel
theorem hf309_4_12 : am_find 309 4 12 (am_hh 309) = some (12, 20) := by decide +kernel
theorem hr309_12 : am_hret 309 12 = some 1 := by decide +kernel
theorem hf313_5_12 : am_find 313 5 12 (am_hh 313) = some (13, 20) := by decide +kernel
theorem hr313_13 : am_hret 313 13 = some 1 := by decide +kernel
theorem m13_317 : am_mlk 13 317 1 314 = true := by decide +kernel
theorem na314 : am_na 314 = 2 := by decide +kernel
theorem nl314 : am_nL 314 = 3 := by decide +kernel
theorem pd314 : ∀ a0 a1 : AV, am_pad 314 [a0, a1] = [a0, a1, aU] := by intros; unfold am_pad; rw [nl314]; rfl
theorem ln314 : 2 ≤ am_nL 314 := by rw [nl314]; decide
theorem o314 : am_oc 314 = 13 := by decide +kernel
theorem m13_127 : am_mlk 13 127 0 139 = true := by decide +kernel
theorem na139 : am_na 139 = 0 := by decide +kernel
theorem nl139 : am_nL 139 = 2 := by decide +kernel
theorem pd139 : ∀ a0 : AV, am_pad 139 [a0] = [a0, aU] := by intros; unfold am_pad; rw [nl139]; rfl
theorem ln139 : 1 ≤ am_nL 139 := by rw [nl139]; decide
theorem hh139 : am_hh 139 = [] := rfl
theorem hn314 : am_hh 314 ≠ [] := by decide +kernel
theorem hf314_3_12 : am_find 314 3 12 (am_hh 314) = some (11, 20) := by decide +kernel
theorem hr314_11 : am_hret 314 11 = some 1 := by decide +kernel
theorem m13_319 : am_mlk 13 319 0 261 = true := by decide +kernel
theorem na261 : am_na 261 = 0 := by decide +kernel
theorem nl261 : am_nL 261 = 2 := by decide +kernel
theorem pd261 : ∀ a0 : AV, am_pad 261 [a0] = [a0, aU] := by intros; unfold am_pad; rw [nl261]; rfl
theorem ln261 : 1 ≤ am_nL 261 := by rw [nl261]; decide
theorem m13_320 : am_mlk 13 320 1 315 = true := by decide +kernel
theorem na315 : am_na 315 = 3 := by decide +kernel
theorem nl315 : am_nL 315 = 4 := by decide +kernel
theorem pd315 : ∀ a0 a1 a2 : AV, am_pad 315 [a0, a1, a2] = [a0, a1, a2, aU] := by intros; unfold am_pad; rw [nl315]; rfl
theorem ln315 : 3 ≤ am_nL 315 := by rw [nl315]; decide
theorem o315 : am_oc 315 = 13 := by decide +kernel
theorem m13_130 : am_mlk 13 130 0 141 = true := by decide +kernel
theorem na141 : am_na 141 = 1 := by decide +kernel
theorem nl141 : am_nL 141 = 2 := by decide +kernel
theorem pd141 : ∀ a0 a1 : AV, am_pad 141 [a0, a1] = [a0, a1] := by intros; unfold am_pad; rw [nl141]; rfl
theorem ln141 : 2 ≤ am_nL 141 := by rw [nl141]; decide
theorem hh141 : am_hh 141 = [] := rfl
theorem hn315 : am_hh 315 ≠ [] := by decide +kernel
theorem hf315_4_12 : am_find 315 4 12 (am_hh 315) = some (12, 20) := by decide +kernel
theorem hr315_12 : am_hret 315 12 = some 1 := by decide +kernel
theorem m13_322 : am_mlk 13 322 0 264 = true := by decide +kernel
theorem na264 : am_na 264 = 1 := by decide +kernel
theorem nl264 : am_nL 264 = 2 := by decide +kernel
theorem pd264 : ∀ a0 a1 : AV, am_pad 264 [a0, a1] = [a0, a1] := by intros; unfold am_pad; rw [nl264]; rfl
theorem ln264 : 2 ≤ am_nL 264 := by rw [nl264]; decide
theorem m13_326 : am_mlk 13 326 1 317 = true := by decide +kernel
theorem na317 : am_na 317 = 4 := by decide +kernel
theorem nl317 : am_nL 317 = 5 := by decide +kernel
theorem pd317 : ∀ a0 a1 a2 a3 : AV, am_pad 317 [a0, a1, a2, a3] = [a0, a1, a2, a3, aU] := by intros; unfold am_pad; rw [nl317]; rfl
theorem ln317 : 4 ≤ am_nL 317 := by rw [nl317]; decide
theorem o317 : am_oc 317 = 13 := by decide +kernel
theorem m13_136 : am_mlk 13 136 0 143 = true := by decide +kernel
theorem na143 : am_na 143 = 2 := by decide +kernel
theorem nl143 : am_nL 143 = 3 := by decide +kernel
theorem pd143 : ∀ a0 a1 a2 : AV, am_pad 143 [a0, a1, a2] = [a0, a1, a2] := by intros; unfold am_pad; rw [nl143]; rfl
theorem ln143 : 3 ≤ am_nL 143 := by rw [nl143]; decide
theorem o143 : am_oc 143 = 0 := by decide +kernel
theorem hh143 : am_hh 143 = [] := rfl
theorem hn317 : am_hh 317 ≠ [] := by decide +kernel
theorem hf317_5_12 : am_find 317 5 12 (am_hh 317) = some (13, 20) := by decide +kernel
theorem hr317_13 : am_hret 317 13 = some 1 := by decide +kernel
theorem m13_328 : am_mlk 13 328 0 266 = true := by decide +kernel
theorem na266 : am_na 266 = 2 := by decide +kernel
theorem nl266 : am_nL 266 = 3 := by decide +kernel
theorem pd266 : ∀ a0 a1 a2 : AV, am_pad 266 [a0, a1, a2] = [a0, a1, a2] := by intros; unfold am_pad; rw [nl266]; rfl
theorem ln266 : 3 ≤ am_nL 266 := by rw [nl266]; decide
theorem o266 : am_oc 266 = 9 := by decide +kernel
theorem rt266 : am_rt 266 = some .int := by decide +kernel
theorem m13_329 : am_mlk 13 329 1 318 = true := by decide +kernel
theorem na318 : am_na 318 = 4 := by decide +kernel
theorem nl318 : am_nL 318 = 5 := by decide +kernel
theorem pd318 : ∀ a0 a1 a2 a3 : AV, am_pad 318 [a0, a1, a2, a3] = [a0, a1, a2, a3, aU] := by intros; unfold am_pad; rw [nl318]; rfl
theorem ln318 : 4 ≤ am_nL 318 := by rw [nl318]; decide
theorem o318 : am_oc 318 = 13 := by decide +kernel
theorem m13_139 : am_mlk 13 139 0 144 = true := by decide +kernel
theorem na144 : am_na 144 = 2 := by decide +kernel
theorem nl144 : am_nL 144 = 3 := by decide +kernel
theorem pd144 : ∀ a0 a1 a2 : AV, am_pad 144 [a0, a1, a2] = [a0, a1, a2] := by intros; unfold am_pad; rw [nl144]; rfl
theorem ln144 : 3 ≤ am_nL 144 := by rw [nl144]; decide
theorem o144 : am_oc 144 = 0 := by decide +kernel
theorem hh144 : am_hh 144 = [] := rfl
theorem hn318 : am_hh 318 ≠ [] := by decide +kernel
theorem hf318_5_12 : am_find 318 5 12 (am_hh 318) = some (13, 20) := by decide +kernel
theorem hr318_13 : am_hret 318 13 = some 1 := by decide +kernel
theorem m13_331 : am_mlk 13 331 0 268 = true := by decide +kernel
theorem na268 : am_na 268 = 2 := by decide +kernel
theorem nl268 : am_nL 268 = 3 := by decide +kernel
theorem pd268 : ∀ a0 a1 a2 : AV, am_pad 268 [a0, a1, a2] = [a0, a1, a2] := by intros; unfold am_pad; rw [nl268]; rfl
theorem ln268 : 3 ≤ am_nL 268 := by rw [nl268]; decide
theorem o268 : am_oc 268 = 9 := by decide +kernel
theorem rt268 : am_rt 268 = some .int := by decide +kernel
theorem m13_332 : am_mlk 13 332 1 319 = true := by decide +kernel
theorem na319 : am_na 319 = 3 := by decide +kernel
theorem nl319 : am_nL 319 = 4 := by decide +kernel
theorem pd319 : ∀ a0 a1 a2 : AV, am_pad 319 [a0, a1, a2] = [a0, a1, a2, aU] := by intros; unfold am_pad; rw [nl319]; rfl
theorem ln319 : 3 ≤ am_nL 319 := by rw [nl319]; decide
theorem o319 : am_oc 319 = 13 := by decide +kernel
theorem m13_142 : am_mlk 13 142 0 145 = true := by decide +kernel
theorem na145 : am_na 145 = 1 := by decide +kernel
theorem nl145 : am_nL 145 = 2 := by decide +kernel
theorem pd145 : ∀ a0 a1 : AV, am_pad 145 [a0, a1] = [a0, a1] := by intros; unfold am_pad; rw [nl145]; rfl
theorem ln145 : 2 ≤ am_nL 145 := by rw [nl145]; decide
theorem o145 : am_oc 145 = 0 := by decide +kernel
theorem hh145 : am_hh 145 = [] := rfl
theorem hn319 : am_hh 319 ≠ [] := by decide +kernel
theorem hf319_4_12 : am_find 319 4 12 (am_hh 319) = some (12, 20) := by decide +kernel
theorem hr319_12 : am_hret 319 12 = some 1 := by decide +kernel
theorem m13_334 : am_mlk 13 334 0 269 = true := by decide +kernel
theorem na269 : am_na 269 = 1 := by decide +kernel
theorem nl269 : am_nL 269 = 2 := by decide +kernel
theorem pd269 : ∀ a0 a1 : AV, am_pad 269 [a0, a1] = [a0, a1] := by intros; unfold am_pad; rw [nl269]; rfl
theorem ln269 : 2 ≤ am_nL 269 := by rw [nl269]; decide
theorem o269 : am_oc 269 = 9 := by decide +kernel
theorem rt269 : am_rt 269 = some .int := by decide +kernel
theorem m13_335 : am_mlk 13 335 1 320 = true := by decide +kernel
theorem na320 : am_na 320 = 2 := by decide +kernel
theorem nl320 : am_nL 320 = 3 := by decide +kernel
theorem pd320 : ∀ a0 a1 : AV, am_pad 320 [a0, a1] = [a0, a1, aU] := by intros; unfold am_pad; rw [nl320]; rfl
theorem ln320 : 2 ≤ am_nL 320 := by rw [nl320]; decide
theorem o320 : am_oc 320 = 13 := by decide +kernel
theorem m13_145 : am_mlk 13 145 0 146 = true := by decide +kernel
theorem na146 : am_na 146 = 0 := by decide +kernel
theorem nl146 : am_nL 146 = 1 := by decide +kernel
theorem pd146 : ∀ a0 : AV, am_pad 146 [a0] = [a0] := by intros; unfold am_pad; rw [nl146]; rfl
theorem ln146 : 1 ≤ am_nL 146 := by rw [nl146]; decide
theorem o146 : am_oc 146 = 0 := by decide +kernel
theorem hh146 : am_hh 146 = [] := rfl
theorem hn320 : am_hh 320 ≠ [] := by decide +kernel
theorem hf320_3_12 : am_find 320 3 12 (am_hh 320) = some (11, 20) := by decide +kernel
theorem hr320_11 : am_hret 320 11 = some 1 := by decide +kernel
theorem m13_337 : am_mlk 13 337 0 270 = true := by decide +kernel
theorem na270 : am_na 270 = 0 := by decide +kernel
theorem nl270 : am_nL 270 = 1 := by decide +kernel
theorem pd270 : ∀ a0 : AV, am_pad 270 [a0] = [a0] := by intros; unfold am_pad; rw [nl270]; rfl
theorem ln270 : 1 ≤ am_nL 270 := by rw [nl270]; decide
theorem o270 : am_oc 270 = 9 := by decide +kernel
theorem rt270 : am_rt 270 = some .int := by decide +kernel
theorem m13_338 : am_mlk 13 338 1 321 = true := by decide +kernel
theorem na321 : am_na 321 = 3 := by decide +kernel
theorem nl321 : am_nL 321 = 4 := by decide +kernel
theorem pd321 : ∀ a0 a1 a2 : AV, am_pad 321 [a0, a1, a2] = [a0, a1, a2, aU] := by intros; unfold am_pad; rw [nl321]; rfl
theorem ln321 : 3 ≤ am_nL 321 := by rw [nl321]; decide
theorem o321 : am_oc 321 = 13 := by decide +kernel
theorem m13_148 : am_mlk 13 148 0 147 = true := by decide +kernel
theorem na147 : am_na 147 = 1 := by decide +kernel
theorem nl147 : am_nL 147 = 2 := by decide +kernel
theorem pd147 : ∀ a0 a1 : AV, am_pad 147 [a0, a1] = [a0, a1] := by intros; unfold am_pad; rw [nl147]; rfl
theorem ln147 : 2 ≤ am_nL 147 := by rw [nl147]; decide
theorem o147 : am_oc 147 = 0 := by decide +kernel
theorem hh147 : am_hh 147 = [] := rfl
theorem hn321 : am_hh 321 ≠ [] := by decide +kernel
theorem hf321_4_12 : am_find 321 4 12 (am_hh 321) = some (12, 20) := by decide +kernel
theorem hr321_12 : am_hret 321 12 = some 1 := by decide +kernel
theorem m13_340 : am_mlk 13 340 0 271 = true := by decide +kernel
theorem na271 : am_na 271 = 1 := by decide +kernel
theorem nl271 : am_nL 271 = 2 := by decide +kernel
theorem pd271 : ∀ a0 a1 : AV, am_pad 271 [a0, a1] = [a0, a1] := by intros; unfold am_pad; rw [nl271]; rfl
theorem ln271 : 2 ≤ am_nL 271 := by rw [nl271]; decide
theorem o271 : am_oc 271 = 9 := by decide +kernel
theorem rt271 : am_rt 271 = some .int := by decide +kernel
theorem m13_341 : am_mlk 13 341 1 322 = true := by decide +kernel
theorem na322 : am_na 322 = 6 := by decide +kernel
theorem nl322 : am_nL 322 = 7 := by decide +kernel
theorem pd322 : ∀ a0 a1 a2 a3 a4 a5 : AV, am_pad 322 [a0, a1, a2, a3, a4, a5] = [a0, a1, a2, a3, a4, a5, aU] := by intros; unfold am_pad; rw [nl322]; rfl
theorem ln322 : 6 ≤ am_nL 322 := by rw [nl322]; decide
theorem o322 : am_oc 322 = 13 := by decide +kernel
theorem m13_151 : am_mlk 13 151 0 148 = true := by decide +kernel
theorem na148 : am_na 148 = 4 := by decide +kernel
theorem nl148 : am_nL 148 = 6 := by decide +kernel
theorem pd148 : ∀ a0 a1 a2 a3 a4 : AV, am_pad 148 [a0, a1, a2, a3, a4] = [a0, a1, a2, a3, a4, aU] := by intros; unfold am_pad; rw [nl148]; rfl
theorem ln148 : 5 ≤ am_nL 148 := by rw [nl148]; decide
theorem o148 : am_oc 148 = 0 := by decide +kernel
theorem hh148 : am_hh 148 = [] := rfl
theorem hn322 : am_hh 322 ≠ [] := by decide +kernel
theorem hf322_9_12 : am_find 322 9 12 (am_hh 322) = some (17, 20) := by decide +kernel
theorem hr322_17 : am_hret 322 17 = some 1 := by decide +kernel
theorem m13_344 : am_mlk 13 344 0 272 = true := by decide +kernel
theorem na272 : am_na 272 = 4 := by decide +kernel
theorem nl272 : am_nL 272 = 7 := by decide +kernel
theorem pd272 : ∀ a0 a1 a2 a3 a4 : AV, am_pad 272 [a0, a1, a2, a3, a4] = [a0, a1, a2, a3, a4, aU, aU] := by intros; unfold am_pad; rw [nl272]; rfl
theorem ln272 : 5 ≤ am_nL 272 := by rw [nl272]; decide
theorem m13_345 : am_mlk 13 345 1 323 = true := by decide +kernel
theorem na323 : am_na 323 = 3 := by decide +kernel
theorem nl323 : am_nL 323 = 4 := by decide +kernel
theorem pd323 : ∀ a0 a1 a2 : AV, am_pad 323 [a0, a1, a2] = [a0, a1, a2, aU] := by intros; unfold am_pad; rw [nl323]; rfl
theorem ln323 : 3 ≤ am_nL 323 := by rw [nl323]; decide
theorem o323 : am_oc 323 = 13 := by decide +kernel
theorem m13_155 : am_mlk 13 155 0 149 = true := by decide +kernel
theorem na149 : am_na 149 = 1 := by decide +kernel
theorem nl149 : am_nL 149 = 3 := by decide +kernel
theorem pd149 : ∀ a0 a1 : AV, am_pad 149 [a0, a1] = [a0, a1, aU] := by intros; unfold am_pad; rw [nl149]; rfl
theorem ln149 : 2 ≤ am_nL 149 := by rw [nl149]; decide
theorem o149 : am_oc 149 = 0 := by decide +kernel
theorem hh149 : am_hh 149 = [] := rfl
theorem hn323 : am_hh 323 ≠ [] := by decide +kernel
theorem hf323_4_12 : am_find 323 4 12 (am_hh 323) = some (12, 20) := by decide +kernel
theorem hr323_12 : am_hret 323 12 = some 1 := by decide +kernel
theorem m13_347 : am_mlk 13 347 0 273 = true := by decide +kernel
theorem na273 : am_na 273 = 1 := by decide +kernel
theorem nl273 : am_nL 273 = 3 := by decide +kernel
theorem pd273 : ∀ a0 a1 : AV, am_pad 273 [a0, a1] = [a0, a1, aU] := by intros; unfold am_pad; rw [nl273]; rfl
theorem ln273 : 2 ≤ am_nL 273 := by rw [nl273]; decide
theorem o273 : am_oc 273 = 9 := by decide +kernel
theorem rt273 : am_rt 273 = some .int := by decide +kernel
theorem m13_348 : am_mlk 13 348 1 324 = true := by decide +kernel
theorem na324 : am_na 324 = 3 := by decide +kernel
theorem nl324 : am_nL 324 = 4 := by decide +kernel
theorem pd324 : ∀ a0 a1 a2 : AV, am_pad 324 [a0, a1, a2] = [a0, a1, a2, aU] := by intros; unfold am_pad; rw [nl324]; rfl
theorem ln324 : 3 ≤ am_nL 324 := by rw [nl324]; decide
theorem o324 : am_oc 324 = 13 := by decide +kernel
theorem m13_158 : am_mlk 13 158 0 150 = true := by decide +kernel
theorem na150 : am_na 150 = 1 := by decide +kernel
theorem nl150 : am_nL 150 = 2 := by decide +kernel
theorem pd150 : ∀ a0 a1 : AV, am_pad 150 [a0, a1] = [a0, a1] := by intros; unfold am_pad; rw [nl150]; rfl
theorem ln150 : 2 ≤ am_nL 150 := by rw [nl150]; decide
theorem o150 : am_oc 150 = 0 := by decide +kernel
theorem hh150 : am_hh 150 = [] := rfl
theorem hn324 : am_hh 324 ≠ [] := by decide +kernel
theorem hf324_4_12 : am_find 324 4 12 (am_hh 324) = some (12, 20) := by decide +kernel
theorem hr324_12 : am_hret 324 12 = some 1 := by decide +kernel
theorem m13_350 : am_mlk 13 350 0 274 = true := by decide +kernel
theorem na274 : am_na 274 = 1 := by decide +kernel
theorem nl274 : am_nL 274 = 2 := by decide +kernel
theorem pd274 : ∀ a0 a1 : AV, am_pad 274 [a0, a1] = [a0, a1] := by intros; unfold am_pad; rw [nl274]; rfl
theorem ln274 : 2 ≤ am_nL 274 := by rw [nl274]; decide
theorem o274 : am_oc 274 = 9 := by decide +kernel
theorem rt274 : am_rt 274 = some .int := by decide +kernel
theorem m13_351 : am_mlk 13 351 1 325 = true := by decide +kernel
theorem na325 : am_na 325 = 4 := by decide +kernel
theorem nl325 : am_nL 325 = 5 := by decide +kernel
theorem pd325 : ∀ a0 a1 a2 a3 : AV, am_pad 325 [a0, a1, a2, a3] = [a0, a1, a2, a3, aU] := by intros; unfold am_pad; rw [nl325]; rfl
theorem ln325 : 4 ≤ am_nL 325 := by rw [nl325]; decide
theorem o325 : am_oc 325 = 13 := by decide +kernel
theorem m13_161 : am_mlk 13 161 0 151 = true := by decide +kernel
theorem na151 : am_na 151 = 2 := by decide +kernel
theorem nl151 : am_nL 151 = 4 := by decide +kernel
theorem pd151 : ∀ a0 a1 a2 : AV, am_pad 151 [a0, a1, a2] = [a0, a1, a2, aU] := by intros; unfold am_pad; rw [nl151]; rfl
theorem ln151 : 3 ≤ am_nL 151 := by rw [nl151]; decide
theorem o151 : am_oc 151 = 0 := by decide +kernel
theorem hh151 : am_hh 151 = [] := rfl
theorem hn325 : am_hh 325 ≠ [] := by decide +kernel
theorem hf325_5_12 : am_find 325 5 12 (am_hh 325) = some (13, 20) := by decide +kernel
theorem hr325_13 : am_hret 325 13 = some 1 := by decide +kernel
theorem m13_353 : am_mlk 13 353 0 275 = true := by decide +kernel
theorem na275 : am_na 275 = 2 := by decide +kernel
theorem nl275 : am_nL 275 = 4 := by decide +kernel
theorem pd275 : ∀ a0 a1 a2 : AV, am_pad 275 [a0, a1, a2] = [a0, a1, a2, aU] := by intros; unfold am_pad; rw [nl275]; rfl
theorem ln275 : 3 ≤ am_nL 275 := by rw [nl275]; decide
theorem o275 : am_oc 275 = 9 := by decide +kernel
theorem rt275 : am_rt 275 = some .int := by decide +kernel
theorem m13_361 : am_mlk 13 361 1 327 = true := by decide +kernel
theorem na327 : am_na 327 = 3 := by decide +kernel
theorem nl327 : am_nL 327 = 4 := by decide +kernel
theorem pd327 : ∀ a0 a1 a2 : AV, am_pad 327 [a0, a1, a2] = [a0, a1, a2, aU] := by intros; unfold am_pad; rw [nl327]; rfl
theorem ln327 : 3 ≤ am_nL 327 := by rw [nl327]; decide
theorem o327 : am_oc 327 = 13 := by decide +kernel
theorem m13_167 : am_mlk 13 167 0 153 = true := by decide +kernel
theorem na153 : am_na 153 = 1 := by decide +kernel
theorem nl153 : am_nL 153 = 2 := by decide +kernel
theorem pd153 : ∀ a0 a1 : AV, am_pad 153 [a0, a1] = [a0, a1] := by intros; unfold am_pad; rw [nl153]; rfl
theorem ln153 : 2 ≤ am_nL 153 := by rw [nl153]; decide
theorem o153 : am_oc 153 = 0 := by decide +kernel
theorem hh153 : am_hh 153 = [] := rfl
theorem hn327 : am_hh 327 ≠ [] := by decide +kernel
theorem hf327_4_12 : am_find 327 4 12 (am_hh 327) = some (12, 20) := by decide +kernel
theorem hr327_12 : am_hret 327 12 = some 1 := by decide +kernel
theorem m13_363 : am_mlk 13 363 0 277 = true := by decide +kernel
theorem na277 : am_na 277 = 1 := by decide +kernel
theorem nl277 : am_nL 277 = 2 := by decide +kernel
theorem pd277 : ∀ a0 a1 : AV, am_pad 277 [a0, a1] = [a0, a1] := by intros; unfold am_pad; rw [nl277]; rfl
theorem ln277 : 2 ≤ am_nL 277 := by rw [nl277]; decide
theorem o277 : am_oc 277 = 9 := by decide +kernel
theorem rt277 : am_rt 277 = some .int := by decide +kernel
theorem c6_0 {L n : Nat} {g : AG} {M : AM} {xs : Nat → Int32} {b i : Int} {w6 w7 w8 : AV} {Q : AO → AG → AM → Prop} (hD : HD L n g) (hI : Inv xs b M) (hi : 0 ≤ i ∧ i + 6 ≤ L) (hb : 0 ≤ b ∧ b ≤ 900000) (hl : M 100 6 = 0) (K : KK L n i b xs Q) :
    Ok 10 0 469 [aR 1, aR 100, aR 448, aR 464, aR 465, aI i, w6, w7, w8] [] g M Q := by
  have hI0 := hI
  obtain ⟨hA, hld, hl01, q, hc, ⟨nx, sz, hH, hsz⟩, hS⟩ := hI0
  have hH0 := hH
  obtain ⟨⟨hn1, hn0⟩, ⟨hz2, hz0⟩, h10, hHj⟩ := hH0
  obtain ⟨hw0, ⟨bu, by_, hb1, hb13, hbu, hZ, hU⟩, he3, he4, he5, hId, tx, hT, hUt, htl, htr⟩ := hA
  obtain ⟨v1, hv1⟩ : ∃ u9 : Int, M 1 (i + 1) = u9 := ⟨_, rfl⟩
  have hr1 : -2147483648 ≤ v1 ∧ v1 < 2147483648 := hv1 ▸ scr_rg hw0 (i + 1)
  have hS1 := HD_s hD
  have hS100 := HD_y hD
  have hS448 := HD_o hD
  have hS464 := HD_u hD
  have hS465 := HD_ud hD
  refine ok_aloadn (pc' := 470) i0_469 rfl rfl <| ok_aloadn (pc' := 471) i0_470 rfl rfl <| ok_iload (pc' := 473) i0_471 rfl rfl <| ok_iconst (pc' := 474) i0_473 rfl <| ok_iadd (v := (i + 1)) (pc' := 475) i0_474 rfl rfl <| ok_iaload (v := v1) (pc' := 476) i0_475 (ShScr_k0 hS1) (by decide) (ShScr_l0 hS1) (by omega) hv1 rfl <| ok_aloadn (pc' := 477) i0_476 rfl rfl <| ok_cc i0_477 rfl (cl_s o0 m13_207 na280 rfl rfl (bt rfl) (bt rfl) rfl) ln280 (pd280 (aR 100) (aI v1) (aR 464)) <| ?_
  refine ok_aloadn (pc' := 1) i280_0 rfl rfl <| ok_iconst (pc' := 2) i280_1 rfl <| ok_aloadn (pc' := 3) i280_2 rfl rfl <| ok_iloadn (pc' := 4) i280_3 rfl rfl <| ok_cc i280_4 rfl (cl_v o280 m13_17 na98 rfl rfl (bt rfl) (bt rfl) rfl (by rw [ShYard_k0 hS100, o98])) ln98 (pd98 (aR 100) (aI v1)) <| ok_aloadn (pc' := 1) i98_0 rfl rfl <| ok_cc i98_1 rfl (cl_v o98 m0_132 na99 rfl rfl (bt rfl) (bt rfl) rfl (by rw [ShYard_k0 hS100, o99])) ln99 (pd99 (aR 100)) <| ok_aloadn (pc' := 1) i99_0 rfl rfl <| ?_
  refine ok_getfi (v := 0) (pc' := 4) i99_1 o99 gi0_268 (ShYard_k0 hS100) hl rfl <| ok_kz0 (pc1 := 18) (pc2 := 7) i99_4 (by decide) rfl rfl <| ok_throw th99_7 (bt rfl) <| kt_x hh98 <| kt_h hn280 hf280_4_12 hr280_12 <| kt_v (pc' := 480) rfl <| ?_
  refine ok_al hD (fun g hD => ?_)
  have hS448 := HD_o hD
  have hS1 := HD_s hD
  have hS464 := HD_u hD
  have hS465 := HD_ud hD
  refine ok_istore (pc' := 482) (ls' := [aR 1, aR 100, aR 448, aR 464, aR 465, aI i, aI 1, w7, w8]) i0_480 (bt rfl) rfl rfl <| ok_aloadn (pc' := 483) i0_482 rfl rfl <| ok_aloadn (pc' := 484) i0_483 rfl rfl <| ok_iload (pc' := 486) i0_484 rfl rfl <| ok_iconst (pc' := 487) i0_486 rfl <| ok_iadd (v := (i + 1)) (pc' := 488) i0_487 rfl rfl <| ok_iaload (v := v1) (pc' := 489) i0_488 (ShScr_k0 hS1) (by decide) (ShScr_l0 hS1) (by omega) hv1 rfl <| ok_cc i0_489 rfl (cl_v o0 m13_209 na187 rfl rfl (bt rfl) (bt rfl) rfl (by rw [ShModel_k0 hS448, o187])) ln187 (pd187 (aR 448) (aI v1)) <| ?_
  refine ok_aloadn (pc' := 1) i187_0 rfl rfl <| ok_cc i187_1 rfl (cl_v o187 m9_216 na188 rfl rfl (bt rfl) (bt rfl) rfl (by rw [ShModel_k0 hS448, o188])) ln188 (pd188 (aR 448)) <| ok_aloadn (pc' := 1) i188_0 rfl rfl <| ok_iconst (pc' := 2) i188_1 rfl <| ok_putfj (kk := 0) (pc' := 5) i188_2 o188 pi188_63 (ShModel_k0 hS448) rfl rfl <| ok_aloadn (pc' := 6) i188_5 rfl rfl <| ok_aloadn (pc' := 7) i188_6 rfl rfl <| ok_getfi (v := 0) (pc' := 10) i188_7 o188 gi9_66 (ShModel_k0 hS448) (rd_ni (by decide) (hld.trans hl)) rfl <| ?_
  refine ok_kz0 (pc1 := 17) (pc2 := 13) i188_10 (by decide) rfl rfl <| ok_iconst (pc' := 14) i188_13 rfl <| ok_goto (pc' := 18) i188_14 rfl <| ok_iconst (pc' := 19) i188_18 rfl <| ok_cc i188_19 rfl (cl_v o188 m9_70 na165 rfl rfl (bt rfl) (bt rfl) rfl (by rw [ShModel_k0 hS448, o165])) ln165 (pd165 (aR 448) (aI 1) (aI 1)) <| ok_aloadn (pc' := 1) i165_0 rfl rfl <| ok_getfi (v := 0) (pc' := 4) i165_1 o165 gi9_63 (ShModel_k0 hS448) rd_eq rfl <| ok_kz0 (pc1 := 16) (pc2 := 7) i165_4 (by decide) rfl rfl <| ?_
  refine ok_iloadn (pc' := 8) i165_7 rfl rfl <| ok_kz0 (pc1 := 16) (pc2 := 11) i165_8 (by decide) rfl rfl <| ok_aloadn (pc' := 12) i165_11 rfl rfl <| ok_iloadn (pc' := 13) i165_12 rfl rfl <| ok_putfj (kk := 0) (pc' := 16) i165_13 o165 pi165_63 (ShModel_k0 hS448) rfl rfl <| ok_aloadn (pc' := 17) i165_16 rfl rfl <| ok_getfi (v := 1) (pc' := 20) i165_17 o165 gi9_63 (ShModel_k0 hS448) rd_eq rfl <| ok_kz0 (pc1 := 27) (pc2 := 23) i165_20 (by decide) rfl rfl <| ?_
  refine ok_iconst (pc' := 24) i165_23 rfl <| ok_goto (pc' := 28) i165_24 rfl <| ok_iretz i165_28 rt165 (by decide) <| kt_v (pc' := 22) rfl <| ok_iretz i188_22 rt188 (by decide) <| kt_v (pc' := 4) rfl <| ok_kz1 (pc1 := 30) (pc2 := 7) i187_4 (by decide) rfl rfl <| ok_iconst (pc' := 31) i187_30 rfl <| ?_
  refine ok_ireti i187_31 rt187 <| kt_v (pc' := 492) rfl <| ok_istore (pc' := 494) (ls' := [aR 1, aR 100, aR 448, aR 464, aR 465, aI i, aI 1, aI 0, w8]) i0_492 (bt rfl) rfl rfl <| ok_aloadn (pc' := 495) i0_494 rfl rfl <| ok_cc i0_495 rfl (cl_v o0 m13_188 na157 rfl rfl (bt rfl) (bt rfl) rfl (by rw [ShModel_k0 hS448, o157])) ln157 (pd157 (aR 448)) <| ok_aloadn (pc' := 1) i157_0 rfl rfl <| ok_getfi (v := 1) (pc' := 4) i157_1 o157 gi9_63 (ShModel_k0 hS448) rd_eq rfl <| ok_ireti i157_4 rt157 <| ?_
  refine kt_v (pc' := 498) rfl <| ok_iload (pc' := 500) i0_498 rfl rfl <| ok_kc1 (pc1 := 505) (pc2 := 503) i0_500 (by decide) rfl rfl <| ok_iload (pc' := 507) i0_505 rfl rfl <| ok_kz1 (pc1 := 522) (pc2 := 510) i0_507 (by decide) rfl rfl <| ok_goto (pc' := 3329) i0_522 rfl <| ?_
  exact K _ _ _ _ _ _ hD (by omega) (Inv_mono (Inv_same hI (Same.thr (Same.thr Same.rfl))) (by omega))
theorem c14_0 {L n : Nat} {g : AG} {M : AM} {xs : Nat → Int32} {b i : Int} {w6 w7 w8 : AV} {Q : AO → AG → AM → Prop} (hD : HD L n g) (hI : Inv xs b M) (hi : 0 ≤ i ∧ i + 6 ≤ L) (hb : 0 ≤ b ∧ b ≤ 900000) (hl : M 100 6 = 0) (K : KK L n i b xs Q) :
    Ok 10 0 969 [aR 1, aR 100, aR 448, aR 464, aR 465, aI i, w6, w7, w8] [] g M Q := by
  have hI0 := hI
  obtain ⟨hA, hld, hl01, q, hc, ⟨nx, sz, hH, hsz⟩, hS⟩ := hI0
  have hH0 := hH
  obtain ⟨⟨hn1, hn0⟩, ⟨hz2, hz0⟩, h10, hHj⟩ := hH0
  obtain ⟨hw0, ⟨bu, by_, hb1, hb13, hbu, hZ, hU⟩, he3, he4, he5, hId, tx, hT, hUt, htl, htr⟩ := hA
  obtain ⟨v1, hv1⟩ : ∃ u9 : Int, M 1 (i + 1) = u9 := ⟨_, rfl⟩
  have hr1 : -2147483648 ≤ v1 ∧ v1 < 2147483648 := hv1 ▸ scr_rg hw0 (i + 1)
  have hS1 := HD_s hD
  have hS100 := HD_y hD
  have hS448 := HD_o hD
  have hS464 := HD_u hD
  have hS465 := HD_ud hD
  refine ok_aloadn (pc' := 970) i0_969 rfl rfl <| ok_aloadn (pc' := 971) i0_970 rfl rfl <| ok_iload (pc' := 973) i0_971 rfl rfl <| ok_iconst (pc' := 974) i0_973 rfl <| ok_iadd (v := (i + 1)) (pc' := 975) i0_974 rfl rfl <| ok_iaload (v := v1) (pc' := 976) i0_975 (ShScr_k0 hS1) (by decide) (ShScr_l0 hS1) (by omega) hv1 rfl <| ok_aloadn (pc' := 977) i0_976 rfl rfl <| ok_cc i0_977 rfl (cl_s o0 m13_234 na288 rfl rfl (bt rfl) (bt rfl) rfl) ln288 (pd288 (aR 100) (aI v1) (aR 464)) <| ?_
  refine ok_aloadn (pc' := 1) i288_0 rfl rfl <| ok_iconst (pc' := 2) i288_1 rfl <| ok_aloadn (pc' := 3) i288_2 rfl rfl <| ok_iloadn (pc' := 4) i288_3 rfl rfl <| ok_cc i288_4 rfl (cl_v o288 m13_46 na112 rfl rfl (bt rfl) (bt rfl) rfl (by rw [ShYard_k0 hS100, o112])) ln112 (pd112 (aR 100) (aI v1)) <| ok_aloadn (pc' := 1) i112_0 rfl rfl <| ok_cc i112_1 rfl (cl_v o112 m0_132 na99 rfl rfl (bt rfl) (bt rfl) rfl (by rw [ShYard_k0 hS100, o99])) ln99 (pd99 (aR 100)) <| ok_aloadn (pc' := 1) i99_0 rfl rfl <| ?_
  refine ok_getfi (v := 0) (pc' := 4) i99_1 o99 gi0_268 (ShYard_k0 hS100) hl rfl <| ok_kz0 (pc1 := 18) (pc2 := 7) i99_4 (by decide) rfl rfl <| ok_throw th99_7 (bt rfl) <| kt_x hh112 <| kt_h hn288 hf288_4_12 hr288_12 <| kt_v (pc' := 980) rfl <| ?_
  refine ok_al hD (fun g hD => ?_)
  have hS448 := HD_o hD
  have hS1 := HD_s hD
  have hS464 := HD_u hD
  have hS465 := HD_ud hD
  refine ok_istore (pc' := 982) (ls' := [aR 1, aR 100, aR 448, aR 464, aR 465, aI i, aI 1, w7, w8]) i0_980 (bt rfl) rfl rfl <| ok_aloadn (pc' := 983) i0_982 rfl rfl <| ok_aloadn (pc' := 984) i0_983 rfl rfl <| ok_iload (pc' := 986) i0_984 rfl rfl <| ok_iconst (pc' := 987) i0_986 rfl <| ok_iadd (v := (i + 1)) (pc' := 988) i0_987 rfl rfl <| ok_iaload (v := v1) (pc' := 989) i0_988 (ShScr_k0 hS1) (by decide) (ShScr_l0 hS1) (by omega) hv1 rfl <| ok_cc i0_989 rfl (cl_v o0 m13_236 na205 rfl rfl (bt rfl) (bt rfl) rfl (by rw [ShModel_k0 hS448, o205])) ln205 (pd205 (aR 448) (aI v1)) <| ?_
  refine ok_aloadn (pc' := 1) i205_0 rfl rfl <| ok_iloadn (pc' := 2) i205_1 rfl rfl <| ok_iconst (pc' := 3) i205_2 rfl <| ok_cc i205_3 rfl (cl_v o205 m9_247 na206 rfl rfl (bt rfl) (bt rfl) rfl (by rw [ShModel_k0 hS448, o206])) ln206 (pd206 (aR 448) (aI v1) (aI 2)) <| ok_aloadn (pc' := 1) i206_0 rfl rfl <| ok_cc i206_1 rfl (cl_v o206 m9_216 na188 rfl rfl (bt rfl) (bt rfl) rfl (by rw [ShModel_k0 hS448, o188])) ln188 (pd188 (aR 448)) <| ok_aloadn (pc' := 1) i188_0 rfl rfl <| ok_iconst (pc' := 2) i188_1 rfl <| ?_
  refine ok_putfj (kk := 0) (pc' := 5) i188_2 o188 pi188_63 (ShModel_k0 hS448) rfl rfl <| ok_aloadn (pc' := 6) i188_5 rfl rfl <| ok_aloadn (pc' := 7) i188_6 rfl rfl <| ok_getfi (v := 0) (pc' := 10) i188_7 o188 gi9_66 (ShModel_k0 hS448) (rd_ni (by decide) (hld.trans hl)) rfl <| ok_kz0 (pc1 := 17) (pc2 := 13) i188_10 (by decide) rfl rfl <| ok_iconst (pc' := 14) i188_13 rfl <| ok_goto (pc' := 18) i188_14 rfl <| ok_iconst (pc' := 19) i188_18 rfl <| ?_
  refine ok_cc i188_19 rfl (cl_v o188 m9_70 na165 rfl rfl (bt rfl) (bt rfl) rfl (by rw [ShModel_k0 hS448, o165])) ln165 (pd165 (aR 448) (aI 1) (aI 1)) <| ok_aloadn (pc' := 1) i165_0 rfl rfl <| ok_getfi (v := 0) (pc' := 4) i165_1 o165 gi9_63 (ShModel_k0 hS448) rd_eq rfl <| ok_kz0 (pc1 := 16) (pc2 := 7) i165_4 (by decide) rfl rfl <| ok_iloadn (pc' := 8) i165_7 rfl rfl <| ok_kz0 (pc1 := 16) (pc2 := 11) i165_8 (by decide) rfl rfl <| ok_aloadn (pc' := 12) i165_11 rfl rfl <| ok_iloadn (pc' := 13) i165_12 rfl rfl <| ?_
  refine ok_putfj (kk := 0) (pc' := 16) i165_13 o165 pi165_63 (ShModel_k0 hS448) rfl rfl <| ok_aloadn (pc' := 17) i165_16 rfl rfl <| ok_getfi (v := 1) (pc' := 20) i165_17 o165 gi9_63 (ShModel_k0 hS448) rd_eq rfl <| ok_kz0 (pc1 := 27) (pc2 := 23) i165_20 (by decide) rfl rfl <| ok_iconst (pc' := 24) i165_23 rfl <| ok_goto (pc' := 28) i165_24 rfl <| ok_iretz i165_28 rt165 (by decide) <| kt_v (pc' := 22) rfl <| ?_
  refine ok_iretz i188_22 rt188 (by decide) <| kt_v (pc' := 4) rfl <| ok_kz1 (pc1 := 31) (pc2 := 7) i206_4 (by decide) rfl rfl <| ok_iconst (pc' := 32) i206_31 rfl <| ok_goto (pc' := 36) i206_32 rfl <| ok_iretz i206_36 rt206 (by decide) <| kt_v (pc' := 6) rfl <| ok_kz0 (pc1 := 13) (pc2 := 9) i205_6 (by decide) rfl rfl <| ?_
  refine ok_iconst (pc' := 10) i205_9 rfl <| ok_goto (pc' := 18) i205_10 rfl <| ok_ireti i205_18 rt205 <| kt_v (pc' := 992) rfl <| ok_istore (pc' := 994) (ls' := [aR 1, aR 100, aR 448, aR 464, aR 465, aI i, aI 1, aI 0, w8]) i0_992 (bt rfl) rfl rfl <| ok_aloadn (pc' := 995) i0_994 rfl rfl <| ok_cc i0_995 rfl (cl_v o0 m13_188 na157 rfl rfl (bt rfl) (bt rfl) rfl (by rw [ShModel_k0 hS448, o157])) ln157 (pd157 (aR 448)) <| ok_aloadn (pc' := 1) i157_0 rfl rfl <| ?_
  refine ok_getfi (v := 1) (pc' := 4) i157_1 o157 gi9_63 (ShModel_k0 hS448) rd_eq rfl <| ok_ireti i157_4 rt157 <| kt_v (pc' := 998) rfl <| ok_iload (pc' := 1000) i0_998 rfl rfl <| ok_kc1 (pc1 := 1005) (pc2 := 1003) i0_1000 (by decide) rfl rfl <| ok_iload (pc' := 1007) i0_1005 rfl rfl <| ok_kz1 (pc1 := 1022) (pc2 := 1010) i0_1007 (by decide) rfl rfl <| ok_goto (pc' := 3329) i0_1022 rfl <| ?_
  exact K _ _ _ _ _ _ hD (by omega) (Inv_mono (Inv_same hI (Same.thr (Same.thr Same.rfl))) (by omega))
theorem c15_0 {L n : Nat} {g : AG} {M : AM} {xs : Nat → Int32} {b i : Int} {w6 w7 w8 : AV} {Q : AO → AG → AM → Prop} (hD : HD L n g) (hI : Inv xs b M) (hi : 0 ≤ i ∧ i + 6 ≤ L) (hb : 0 ≤ b ∧ b ≤ 900000) (hl : M 100 6 = 0) (K : KK L n i b xs Q) :
    Ok 10 0 1025 [aR 1, aR 100, aR 448, aR 464, aR 465, aI i, w6, w7, w8] [] g M Q := by
  have hI0 := hI
  obtain ⟨hA, hld, hl01, q, hc, ⟨nx, sz, hH, hsz⟩, hS⟩ := hI0
  have hH0 := hH
  obtain ⟨⟨hn1, hn0⟩, ⟨hz2, hz0⟩, h10, hHj⟩ := hH0
  obtain ⟨hw0, ⟨bu, by_, hb1, hb13, hbu, hZ, hU⟩, he3, he4, he5, hId, tx, hT, hUt, htl, htr⟩ := hA
  obtain ⟨v1, hv1⟩ : ∃ u9 : Int, M 1 (i + 1) = u9 := ⟨_, rfl⟩
  have hr1 : -2147483648 ≤ v1 ∧ v1 < 2147483648 := hv1 ▸ scr_rg hw0 (i + 1)
  have hS1 := HD_s hD
  have hS100 := HD_y hD
  have hS448 := HD_o hD
  have hS464 := HD_u hD
  have hS465 := HD_ud hD
  refine ok_aloadn (pc' := 1026) i0_1025 rfl rfl <| ok_aloadn (pc' := 1027) i0_1026 rfl rfl <| ok_iload (pc' := 1029) i0_1027 rfl rfl <| ok_iconst (pc' := 1030) i0_1029 rfl <| ok_iadd (v := (i + 1)) (pc' := 1031) i0_1030 rfl rfl <| ok_iaload (v := v1) (pc' := 1032) i0_1031 (ShScr_k0 hS1) (by decide) (ShScr_l0 hS1) (by omega) hv1 rfl <| ok_aloadn (pc' := 1033) i0_1032 rfl rfl <| ok_cc i0_1033 rfl (cl_s o0 m13_237 na289 rfl rfl (bt rfl) (bt rfl) rfl) ln289 (pd289 (aR 100) (aI v1) (aR 464)) <| ?_
  refine ok_aloadn (pc' := 1) i289_0 rfl rfl <| ok_iconst (pc' := 2) i289_1 rfl <| ok_aloadn (pc' := 3) i289_2 rfl rfl <| ok_iloadn (pc' := 4) i289_3 rfl rfl <| ok_cc i289_4 rfl (cl_v o289 m13_49 na114 rfl rfl (bt rfl) (bt rfl) rfl (by rw [ShYard_k0 hS100, o114])) ln114 (pd114 (aR 100) (aI v1)) <| ok_aloadn (pc' := 1) i114_0 rfl rfl <| ok_cc i114_1 rfl (cl_v o114 m0_132 na99 rfl rfl (bt rfl) (bt rfl) rfl (by rw [ShYard_k0 hS100, o99])) ln99 (pd99 (aR 100)) <| ok_aloadn (pc' := 1) i99_0 rfl rfl <| ?_
  refine ok_getfi (v := 0) (pc' := 4) i99_1 o99 gi0_268 (ShYard_k0 hS100) hl rfl <| ok_kz0 (pc1 := 18) (pc2 := 7) i99_4 (by decide) rfl rfl <| ok_throw th99_7 (bt rfl) <| kt_x hh114 <| kt_h hn289 hf289_4_12 hr289_12 <| kt_v (pc' := 1036) rfl <| ?_
  refine ok_al hD (fun g hD => ?_)
  have hS448 := HD_o hD
  have hS1 := HD_s hD
  have hS464 := HD_u hD
  have hS465 := HD_ud hD
  refine ok_istore (pc' := 1038) (ls' := [aR 1, aR 100, aR 448, aR 464, aR 465, aI i, aI 1, w7, w8]) i0_1036 (bt rfl) rfl rfl <| ok_aloadn (pc' := 1039) i0_1038 rfl rfl <| ok_aloadn (pc' := 1040) i0_1039 rfl rfl <| ok_iload (pc' := 1042) i0_1040 rfl rfl <| ok_iconst (pc' := 1043) i0_1042 rfl <| ok_iadd (v := (i + 1)) (pc' := 1044) i0_1043 rfl rfl <| ok_iaload (v := v1) (pc' := 1045) i0_1044 (ShScr_k0 hS1) (by decide) (ShScr_l0 hS1) (by omega) hv1 rfl <| ok_cc i0_1045 rfl (cl_v o0 m13_239 na208 rfl rfl (bt rfl) (bt rfl) rfl (by rw [ShModel_k0 hS448, o208])) ln208 (pd208 (aR 448) (aI v1)) <| ?_
  refine ok_aloadn (pc' := 1) i208_0 rfl rfl <| ok_iloadn (pc' := 2) i208_1 rfl rfl <| ok_iconst (pc' := 3) i208_2 rfl <| ok_cc i208_3 rfl (cl_v o208 m9_247 na206 rfl rfl (bt rfl) (bt rfl) rfl (by rw [ShModel_k0 hS448, o206])) ln206 (pd206 (aR 448) (aI v1) (aI 2)) <| ok_aloadn (pc' := 1) i206_0 rfl rfl <| ok_cc i206_1 rfl (cl_v o206 m9_216 na188 rfl rfl (bt rfl) (bt rfl) rfl (by rw [ShModel_k0 hS448, o188])) ln188 (pd188 (aR 448)) <| ok_aloadn (pc' := 1) i188_0 rfl rfl <| ok_iconst (pc' := 2) i188_1 rfl <| ?_
  refine ok_putfj (kk := 0) (pc' := 5) i188_2 o188 pi188_63 (ShModel_k0 hS448) rfl rfl <| ok_aloadn (pc' := 6) i188_5 rfl rfl <| ok_aloadn (pc' := 7) i188_6 rfl rfl <| ok_getfi (v := 0) (pc' := 10) i188_7 o188 gi9_66 (ShModel_k0 hS448) (rd_ni (by decide) (hld.trans hl)) rfl <| ok_kz0 (pc1 := 17) (pc2 := 13) i188_10 (by decide) rfl rfl <| ok_iconst (pc' := 14) i188_13 rfl <| ok_goto (pc' := 18) i188_14 rfl <| ok_iconst (pc' := 19) i188_18 rfl <| ?_
  refine ok_cc i188_19 rfl (cl_v o188 m9_70 na165 rfl rfl (bt rfl) (bt rfl) rfl (by rw [ShModel_k0 hS448, o165])) ln165 (pd165 (aR 448) (aI 1) (aI 1)) <| ok_aloadn (pc' := 1) i165_0 rfl rfl <| ok_getfi (v := 0) (pc' := 4) i165_1 o165 gi9_63 (ShModel_k0 hS448) rd_eq rfl <| ok_kz0 (pc1 := 16) (pc2 := 7) i165_4 (by decide) rfl rfl <| ok_iloadn (pc' := 8) i165_7 rfl rfl <| ok_kz0 (pc1 := 16) (pc2 := 11) i165_8 (by decide) rfl rfl <| ok_aloadn (pc' := 12) i165_11 rfl rfl <| ok_iloadn (pc' := 13) i165_12 rfl rfl <| ?_
  refine ok_putfj (kk := 0) (pc' := 16) i165_13 o165 pi165_63 (ShModel_k0 hS448) rfl rfl <| ok_aloadn (pc' := 17) i165_16 rfl rfl <| ok_getfi (v := 1) (pc' := 20) i165_17 o165 gi9_63 (ShModel_k0 hS448) rd_eq rfl <| ok_kz0 (pc1 := 27) (pc2 := 23) i165_20 (by decide) rfl rfl <| ok_iconst (pc' := 24) i165_23 rfl <| ok_goto (pc' := 28) i165_24 rfl <| ok_iretz i165_28 rt165 (by decide) <| kt_v (pc' := 22) rfl <| ?_
  refine ok_iretz i188_22 rt188 (by decide) <| kt_v (pc' := 4) rfl <| ok_kz1 (pc1 := 31) (pc2 := 7) i206_4 (by decide) rfl rfl <| ok_iconst (pc' := 32) i206_31 rfl <| ok_goto (pc' := 36) i206_32 rfl <| ok_iretz i206_36 rt206 (by decide) <| kt_v (pc' := 6) rfl <| ok_kz0 (pc1 := 13) (pc2 := 9) i208_6 (by decide) rfl rfl <| ?_
  refine ok_iconst (pc' := 10) i208_9 rfl <| ok_goto (pc' := 23) i208_10 rfl <| ok_ireti i208_23 rt208 <| kt_v (pc' := 1048) rfl <| ok_istore (pc' := 1050) (ls' := [aR 1, aR 100, aR 448, aR 464, aR 465, aI i, aI 1, aI 0, w8]) i0_1048 (bt rfl) rfl rfl <| ok_aloadn (pc' := 1051) i0_1050 rfl rfl <| ok_cc i0_1051 rfl (cl_v o0 m13_188 na157 rfl rfl (bt rfl) (bt rfl) rfl (by rw [ShModel_k0 hS448, o157])) ln157 (pd157 (aR 448)) <| ok_aloadn (pc' := 1) i157_0 rfl rfl <| ?_
  refine ok_getfi (v := 1) (pc' := 4) i157_1 o157 gi9_63 (ShModel_k0 hS448) rd_eq rfl <| ok_ireti i157_4 rt157 <| kt_v (pc' := 1054) rfl <| ok_iload (pc' := 1056) i0_1054 rfl rfl <| ok_kc1 (pc1 := 1061) (pc2 := 1059) i0_1056 (by decide) rfl rfl <| ok_iload (pc' := 1063) i0_1061 rfl rfl <| ok_kz1 (pc1 := 1078) (pc2 := 1066) i0_1063 (by decide) rfl rfl <| ok_goto (pc' := 3329) i0_1078 rfl <| ?_
  exact K _ _ _ _ _ _ hD (by omega) (Inv_mono (Inv_same hI (Same.thr (Same.thr Same.rfl))) (by omega))
theorem c16_0 {L n : Nat} {g : AG} {M : AM} {xs : Nat → Int32} {b i : Int} {w6 w7 w8 : AV} {Q : AO → AG → AM → Prop} (hD : HD L n g) (hI : Inv xs b M) (hi : 0 ≤ i ∧ i + 6 ≤ L) (hb : 0 ≤ b ∧ b ≤ 900000) (hl : M 100 6 = 0) (K : KK L n i b xs Q) :
    Ok 10 0 1081 [aR 1, aR 100, aR 448, aR 464, aR 465, aI i, w6, w7, w8] [] g M Q := by
  have hI0 := hI
  obtain ⟨hA, hld, hl01, q, hc, ⟨nx, sz, hH, hsz⟩, hS⟩ := hI0
  have hH0 := hH
  obtain ⟨⟨hn1, hn0⟩, ⟨hz2, hz0⟩, h10, hHj⟩ := hH0
  obtain ⟨hw0, ⟨bu, by_, hb1, hb13, hbu, hZ, hU⟩, he3, he4, he5, hId, tx, hT, hUt, htl, htr⟩ := hA
  obtain ⟨v1, hv1⟩ : ∃ u9 : Int, M 1 (i + 1) = u9 := ⟨_, rfl⟩
  have hr1 : -2147483648 ≤ v1 ∧ v1 < 2147483648 := hv1 ▸ scr_rg hw0 (i + 1)
  obtain ⟨v2, hv2⟩ : ∃ u9 : Int, M 1 (i + 2) = u9 := ⟨_, rfl⟩
  have hr2 : -2147483648 ≤ v2 ∧ v2 < 2147483648 := hv2 ▸ scr_rg hw0 (i + 2)
  have hS1 := HD_s hD
  have hS100 := HD_y hD
  have hS448 := HD_o hD
  have hS464 := HD_u hD
  have hS465 := HD_ud hD
  refine ok_aloadn (pc' := 1082) i0_1081 rfl rfl <| ok_aloadn (pc' := 1083) i0_1082 rfl rfl <| ok_iload (pc' := 1085) i0_1083 rfl rfl <| ok_iconst (pc' := 1086) i0_1085 rfl <| ok_iadd (v := (i + 1)) (pc' := 1087) i0_1086 rfl rfl <| ok_iaload (v := v1) (pc' := 1088) i0_1087 (ShScr_k0 hS1) (by decide) (ShScr_l0 hS1) (by omega) hv1 rfl <| ok_aloadn (pc' := 1089) i0_1088 rfl rfl <| ok_iload (pc' := 1091) i0_1089 rfl rfl <| ?_
  refine ok_iconst (pc' := 1092) i0_1091 rfl <| ok_iadd (v := (i + 2)) (pc' := 1093) i0_1092 rfl rfl <| ok_iaload (v := v2) (pc' := 1094) i0_1093 (ShScr_k0 hS1) (by decide) (ShScr_l0 hS1) (by omega) hv2 rfl <| ok_aloadn (pc' := 1095) i0_1094 rfl rfl <| ok_cc i0_1095 rfl (cl_s o0 m13_240 na290 rfl rfl (bt rfl) (bt rfl) rfl) ln290 (pd290 (aR 100) (aI v1) (aI v2) (aR 464)) <| ok_aloadn (pc' := 1) i290_0 rfl rfl <| ok_iconst (pc' := 2) i290_1 rfl <| ok_aloadn (pc' := 3) i290_2 rfl rfl <| ?_
  refine ok_iloadn (pc' := 4) i290_3 rfl rfl <| ok_iloadn (pc' := 5) i290_4 rfl rfl <| ok_cc i290_5 rfl (cl_v o290 m13_52 na115 rfl rfl (bt rfl) (bt rfl) rfl (by rw [ShYard_k0 hS100, o115])) ln115 (pd115 (aR 100) (aI v1) (aI v2)) <| ok_aloadn (pc' := 1) i115_0 rfl rfl <| ok_cc i115_1 rfl (cl_v o115 m0_132 na99 rfl rfl (bt rfl) (bt rfl) rfl (by rw [ShYard_k0 hS100, o99])) ln99 (pd99 (aR 100)) <| ok_aloadn (pc' := 1) i99_0 rfl rfl <| ok_getfi (v := 0) (pc' := 4) i99_1 o99 gi0_268 (ShYard_k0 hS100) hl rfl <| ok_kz0 (pc1 := 18) (pc2 := 7) i99_4 (by decide) rfl rfl <| ?_
  refine ok_throw th99_7 (bt rfl) <| kt_x hh115 <| kt_h hn290 hf290_5_12 hr290_13 <| kt_v (pc' := 1098) rfl <| ?_
  refine ok_al hD (fun g hD => ?_)
  have hS448 := HD_o hD
  have hS1 := HD_s hD
  have hS464 := HD_u hD
  have hS465 := HD_ud hD
  refine ok_istore (pc' := 1100) (ls' := [aR 1, aR 100, aR 448, aR 464, aR 465, aI i, aI 1, w7, w8]) i0_1098 (bt rfl) rfl rfl <| ok_aloadn (pc' := 1101) i0_1100 rfl rfl <| ok_aloadn (pc' := 1102) i0_1101 rfl rfl <| ok_iload (pc' := 1104) i0_1102 rfl rfl <| ok_iconst (pc' := 1105) i0_1104 rfl <| ok_iadd (v := (i + 1)) (pc' := 1106) i0_1105 rfl rfl <| ok_iaload (v := v1) (pc' := 1107) i0_1106 (ShScr_k0 hS1) (by decide) (ShScr_l0 hS1) (by omega) hv1 rfl <| ok_aloadn (pc' := 1108) i0_1107 rfl rfl <| ?_
  refine ok_iload (pc' := 1110) i0_1108 rfl rfl <| ok_iconst (pc' := 1111) i0_1110 rfl <| ok_iadd (v := (i + 2)) (pc' := 1112) i0_1111 rfl rfl <| ok_iaload (v := v2) (pc' := 1113) i0_1112 (ShScr_k0 hS1) (by decide) (ShScr_l0 hS1) (by omega) hv2 rfl <| ok_cc i0_1113 rfl (cl_v o0 m13_242 na209 rfl rfl (bt rfl) (bt rfl) rfl (by rw [ShModel_k0 hS448, o209])) ln209 (pd209 (aR 448) (aI v1) (aI v2)) <| ok_aloadn (pc' := 1) i209_0 rfl rfl <| ok_iloadn (pc' := 2) i209_1 rfl rfl <| ok_cc i209_2 rfl (cl_v o209 m9_241 na196 rfl rfl (bt rfl) (bt rfl) rfl (by rw [ShModel_k0 hS448, o196])) ln196 (pd196 (aR 448) (aI v1)) <| ?_
  refine ok_aloadn (pc' := 1) i196_0 rfl rfl <| ok_cc i196_1 rfl (cl_v o196 m9_216 na188 rfl rfl (bt rfl) (bt rfl) rfl (by rw [ShModel_k0 hS448, o188])) ln188 (pd188 (aR 448)) <| ok_aloadn (pc' := 1) i188_0 rfl rfl <| ok_iconst (pc' := 2) i188_1 rfl <| ok_putfj (kk := 0) (pc' := 5) i188_2 o188 pi188_63 (ShModel_k0 hS448) rfl rfl <| ok_aloadn (pc' := 6) i188_5 rfl rfl <| ok_aloadn (pc' := 7) i188_6 rfl rfl <| ok_getfi (v := 0) (pc' := 10) i188_7 o188 gi9_66 (ShModel_k0 hS448) (rd_ni (by decide) (hld.trans hl)) rfl <| ?_
  refine ok_kz0 (pc1 := 17) (pc2 := 13) i188_10 (by decide) rfl rfl <| ok_iconst (pc' := 14) i188_13 rfl <| ok_goto (pc' := 18) i188_14 rfl <| ok_iconst (pc' := 19) i188_18 rfl <| ok_cc i188_19 rfl (cl_v o188 m9_70 na165 rfl rfl (bt rfl) (bt rfl) rfl (by rw [ShModel_k0 hS448, o165])) ln165 (pd165 (aR 448) (aI 1) (aI 1)) <| ok_aloadn (pc' := 1) i165_0 rfl rfl <| ok_getfi (v := 0) (pc' := 4) i165_1 o165 gi9_63 (ShModel_k0 hS448) rd_eq rfl <| ok_kz0 (pc1 := 16) (pc2 := 7) i165_4 (by decide) rfl rfl <| ?_
  refine ok_iloadn (pc' := 8) i165_7 rfl rfl <| ok_kz0 (pc1 := 16) (pc2 := 11) i165_8 (by decide) rfl rfl <| ok_aloadn (pc' := 12) i165_11 rfl rfl <| ok_iloadn (pc' := 13) i165_12 rfl rfl <| ok_putfj (kk := 0) (pc' := 16) i165_13 o165 pi165_63 (ShModel_k0 hS448) rfl rfl <| ok_aloadn (pc' := 17) i165_16 rfl rfl <| ok_getfi (v := 1) (pc' := 20) i165_17 o165 gi9_63 (ShModel_k0 hS448) rd_eq rfl <| ok_kz0 (pc1 := 27) (pc2 := 23) i165_20 (by decide) rfl rfl <| ?_
  refine ok_iconst (pc' := 24) i165_23 rfl <| ok_goto (pc' := 28) i165_24 rfl <| ok_iretz i165_28 rt165 (by decide) <| kt_v (pc' := 22) rfl <| ok_iretz i188_22 rt188 (by decide) <| kt_v (pc' := 4) rfl <| ok_kz1 (pc1 := 28) (pc2 := 7) i196_4 (by decide) rfl rfl <| ok_iconst (pc' := 29) i196_28 rfl <| ?_
  refine ok_goto (pc' := 33) i196_29 rfl <| ok_iretz i196_33 rt196 (by decide) <| kt_v (pc' := 5) rfl <| ok_kz1 (pc1 := 32) (pc2 := 8) i209_5 (by decide) rfl rfl <| ok_iconst (pc' := 33) i209_32 rfl <| ok_ireti i209_33 rt209 <| kt_v (pc' := 1116) rfl <| ok_istore (pc' := 1118) (ls' := [aR 1, aR 100, aR 448, aR 464, aR 465, aI i, aI 1, aI 0, w8]) i0_1116 (bt rfl) rfl rfl <| ?_
  refine ok_aloadn (pc' := 1119) i0_1118 rfl rfl <| ok_cc i0_1119 rfl (cl_v o0 m13_188 na157 rfl rfl (bt rfl) (bt rfl) rfl (by rw [ShModel_k0 hS448, o157])) ln157 (pd157 (aR 448)) <| ok_aloadn (pc' := 1) i157_0 rfl rfl <| ok_getfi (v := 1) (pc' := 4) i157_1 o157 gi9_63 (ShModel_k0 hS448) rd_eq rfl <| ok_ireti i157_4 rt157 <| kt_v (pc' := 1122) rfl <| ok_iload (pc' := 1124) i0_1122 rfl rfl <| ok_kc1 (pc1 := 1129) (pc2 := 1127) i0_1124 (by decide) rfl rfl <| ?_
  refine ok_iload (pc' := 1131) i0_1129 rfl rfl <| ok_kz1 (pc1 := 1146) (pc2 := 1134) i0_1131 (by decide) rfl rfl <| ok_goto (pc' := 3329) i0_1146 rfl <| ?_
  exact K _ _ _ _ _ _ hD (by omega) (Inv_mono (Inv_same hI (Same.thr (Same.thr Same.rfl))) (by omega))
theorem c17_0 {L n : Nat} {g : AG} {M : AM} {xs : Nat → Int32} {b i : Int} {w6 w7 w8 : AV} {Q : AO → AG → AM → Prop} (hD : HD L n g) (hI : Inv xs b M) (hi : 0 ≤ i ∧ i + 6 ≤ L) (hb : 0 ≤ b ∧ b ≤ 900000) (hl : M 100 6 = 0) (K : KK L n i b xs Q) :
    Ok 10 0 1149 [aR 1, aR 100, aR 448, aR 464, aR 465, aI i, w6, w7, w8] [] g M Q := by
  have hI0 := hI
  obtain ⟨hA, hld, hl01, q, hc, ⟨nx, sz, hH, hsz⟩, hS⟩ := hI0
  have hH0 := hH
  obtain ⟨⟨hn1, hn0⟩, ⟨hz2, hz0⟩, h10, hHj⟩ := hH0
  obtain ⟨hw0, ⟨bu, by_, hb1, hb13, hbu, hZ, hU⟩, he3, he4, he5, hId, tx, hT, hUt, htl, htr⟩ := hA
  obtain ⟨v1, hv1⟩ : ∃ u9 : Int, M 1 (i + 1) = u9 := ⟨_, rfl⟩
  have hr1 : -2147483648 ≤ v1 ∧ v1 < 2147483648 := hv1 ▸ scr_rg hw0 (i + 1)
  obtain ⟨v2, hv2⟩ : ∃ u9 : Int, M 1 (i + 2) = u9 := ⟨_, rfl⟩
  have hr2 : -2147483648 ≤ v2 ∧ v2 < 2147483648 := hv2 ▸ scr_rg hw0 (i + 2)
  have hS1 := HD_s hD
  have hS100 := HD_y hD
  have hS448 := HD_o hD
  have hS464 := HD_u hD
  have hS465 := HD_ud hD
  refine ok_aloadn (pc' := 1150) i0_1149 rfl rfl <| ok_aloadn (pc' := 1151) i0_1150 rfl rfl <| ok_iload (pc' := 1153) i0_1151 rfl rfl <| ok_iconst (pc' := 1154) i0_1153 rfl <| ok_iadd (v := (i + 1)) (pc' := 1155) i0_1154 rfl rfl <| ok_iaload (v := v1) (pc' := 1156) i0_1155 (ShScr_k0 hS1) (by decide) (ShScr_l0 hS1) (by omega) hv1 rfl <| ok_aloadn (pc' := 1157) i0_1156 rfl rfl <| ok_iload (pc' := 1159) i0_1157 rfl rfl <| ?_
  refine ok_iconst (pc' := 1160) i0_1159 rfl <| ok_iadd (v := (i + 2)) (pc' := 1161) i0_1160 rfl rfl <| ok_iaload (v := v2) (pc' := 1162) i0_1161 (ShScr_k0 hS1) (by decide) (ShScr_l0 hS1) (by omega) hv2 rfl <| ok_aloadn (pc' := 1163) i0_1162 rfl rfl <| ok_cc i0_1163 rfl (cl_s o0 m13_243 na291 rfl rfl (bt rfl) (bt rfl) rfl) ln291 (pd291 (aR 100) (aI v1) (aI v2) (aR 464)) <| ok_aloadn (pc' := 1) i291_0 rfl rfl <| ok_iconst (pc' := 2) i291_1 rfl <| ok_aloadn (pc' := 3) i291_2 rfl rfl <| ?_
  refine ok_iloadn (pc' := 4) i291_3 rfl rfl <| ok_iloadn (pc' := 5) i291_4 rfl rfl <| ok_cc i291_5 rfl (cl_v o291 m13_55 na116 rfl rfl (bt rfl) (bt rfl) rfl (by rw [ShYard_k0 hS100, o116])) ln116 (pd116 (aR 100) (aI v1) (aI v2)) <| ok_aloadn (pc' := 1) i116_0 rfl rfl <| ok_cc i116_1 rfl (cl_v o116 m0_132 na99 rfl rfl (bt rfl) (bt rfl) rfl (by rw [ShYard_k0 hS100, o99])) ln99 (pd99 (aR 100)) <| ok_aloadn (pc' := 1) i99_0 rfl rfl <| ok_getfi (v := 0) (pc' := 4) i99_1 o99 gi0_268 (ShYard_k0 hS100) hl rfl <| ok_kz0 (pc1 := 18) (pc2 := 7) i99_4 (by decide) rfl rfl <| ?_
  refine ok_throw th99_7 (bt rfl) <| kt_x hh116 <| kt_h hn291 hf291_5_12 hr291_13 <| kt_v (pc' := 1166) rfl <| ?_
  refine ok_al hD (fun g hD => ?_)
  have hS448 := HD_o hD
  have hS1 := HD_s hD
  have hS464 := HD_u hD
  have hS465 := HD_ud hD
  refine ok_istore (pc' := 1168) (ls' := [aR 1, aR 100, aR 448, aR 464, aR 465, aI i, aI 1, w7, w8]) i0_1166 (bt rfl) rfl rfl <| ok_aloadn (pc' := 1169) i0_1168 rfl rfl <| ok_aloadn (pc' := 1170) i0_1169 rfl rfl <| ok_iload (pc' := 1172) i0_1170 rfl rfl <| ok_iconst (pc' := 1173) i0_1172 rfl <| ok_iadd (v := (i + 1)) (pc' := 1174) i0_1173 rfl rfl <| ok_iaload (v := v1) (pc' := 1175) i0_1174 (ShScr_k0 hS1) (by decide) (ShScr_l0 hS1) (by omega) hv1 rfl <| ok_aloadn (pc' := 1176) i0_1175 rfl rfl <| ?_
  refine ok_iload (pc' := 1178) i0_1176 rfl rfl <| ok_iconst (pc' := 1179) i0_1178 rfl <| ok_iadd (v := (i + 2)) (pc' := 1180) i0_1179 rfl rfl <| ok_iaload (v := v2) (pc' := 1181) i0_1180 (ShScr_k0 hS1) (by decide) (ShScr_l0 hS1) (by omega) hv2 rfl <| ok_cc i0_1181 rfl (cl_v o0 m13_245 na212 rfl rfl (bt rfl) (bt rfl) rfl (by rw [ShModel_k0 hS448, o212])) ln212 (pd212 (aR 448) (aI v1) (aI v2)) <| ok_aloadn (pc' := 1) i212_0 rfl rfl <| ok_iloadn (pc' := 2) i212_1 rfl rfl <| ok_iconst (pc' := 3) i212_2 rfl <| ?_
  refine ok_cc i212_3 rfl (cl_v o212 m9_247 na206 rfl rfl (bt rfl) (bt rfl) rfl (by rw [ShModel_k0 hS448, o206])) ln206 (pd206 (aR 448) (aI v1) (aI 2)) <| ok_aloadn (pc' := 1) i206_0 rfl rfl <| ok_cc i206_1 rfl (cl_v o206 m9_216 na188 rfl rfl (bt rfl) (bt rfl) rfl (by rw [ShModel_k0 hS448, o188])) ln188 (pd188 (aR 448)) <| ok_aloadn (pc' := 1) i188_0 rfl rfl <| ok_iconst (pc' := 2) i188_1 rfl <| ok_putfj (kk := 0) (pc' := 5) i188_2 o188 pi188_63 (ShModel_k0 hS448) rfl rfl <| ok_aloadn (pc' := 6) i188_5 rfl rfl <| ok_aloadn (pc' := 7) i188_6 rfl rfl <| ?_
  refine ok_getfi (v := 0) (pc' := 10) i188_7 o188 gi9_66 (ShModel_k0 hS448) (rd_ni (by decide) (hld.trans hl)) rfl <| ok_kz0 (pc1 := 17) (pc2 := 13) i188_10 (by decide) rfl rfl <| ok_iconst (pc' := 14) i188_13 rfl <| ok_goto (pc' := 18) i188_14 rfl <| ok_iconst (pc' := 19) i188_18 rfl <| ok_cc i188_19 rfl (cl_v o188 m9_70 na165 rfl rfl (bt rfl) (bt rfl) rfl (by rw [ShModel_k0 hS448, o165])) ln165 (pd165 (aR 448) (aI 1) (aI 1)) <| ok_aloadn (pc' := 1) i165_0 rfl rfl <| ok_getfi (v := 0) (pc' := 4) i165_1 o165 gi9_63 (ShModel_k0 hS448) rd_eq rfl <| ?_
  refine ok_kz0 (pc1 := 16) (pc2 := 7) i165_4 (by decide) rfl rfl <| ok_iloadn (pc' := 8) i165_7 rfl rfl <| ok_kz0 (pc1 := 16) (pc2 := 11) i165_8 (by decide) rfl rfl <| ok_aloadn (pc' := 12) i165_11 rfl rfl <| ok_iloadn (pc' := 13) i165_12 rfl rfl <| ok_putfj (kk := 0) (pc' := 16) i165_13 o165 pi165_63 (ShModel_k0 hS448) rfl rfl <| ok_aloadn (pc' := 17) i165_16 rfl rfl <| ok_getfi (v := 1) (pc' := 20) i165_17 o165 gi9_63 (ShModel_k0 hS448) rd_eq rfl <| ?_
  refine ok_kz0 (pc1 := 27) (pc2 := 23) i165_20 (by decide) rfl rfl <| ok_iconst (pc' := 24) i165_23 rfl <| ok_goto (pc' := 28) i165_24 rfl <| ok_iretz i165_28 rt165 (by decide) <| kt_v (pc' := 22) rfl <| ok_iretz i188_22 rt188 (by decide) <| kt_v (pc' := 4) rfl <| ok_kz1 (pc1 := 31) (pc2 := 7) i206_4 (by decide) rfl rfl <| ?_
  refine ok_iconst (pc' := 32) i206_31 rfl <| ok_goto (pc' := 36) i206_32 rfl <| ok_iretz i206_36 rt206 (by decide) <| kt_v (pc' := 6) rfl <| ok_kz1 (pc1 := 31) (pc2 := 9) i212_6 (by decide) rfl rfl <| ok_iconst (pc' := 32) i212_31 rfl <| ok_goto (pc' := 41) i212_32 rfl <| ok_ireti i212_41 rt212 <| ?_
  refine kt_v (pc' := 1184) rfl <| ok_istore (pc' := 1186) (ls' := [aR 1, aR 100, aR 448, aR 464, aR 465, aI i, aI 1, aI 0, w8]) i0_1184 (bt rfl) rfl rfl <| ok_aloadn (pc' := 1187) i0_1186 rfl rfl <| ok_cc i0_1187 rfl (cl_v o0 m13_188 na157 rfl rfl (bt rfl) (bt rfl) rfl (by rw [ShModel_k0 hS448, o157])) ln157 (pd157 (aR 448)) <| ok_aloadn (pc' := 1) i157_0 rfl rfl <| ok_getfi (v := 1) (pc' := 4) i157_1 o157 gi9_63 (ShModel_k0 hS448) rd_eq rfl <| ok_ireti i157_4 rt157 <| kt_v (pc' := 1190) rfl <| ?_
  refine ok_iload (pc' := 1192) i0_1190 rfl rfl <| ok_kc1 (pc1 := 1197) (pc2 := 1195) i0_1192 (by decide) rfl rfl <| ok_iload (pc' := 1199) i0_1197 rfl rfl <| ok_kz1 (pc1 := 1214) (pc2 := 1202) i0_1199 (by decide) rfl rfl <| ok_goto (pc' := 3329) i0_1214 rfl <| ?_
  exact K _ _ _ _ _ _ hD (by omega) (Inv_mono (Inv_same hI (Same.thr (Same.thr Same.rfl))) (by omega))
theorem c18_0 {L n : Nat} {g : AG} {M : AM} {xs : Nat → Int32} {b i : Int} {w6 w7 w8 : AV} {Q : AO → AG → AM → Prop} (hD : HD L n g) (hI : Inv xs b M) (hi : 0 ≤ i ∧ i + 6 ≤ L) (hb : 0 ≤ b ∧ b ≤ 900000) (hl : M 100 6 = 0) (K : KK L n i b xs Q) :
    Ok 10 0 1217 [aR 1, aR 100, aR 448, aR 464, aR 465, aI i, w6, w7, w8] [] g M Q := by
  have hI0 := hI
  obtain ⟨hA, hld, hl01, q, hc, ⟨nx, sz, hH, hsz⟩, hS⟩ := hI0
  have hH0 := hH
  obtain ⟨⟨hn1, hn0⟩, ⟨hz2, hz0⟩, h10, hHj⟩ := hH0
  obtain ⟨hw0, ⟨bu, by_, hb1, hb13, hbu, hZ, hU⟩, he3, he4, he5, hId, tx, hT, hUt, htl, htr⟩ := hA
  have hS1 := HD_s hD
  have hS100 := HD_y hD
  have hS448 := HD_o hD
  have hS464 := HD_u hD
  have hS465 := HD_ud hD
  refine ok_aloadn (pc' := 1218) i0_1217 rfl rfl <| ok_aloadn (pc' := 1219) i0_1218 rfl rfl <| ok_cc i0_1219 rfl (cl_s o0 m13_246 na292 rfl rfl (bt rfl) (bt rfl) rfl) ln292 (pd292 (aR 100) (aR 464)) <| ok_aloadn (pc' := 1) i292_0 rfl rfl <| ok_iconst (pc' := 2) i292_1 rfl <| ok_aloadn (pc' := 3) i292_2 rfl rfl <| ok_cc i292_3 rfl (cl_v o292 m13_58 na117 rfl rfl (bt rfl) (bt rfl) rfl (by rw [ShYard_k0 hS100, o117])) ln117 (pd117 (aR 100)) <| ok_aloadn (pc' := 1) i117_0 rfl rfl <| ?_
  refine ok_cc i117_1 rfl (cl_v o117 m0_132 na99 rfl rfl (bt rfl) (bt rfl) rfl (by rw [ShYard_k0 hS100, o99])) ln99 (pd99 (aR 100)) <| ok_aloadn (pc' := 1) i99_0 rfl rfl <| ok_getfi (v := 0) (pc' := 4) i99_1 o99 gi0_268 (ShYard_k0 hS100) hl rfl <| ok_kz0 (pc1 := 18) (pc2 := 7) i99_4 (by decide) rfl rfl <| ok_throw th99_7 (bt rfl) <| kt_x hh117 <| kt_h hn292 hf292_3_12 hr292_11 <| kt_v (pc' := 1222) rfl <| ?_
  refine ok_al hD (fun g hD => ?_)
  have hS448 := HD_o hD
  have hS1 := HD_s hD
  have hS464 := HD_u hD
  have hS465 := HD_ud hD
  refine ok_istore (pc' := 1224) (ls' := [aR 1, aR 100, aR 448, aR 464, aR 465, aI i, aI 1, w7, w8]) i0_1222 (bt rfl) rfl rfl <| ok_aloadn (pc' := 1225) i0_1224 rfl rfl <| ok_cc i0_1225 rfl (cl_v o0 m13_248 na214 rfl rfl (bt rfl) (bt rfl) rfl (by rw [ShModel_k0 hS448, o214])) ln214 (pd214 (aR 448)) <| ok_aloadn (pc' := 1) i214_0 rfl rfl <| ok_cc i214_1 rfl (cl_v o214 m9_216 na188 rfl rfl (bt rfl) (bt rfl) rfl (by rw [ShModel_k0 hS448, o188])) ln188 (pd188 (aR 448)) <| ok_aloadn (pc' := 1) i188_0 rfl rfl <| ok_iconst (pc' := 2) i188_1 rfl <| ok_putfj (kk := 0) (pc' := 5) i188_2 o188 pi188_63 (ShModel_k0 hS448) rfl rfl <| ?_
  refine ok_aloadn (pc' := 6) i188_5 rfl rfl <| ok_aloadn (pc' := 7) i188_6 rfl rfl <| ok_getfi (v := 0) (pc' := 10) i188_7 o188 gi9_66 (ShModel_k0 hS448) (rd_ni (by decide) (hld.trans hl)) rfl <| ok_kz0 (pc1 := 17) (pc2 := 13) i188_10 (by decide) rfl rfl <| ok_iconst (pc' := 14) i188_13 rfl <| ok_goto (pc' := 18) i188_14 rfl <| ok_iconst (pc' := 19) i188_18 rfl <| ok_cc i188_19 rfl (cl_v o188 m9_70 na165 rfl rfl (bt rfl) (bt rfl) rfl (by rw [ShModel_k0 hS448, o165])) ln165 (pd165 (aR 448) (aI 1) (aI 1)) <| ?_
  refine ok_aloadn (pc' := 1) i165_0 rfl rfl <| ok_getfi (v := 0) (pc' := 4) i165_1 o165 gi9_63 (ShModel_k0 hS448) rd_eq rfl <| ok_kz0 (pc1 := 16) (pc2 := 7) i165_4 (by decide) rfl rfl <| ok_iloadn (pc' := 8) i165_7 rfl rfl <| ok_kz0 (pc1 := 16) (pc2 := 11) i165_8 (by decide) rfl rfl <| ok_aloadn (pc' := 12) i165_11 rfl rfl <| ok_iloadn (pc' := 13) i165_12 rfl rfl <| ok_putfj (kk := 0) (pc' := 16) i165_13 o165 pi165_63 (ShModel_k0 hS448) rfl rfl <| ?_
  refine ok_aloadn (pc' := 17) i165_16 rfl rfl <| ok_getfi (v := 1) (pc' := 20) i165_17 o165 gi9_63 (ShModel_k0 hS448) rd_eq rfl <| ok_kz0 (pc1 := 27) (pc2 := 23) i165_20 (by decide) rfl rfl <| ok_iconst (pc' := 24) i165_23 rfl <| ok_goto (pc' := 28) i165_24 rfl <| ok_iretz i165_28 rt165 (by decide) <| kt_v (pc' := 22) rfl <| ok_iretz i188_22 rt188 (by decide) <| ?_
  refine kt_v (pc' := 4) rfl <| ok_kz0 (pc1 := 11) (pc2 := 7) i214_4 (by decide) rfl rfl <| ok_iconst (pc' := 8) i214_7 rfl <| ok_goto (pc' := 17) i214_8 rfl <| ok_ireti i214_17 rt214 <| kt_v (pc' := 1228) rfl <| ok_istore (pc' := 1230) (ls' := [aR 1, aR 100, aR 448, aR 464, aR 465, aI i, aI 1, aI 0, w8]) i0_1228 (bt rfl) rfl rfl <| ok_aloadn (pc' := 1231) i0_1230 rfl rfl <| ?_
  refine ok_cc i0_1231 rfl (cl_v o0 m13_188 na157 rfl rfl (bt rfl) (bt rfl) rfl (by rw [ShModel_k0 hS448, o157])) ln157 (pd157 (aR 448)) <| ok_aloadn (pc' := 1) i157_0 rfl rfl <| ok_getfi (v := 1) (pc' := 4) i157_1 o157 gi9_63 (ShModel_k0 hS448) rd_eq rfl <| ok_ireti i157_4 rt157 <| kt_v (pc' := 1234) rfl <| ok_iload (pc' := 1236) i0_1234 rfl rfl <| ok_kc1 (pc1 := 1241) (pc2 := 1239) i0_1236 (by decide) rfl rfl <| ok_iload (pc' := 1243) i0_1241 rfl rfl <| ?_
  refine ok_kz1 (pc1 := 1258) (pc2 := 1246) i0_1243 (by decide) rfl rfl <| ok_goto (pc' := 3329) i0_1258 rfl <| ?_
  exact K _ _ _ _ _ _ hD (by omega) (Inv_mono (Inv_same hI (Same.thr (Same.thr Same.rfl))) (by omega))
theorem c19_0 {L n : Nat} {g : AG} {M : AM} {xs : Nat → Int32} {b i : Int} {w6 w7 w8 : AV} {Q : AO → AG → AM → Prop} (hD : HD L n g) (hI : Inv xs b M) (hi : 0 ≤ i ∧ i + 6 ≤ L) (hb : 0 ≤ b ∧ b ≤ 900000) (hl : M 100 6 = 0) (K : KK L n i b xs Q) :
    Ok 10 0 1261 [aR 1, aR 100, aR 448, aR 464, aR 465, aI i, w6, w7, w8] [] g M Q := by
  have hI0 := hI
  obtain ⟨hA, hld, hl01, q, hc, ⟨nx, sz, hH, hsz⟩, hS⟩ := hI0
  have hH0 := hH
  obtain ⟨⟨hn1, hn0⟩, ⟨hz2, hz0⟩, h10, hHj⟩ := hH0
  obtain ⟨hw0, ⟨bu, by_, hb1, hb13, hbu, hZ, hU⟩, he3, he4, he5, hId, tx, hT, hUt, htl, htr⟩ := hA
  have hS1 := HD_s hD
  have hS100 := HD_y hD
  have hS448 := HD_o hD
  have hS464 := HD_u hD
  have hS465 := HD_ud hD
  refine ok_aloadn (pc' := 1262) i0_1261 rfl rfl <| ok_aloadn (pc' := 1263) i0_1262 rfl rfl <| ok_cc i0_1263 rfl (cl_s o0 m13_249 na293 rfl rfl (bt rfl) (bt rfl) rfl) ln293 (pd293 (aR 100) (aR 464)) <| ok_aloadn (pc' := 1) i293_0 rfl rfl <| ok_iconst (pc' := 2) i293_1 rfl <| ok_aloadn (pc' := 3) i293_2 rfl rfl <| ok_cc i293_3 rfl (cl_v o293 m13_61 na118 rfl rfl (bt rfl) (bt rfl) rfl (by rw [ShYard_k0 hS100, o118])) ln118 (pd118 (aR 100)) <| ok_aloadn (pc' := 1) i118_0 rfl rfl <| ?_
  refine ok_cc i118_1 rfl (cl_v o118 m0_132 na99 rfl rfl (bt rfl) (bt rfl) rfl (by rw [ShYard_k0 hS100, o99])) ln99 (pd99 (aR 100)) <| ok_aloadn (pc' := 1) i99_0 rfl rfl <| ok_getfi (v := 0) (pc' := 4) i99_1 o99 gi0_268 (ShYard_k0 hS100) hl rfl <| ok_kz0 (pc1 := 18) (pc2 := 7) i99_4 (by decide) rfl rfl <| ok_throw th99_7 (bt rfl) <| kt_x hh118 <| kt_h hn293 hf293_3_12 hr293_11 <| kt_v (pc' := 1266) rfl <| ?_
  refine ok_al hD (fun g hD => ?_)
  have hS448 := HD_o hD
  have hS1 := HD_s hD
  have hS464 := HD_u hD
  have hS465 := HD_ud hD
  refine ok_istore (pc' := 1268) (ls' := [aR 1, aR 100, aR 448, aR 464, aR 465, aI i, aI 1, w7, w8]) i0_1266 (bt rfl) rfl rfl <| ok_aloadn (pc' := 1269) i0_1268 rfl rfl <| ok_cc i0_1269 rfl (cl_v o0 m13_251 na215 rfl rfl (bt rfl) (bt rfl) rfl (by rw [ShModel_k0 hS448, o215])) ln215 (pd215 (aR 448)) <| ok_aloadn (pc' := 1) i215_0 rfl rfl <| ok_cc i215_1 rfl (cl_v o215 m9_216 na188 rfl rfl (bt rfl) (bt rfl) rfl (by rw [ShModel_k0 hS448, o188])) ln188 (pd188 (aR 448)) <| ok_aloadn (pc' := 1) i188_0 rfl rfl <| ok_iconst (pc' := 2) i188_1 rfl <| ok_putfj (kk := 0) (pc' := 5) i188_2 o188 pi188_63 (ShModel_k0 hS448) rfl rfl <| ?_
  refine ok_aloadn (pc' := 6) i188_5 rfl rfl <| ok_aloadn (pc' := 7) i188_6 rfl rfl <| ok_getfi (v := 0) (pc' := 10) i188_7 o188 gi9_66 (ShModel_k0 hS448) (rd_ni (by decide) (hld.trans hl)) rfl <| ok_kz0 (pc1 := 17) (pc2 := 13) i188_10 (by decide) rfl rfl <| ok_iconst (pc' := 14) i188_13 rfl <| ok_goto (pc' := 18) i188_14 rfl <| ok_iconst (pc' := 19) i188_18 rfl <| ok_cc i188_19 rfl (cl_v o188 m9_70 na165 rfl rfl (bt rfl) (bt rfl) rfl (by rw [ShModel_k0 hS448, o165])) ln165 (pd165 (aR 448) (aI 1) (aI 1)) <| ?_
  refine ok_aloadn (pc' := 1) i165_0 rfl rfl <| ok_getfi (v := 0) (pc' := 4) i165_1 o165 gi9_63 (ShModel_k0 hS448) rd_eq rfl <| ok_kz0 (pc1 := 16) (pc2 := 7) i165_4 (by decide) rfl rfl <| ok_iloadn (pc' := 8) i165_7 rfl rfl <| ok_kz0 (pc1 := 16) (pc2 := 11) i165_8 (by decide) rfl rfl <| ok_aloadn (pc' := 12) i165_11 rfl rfl <| ok_iloadn (pc' := 13) i165_12 rfl rfl <| ok_putfj (kk := 0) (pc' := 16) i165_13 o165 pi165_63 (ShModel_k0 hS448) rfl rfl <| ?_
  refine ok_aloadn (pc' := 17) i165_16 rfl rfl <| ok_getfi (v := 1) (pc' := 20) i165_17 o165 gi9_63 (ShModel_k0 hS448) rd_eq rfl <| ok_kz0 (pc1 := 27) (pc2 := 23) i165_20 (by decide) rfl rfl <| ok_iconst (pc' := 24) i165_23 rfl <| ok_goto (pc' := 28) i165_24 rfl <| ok_iretz i165_28 rt165 (by decide) <| kt_v (pc' := 22) rfl <| ok_iretz i188_22 rt188 (by decide) <| ?_
  refine kt_v (pc' := 4) rfl <| ok_kz0 (pc1 := 9) (pc2 := 7) i215_4 (by decide) rfl rfl <| ok_iconst (pc' := 8) i215_7 rfl <| ok_ireti i215_8 rt215 <| kt_v (pc' := 1272) rfl <| ok_istore (pc' := 1274) (ls' := [aR 1, aR 100, aR 448, aR 464, aR 465, aI i, aI 1, aI 0, w8]) i0_1272 (bt rfl) rfl rfl <| ok_aloadn (pc' := 1275) i0_1274 rfl rfl <| ok_cc i0_1275 rfl (cl_v o0 m13_188 na157 rfl rfl (bt rfl) (bt rfl) rfl (by rw [ShModel_k0 hS448, o157])) ln157 (pd157 (aR 448)) <| ?_
  refine ok_aloadn (pc' := 1) i157_0 rfl rfl <| ok_getfi (v := 1) (pc' := 4) i157_1 o157 gi9_63 (ShModel_k0 hS448) rd_eq rfl <| ok_ireti i157_4 rt157 <| kt_v (pc' := 1278) rfl <| ok_iload (pc' := 1280) i0_1278 rfl rfl <| ok_kc1 (pc1 := 1285) (pc2 := 1283) i0_1280 (by decide) rfl rfl <| ok_iload (pc' := 1287) i0_1285 rfl rfl <| ok_kz1 (pc1 := 1302) (pc2 := 1290) i0_1287 (by decide) rfl rfl <| ?_
  refine ok_goto (pc' := 3329) i0_1302 rfl <| ?_
  exact K _ _ _ _ _ _ hD (by omega) (Inv_mono (Inv_same hI (Same.thr (Same.thr Same.rfl))) (by omega))
theorem c20_0 {L n : Nat} {g : AG} {M : AM} {xs : Nat → Int32} {b i : Int} {w6 w7 w8 : AV} {Q : AO → AG → AM → Prop} (hD : HD L n g) (hI : Inv xs b M) (hi : 0 ≤ i ∧ i + 6 ≤ L) (hb : 0 ≤ b ∧ b ≤ 900000) (hl : M 100 6 = 0) (K : KK L n i b xs Q) :
    Ok 10 0 1305 [aR 1, aR 100, aR 448, aR 464, aR 465, aI i, w6, w7, w8] [] g M Q := by
  have hI0 := hI
  obtain ⟨hA, hld, hl01, q, hc, ⟨nx, sz, hH, hsz⟩, hS⟩ := hI0
  have hH0 := hH
  obtain ⟨⟨hn1, hn0⟩, ⟨hz2, hz0⟩, h10, hHj⟩ := hH0
  obtain ⟨hw0, ⟨bu, by_, hb1, hb13, hbu, hZ, hU⟩, he3, he4, he5, hId, tx, hT, hUt, htl, htr⟩ := hA
  have hS1 := HD_s hD
  have hS100 := HD_y hD
  have hS448 := HD_o hD
  have hS464 := HD_u hD
  have hS465 := HD_ud hD
  refine ok_aloadn (pc' := 1306) i0_1305 rfl rfl <| ok_aloadn (pc' := 1307) i0_1306 rfl rfl <| ok_cc i0_1307 rfl (cl_s o0 m13_252 na294 rfl rfl (bt rfl) (bt rfl) rfl) ln294 (pd294 (aR 100) (aR 464)) <| ok_aloadn (pc' := 1) i294_0 rfl rfl <| ok_iconst (pc' := 2) i294_1 rfl <| ok_aloadn (pc' := 3) i294_2 rfl rfl <| ok_cc i294_3 rfl (cl_v o294 m13_64 na119 rfl rfl (bt rfl) (bt rfl) rfl (by rw [ShYard_k0 hS100, o119])) ln119 (pd119 (aR 100)) <| ok_aloadn (pc' := 1) i119_0 rfl rfl <| ?_
  refine ok_cc i119_1 rfl (cl_v o119 m0_132 na99 rfl rfl (bt rfl) (bt rfl) rfl (by rw [ShYard_k0 hS100, o99])) ln99 (pd99 (aR 100)) <| ok_aloadn (pc' := 1) i99_0 rfl rfl <| ok_getfi (v := 0) (pc' := 4) i99_1 o99 gi0_268 (ShYard_k0 hS100) hl rfl <| ok_kz0 (pc1 := 18) (pc2 := 7) i99_4 (by decide) rfl rfl <| ok_throw th99_7 (bt rfl) <| kt_x hh119 <| kt_h hn294 hf294_3_12 hr294_11 <| kt_v (pc' := 1310) rfl <| ?_
  refine ok_al hD (fun g hD => ?_)
  have hS448 := HD_o hD
  have hS1 := HD_s hD
  have hS464 := HD_u hD
  have hS465 := HD_ud hD
  refine ok_istore (pc' := 1312) (ls' := [aR 1, aR 100, aR 448, aR 464, aR 465, aI i, aI 1, w7, w8]) i0_1310 (bt rfl) rfl rfl <| ok_aloadn (pc' := 1313) i0_1312 rfl rfl <| ok_cc i0_1313 rfl (cl_v o0 m13_254 na216 rfl rfl (bt rfl) (bt rfl) rfl (by rw [ShModel_k0 hS448, o216])) ln216 (pd216 (aR 448)) <| ok_aloadn (pc' := 1) i216_0 rfl rfl <| ok_cc i216_1 rfl (cl_v o216 m9_216 na188 rfl rfl (bt rfl) (bt rfl) rfl (by rw [ShModel_k0 hS448, o188])) ln188 (pd188 (aR 448)) <| ok_aloadn (pc' := 1) i188_0 rfl rfl <| ok_iconst (pc' := 2) i188_1 rfl <| ok_putfj (kk := 0) (pc' := 5) i188_2 o188 pi188_63 (ShModel_k0 hS448) rfl rfl <| ?_
  refine ok_aloadn (pc' := 6) i188_5 rfl rfl <| ok_aloadn (pc' := 7) i188_6 rfl rfl <| ok_getfi (v := 0) (pc' := 10) i188_7 o188 gi9_66 (ShModel_k0 hS448) (rd_ni (by decide) (hld.trans hl)) rfl <| ok_kz0 (pc1 := 17) (pc2 := 13) i188_10 (by decide) rfl rfl <| ok_iconst (pc' := 14) i188_13 rfl <| ok_goto (pc' := 18) i188_14 rfl <| ok_iconst (pc' := 19) i188_18 rfl <| ok_cc i188_19 rfl (cl_v o188 m9_70 na165 rfl rfl (bt rfl) (bt rfl) rfl (by rw [ShModel_k0 hS448, o165])) ln165 (pd165 (aR 448) (aI 1) (aI 1)) <| ?_
  refine ok_aloadn (pc' := 1) i165_0 rfl rfl <| ok_getfi (v := 0) (pc' := 4) i165_1 o165 gi9_63 (ShModel_k0 hS448) rd_eq rfl <| ok_kz0 (pc1 := 16) (pc2 := 7) i165_4 (by decide) rfl rfl <| ok_iloadn (pc' := 8) i165_7 rfl rfl <| ok_kz0 (pc1 := 16) (pc2 := 11) i165_8 (by decide) rfl rfl <| ok_aloadn (pc' := 12) i165_11 rfl rfl <| ok_iloadn (pc' := 13) i165_12 rfl rfl <| ok_putfj (kk := 0) (pc' := 16) i165_13 o165 pi165_63 (ShModel_k0 hS448) rfl rfl <| ?_
  refine ok_aloadn (pc' := 17) i165_16 rfl rfl <| ok_getfi (v := 1) (pc' := 20) i165_17 o165 gi9_63 (ShModel_k0 hS448) rd_eq rfl <| ok_kz0 (pc1 := 27) (pc2 := 23) i165_20 (by decide) rfl rfl <| ok_iconst (pc' := 24) i165_23 rfl <| ok_goto (pc' := 28) i165_24 rfl <| ok_iretz i165_28 rt165 (by decide) <| kt_v (pc' := 22) rfl <| ok_iretz i188_22 rt188 (by decide) <| ?_
  refine kt_v (pc' := 4) rfl <| ok_kz0 (pc1 := 9) (pc2 := 7) i216_4 (by decide) rfl rfl <| ok_iconst (pc' := 8) i216_7 rfl <| ok_ireti i216_8 rt216 <| kt_v (pc' := 1316) rfl <| ok_istore (pc' := 1318) (ls' := [aR 1, aR 100, aR 448, aR 464, aR 465, aI i, aI 1, aI 0, w8]) i0_1316 (bt rfl) rfl rfl <| ok_aloadn (pc' := 1319) i0_1318 rfl rfl <| ok_cc i0_1319 rfl (cl_v o0 m13_188 na157 rfl rfl (bt rfl) (bt rfl) rfl (by rw [ShModel_k0 hS448, o157])) ln157 (pd157 (aR 448)) <| ?_
  refine ok_aloadn (pc' := 1) i157_0 rfl rfl <| ok_getfi (v := 1) (pc' := 4) i157_1 o157 gi9_63 (ShModel_k0 hS448) rd_eq rfl <| ok_ireti i157_4 rt157 <| kt_v (pc' := 1322) rfl <| ok_iload (pc' := 1324) i0_1322 rfl rfl <| ok_kc1 (pc1 := 1329) (pc2 := 1327) i0_1324 (by decide) rfl rfl <| ok_iload (pc' := 1331) i0_1329 rfl rfl <| ok_kz1 (pc1 := 1346) (pc2 := 1334) i0_1331 (by decide) rfl rfl <| ?_
  refine ok_goto (pc' := 3329) i0_1346 rfl <| ?_
  exact K _ _ _ _ _ _ hD (by omega) (Inv_mono (Inv_same hI (Same.thr (Same.thr Same.rfl))) (by omega))
theorem c21_0 {L n : Nat} {g : AG} {M : AM} {xs : Nat → Int32} {b i : Int} {w6 w7 w8 : AV} {Q : AO → AG → AM → Prop} (hD : HD L n g) (hI : Inv xs b M) (hi : 0 ≤ i ∧ i + 6 ≤ L) (hb : 0 ≤ b ∧ b ≤ 900000) (hl : M 100 6 = 0) (K : KK L n i b xs Q) :
    Ok 10 0 1349 [aR 1, aR 100, aR 448, aR 464, aR 465, aI i, w6, w7, w8] [] g M Q := by
  have hI0 := hI
  obtain ⟨hA, hld, hl01, q, hc, ⟨nx, sz, hH, hsz⟩, hS⟩ := hI0
  have hH0 := hH
  obtain ⟨⟨hn1, hn0⟩, ⟨hz2, hz0⟩, h10, hHj⟩ := hH0
  obtain ⟨hw0, ⟨bu, by_, hb1, hb13, hbu, hZ, hU⟩, he3, he4, he5, hId, tx, hT, hUt, htl, htr⟩ := hA
  have hS1 := HD_s hD
  have hS100 := HD_y hD
  have hS448 := HD_o hD
  have hS464 := HD_u hD
  have hS465 := HD_ud hD
  refine ok_aloadn (pc' := 1350) i0_1349 rfl rfl <| ok_aloadn (pc' := 1351) i0_1350 rfl rfl <| ok_cc i0_1351 rfl (cl_s o0 m13_255 na295 rfl rfl (bt rfl) (bt rfl) rfl) ln295 (pd295 (aR 100) (aR 464)) <| ok_aloadn (pc' := 1) i295_0 rfl rfl <| ok_iconst (pc' := 2) i295_1 rfl <| ok_aloadn (pc' := 3) i295_2 rfl rfl <| ok_cc i295_3 rfl (cl_v o295 m13_67 na120 rfl rfl (bt rfl) (bt rfl) rfl (by rw [ShYard_k0 hS100, o120])) ln120 (pd120 (aR 100)) <| ok_aloadn (pc' := 1) i120_0 rfl rfl <| ?_
  refine ok_cc i120_1 rfl (cl_v o120 m0_132 na99 rfl rfl (bt rfl) (bt rfl) rfl (by rw [ShYard_k0 hS100, o99])) ln99 (pd99 (aR 100)) <| ok_aloadn (pc' := 1) i99_0 rfl rfl <| ok_getfi (v := 0) (pc' := 4) i99_1 o99 gi0_268 (ShYard_k0 hS100) hl rfl <| ok_kz0 (pc1 := 18) (pc2 := 7) i99_4 (by decide) rfl rfl <| ok_throw th99_7 (bt rfl) <| kt_x hh120 <| kt_h hn295 hf295_3_12 hr295_11 <| kt_v (pc' := 1354) rfl <| ?_
  refine ok_al hD (fun g hD => ?_)
  have hS448 := HD_o hD
  have hS1 := HD_s hD
  have hS464 := HD_u hD
  have hS465 := HD_ud hD
  refine ok_istore (pc' := 1356) (ls' := [aR 1, aR 100, aR 448, aR 464, aR 465, aI i, aI 1, w7, w8]) i0_1354 (bt rfl) rfl rfl <| ok_aloadn (pc' := 1357) i0_1356 rfl rfl <| ok_cc i0_1357 rfl (cl_v o0 m13_257 na217 rfl rfl (bt rfl) (bt rfl) rfl (by rw [ShModel_k0 hS448, o217])) ln217 (pd217 (aR 448)) <| ok_aloadn (pc' := 1) i217_0 rfl rfl <| ok_cc i217_1 rfl (cl_v o217 m9_216 na188 rfl rfl (bt rfl) (bt rfl) rfl (by rw [ShModel_k0 hS448, o188])) ln188 (pd188 (aR 448)) <| ok_aloadn (pc' := 1) i188_0 rfl rfl <| ok_iconst (pc' := 2) i188_1 rfl <| ok_putfj (kk := 0) (pc' := 5) i188_2 o188 pi188_63 (ShModel_k0 hS448) rfl rfl <| ?_
  refine ok_aloadn (pc' := 6) i188_5 rfl rfl <| ok_aloadn (pc' := 7) i188_6 rfl rfl <| ok_getfi (v := 0) (pc' := 10) i188_7 o188 gi9_66 (ShModel_k0 hS448) (rd_ni (by decide) (hld.trans hl)) rfl <| ok_kz0 (pc1 := 17) (pc2 := 13) i188_10 (by decide) rfl rfl <| ok_iconst (pc' := 14) i188_13 rfl <| ok_goto (pc' := 18) i188_14 rfl <| ok_iconst (pc' := 19) i188_18 rfl <| ok_cc i188_19 rfl (cl_v o188 m9_70 na165 rfl rfl (bt rfl) (bt rfl) rfl (by rw [ShModel_k0 hS448, o165])) ln165 (pd165 (aR 448) (aI 1) (aI 1)) <| ?_
  refine ok_aloadn (pc' := 1) i165_0 rfl rfl <| ok_getfi (v := 0) (pc' := 4) i165_1 o165 gi9_63 (ShModel_k0 hS448) rd_eq rfl <| ok_kz0 (pc1 := 16) (pc2 := 7) i165_4 (by decide) rfl rfl <| ok_iloadn (pc' := 8) i165_7 rfl rfl <| ok_kz0 (pc1 := 16) (pc2 := 11) i165_8 (by decide) rfl rfl <| ok_aloadn (pc' := 12) i165_11 rfl rfl <| ok_iloadn (pc' := 13) i165_12 rfl rfl <| ok_putfj (kk := 0) (pc' := 16) i165_13 o165 pi165_63 (ShModel_k0 hS448) rfl rfl <| ?_
  refine ok_aloadn (pc' := 17) i165_16 rfl rfl <| ok_getfi (v := 1) (pc' := 20) i165_17 o165 gi9_63 (ShModel_k0 hS448) rd_eq rfl <| ok_kz0 (pc1 := 27) (pc2 := 23) i165_20 (by decide) rfl rfl <| ok_iconst (pc' := 24) i165_23 rfl <| ok_goto (pc' := 28) i165_24 rfl <| ok_iretz i165_28 rt165 (by decide) <| kt_v (pc' := 22) rfl <| ok_iretz i188_22 rt188 (by decide) <| ?_
  refine kt_v (pc' := 4) rfl <| ok_kz0 (pc1 := 11) (pc2 := 7) i217_4 (by decide) rfl rfl <| ok_iconst (pc' := 8) i217_7 rfl <| ok_goto (pc' := 16) i217_8 rfl <| ok_ireti i217_16 rt217 <| kt_v (pc' := 1360) rfl <| ok_istore (pc' := 1362) (ls' := [aR 1, aR 100, aR 448, aR 464, aR 465, aI i, aI 1, aI 0, w8]) i0_1360 (bt rfl) rfl rfl <| ok_aloadn (pc' := 1363) i0_1362 rfl rfl <| ?_
  refine ok_cc i0_1363 rfl (cl_v o0 m13_188 na157 rfl rfl (bt rfl) (bt rfl) rfl (by rw [ShModel_k0 hS448, o157])) ln157 (pd157 (aR 448)) <| ok_aloadn (pc' := 1) i157_0 rfl rfl <| ok_getfi (v := 1) (pc' := 4) i157_1 o157 gi9_63 (ShModel_k0 hS448) rd_eq rfl <| ok_ireti i157_4 rt157 <| kt_v (pc' := 1366) rfl <| ok_iload (pc' := 1368) i0_1366 rfl rfl <| ok_kc1 (pc1 := 1373) (pc2 := 1371) i0_1368 (by decide) rfl rfl <| ok_iload (pc' := 1375) i0_1373 rfl rfl <| ?_
  refine ok_kz1 (pc1 := 1390) (pc2 := 1378) i0_1375 (by decide) rfl rfl <| ok_goto (pc' := 3329) i0_1390 rfl <| ?_
  exact K _ _ _ _ _ _ hD (by omega) (Inv_mono (Inv_same hI (Same.thr (Same.thr Same.rfl))) (by omega))
theorem c22_0 {L n : Nat} {g : AG} {M : AM} {xs : Nat → Int32} {b i : Int} {w6 w7 w8 : AV} {Q : AO → AG → AM → Prop} (hD : HD L n g) (hI : Inv xs b M) (hi : 0 ≤ i ∧ i + 6 ≤ L) (hb : 0 ≤ b ∧ b ≤ 900000) (hl : M 100 6 = 0) (K : KK L n i b xs Q) :
    Ok 10 0 1393 [aR 1, aR 100, aR 448, aR 464, aR 465, aI i, w6, w7, w8] [] g M Q := by
  have hI0 := hI
  obtain ⟨hA, hld, hl01, q, hc, ⟨nx, sz, hH, hsz⟩, hS⟩ := hI0
  have hH0 := hH
  obtain ⟨⟨hn1, hn0⟩, ⟨hz2, hz0⟩, h10, hHj⟩ := hH0
  obtain ⟨hw0, ⟨bu, by_, hb1, hb13, hbu, hZ, hU⟩, he3, he4, he5, hId, tx, hT, hUt, htl, htr⟩ := hA
  have hS1 := HD_s hD
  have hS100 := HD_y hD
  have hS448 := HD_o hD
  have hS464 := HD_u hD
  have hS465 := HD_ud hD
  refine ok_aloadn (pc' := 1394) i0_1393 rfl rfl <| ok_aloadn (pc' := 1395) i0_1394 rfl rfl <| ok_cc i0_1395 rfl (cl_s o0 m13_258 na296 rfl rfl (bt rfl) (bt rfl) rfl) ln296 (pd296 (aR 100) (aR 464)) <| ok_aloadn (pc' := 1) i296_0 rfl rfl <| ok_iconst (pc' := 2) i296_1 rfl <| ok_aloadn (pc' := 3) i296_2 rfl rfl <| ok_cc i296_3 rfl (cl_v o296 m13_70 na121 rfl rfl (bt rfl) (bt rfl) rfl (by rw [ShYard_k0 hS100, o121])) ln121 (pd121 (aR 100)) <| ok_aloadn (pc' := 1) i121_0 rfl rfl <| ?_
  refine ok_cc i121_1 rfl (cl_v o121 m0_132 na99 rfl rfl (bt rfl) (bt rfl) rfl (by rw [ShYard_k0 hS100, o99])) ln99 (pd99 (aR 100)) <| ok_aloadn (pc' := 1) i99_0 rfl rfl <| ok_getfi (v := 0) (pc' := 4) i99_1 o99 gi0_268 (ShYard_k0 hS100) hl rfl <| ok_kz0 (pc1 := 18) (pc2 := 7) i99_4 (by decide) rfl rfl <| ok_throw th99_7 (bt rfl) <| kt_x hh121 <| kt_h hn296 hf296_3_12 hr296_11 <| kt_v (pc' := 1398) rfl <| ?_
  refine ok_al hD (fun g hD => ?_)
  have hS448 := HD_o hD
  have hS1 := HD_s hD
  have hS464 := HD_u hD
  have hS465 := HD_ud hD
  refine ok_istore (pc' := 1400) (ls' := [aR 1, aR 100, aR 448, aR 464, aR 465, aI i, aI 1, w7, w8]) i0_1398 (bt rfl) rfl rfl <| ok_aloadn (pc' := 1401) i0_1400 rfl rfl <| ok_cc i0_1401 rfl (cl_v o0 m13_260 na219 rfl rfl (bt rfl) (bt rfl) rfl (by rw [ShModel_k0 hS448, o219])) ln219 (pd219 (aR 448)) <| ok_aloadn (pc' := 1) i219_0 rfl rfl <| ok_cc i219_1 rfl (cl_v o219 m9_216 na188 rfl rfl (bt rfl) (bt rfl) rfl (by rw [ShModel_k0 hS448, o188])) ln188 (pd188 (aR 448)) <| ok_aloadn (pc' := 1) i188_0 rfl rfl <| ok_iconst (pc' := 2) i188_1 rfl <| ok_putfj (kk := 0) (pc' := 5) i188_2 o188 pi188_63 (ShModel_k0 hS448) rfl rfl <| ?_
  refine ok_aloadn (pc' := 6) i188_5 rfl rfl <| ok_aloadn (pc' := 7) i188_6 rfl rfl <| ok_getfi (v := 0) (pc' := 10) i188_7 o188 gi9_66 (ShModel_k0 hS448) (rd_ni (by decide) (hld.trans hl)) rfl <| ok_kz0 (pc1 := 17) (pc2 := 13) i188_10 (by decide) rfl rfl <| ok_iconst (pc' := 14) i188_13 rfl <| ok_goto (pc' := 18) i188_14 rfl <| ok_iconst (pc' := 19) i188_18 rfl <| ok_cc i188_19 rfl (cl_v o188 m9_70 na165 rfl rfl (bt rfl) (bt rfl) rfl (by rw [ShModel_k0 hS448, o165])) ln165 (pd165 (aR 448) (aI 1) (aI 1)) <| ?_
  refine ok_aloadn (pc' := 1) i165_0 rfl rfl <| ok_getfi (v := 0) (pc' := 4) i165_1 o165 gi9_63 (ShModel_k0 hS448) rd_eq rfl <| ok_kz0 (pc1 := 16) (pc2 := 7) i165_4 (by decide) rfl rfl <| ok_iloadn (pc' := 8) i165_7 rfl rfl <| ok_kz0 (pc1 := 16) (pc2 := 11) i165_8 (by decide) rfl rfl <| ok_aloadn (pc' := 12) i165_11 rfl rfl <| ok_iloadn (pc' := 13) i165_12 rfl rfl <| ok_putfj (kk := 0) (pc' := 16) i165_13 o165 pi165_63 (ShModel_k0 hS448) rfl rfl <| ?_
  refine ok_aloadn (pc' := 17) i165_16 rfl rfl <| ok_getfi (v := 1) (pc' := 20) i165_17 o165 gi9_63 (ShModel_k0 hS448) rd_eq rfl <| ok_kz0 (pc1 := 27) (pc2 := 23) i165_20 (by decide) rfl rfl <| ok_iconst (pc' := 24) i165_23 rfl <| ok_goto (pc' := 28) i165_24 rfl <| ok_iretz i165_28 rt165 (by decide) <| kt_v (pc' := 22) rfl <| ok_iretz i188_22 rt188 (by decide) <| ?_
  refine kt_v (pc' := 4) rfl <| ok_kz0 (pc1 := 9) (pc2 := 7) i219_4 (by decide) rfl rfl <| ok_iconst (pc' := 8) i219_7 rfl <| ok_ireti i219_8 rt219 <| kt_v (pc' := 1404) rfl <| ok_istore (pc' := 1406) (ls' := [aR 1, aR 100, aR 448, aR 464, aR 465, aI i, aI 1, aI 0, w8]) i0_1404 (bt rfl) rfl rfl <| ok_aloadn (pc' := 1407) i0_1406 rfl rfl <| ok_cc i0_1407 rfl (cl_v o0 m13_188 na157 rfl rfl (bt rfl) (bt rfl) rfl (by rw [ShModel_k0 hS448, o157])) ln157 (pd157 (aR 448)) <| ?_
  refine ok_aloadn (pc' := 1) i157_0 rfl rfl <| ok_getfi (v := 1) (pc' := 4) i157_1 o157 gi9_63 (ShModel_k0 hS448) rd_eq rfl <| ok_ireti i157_4 rt157 <| kt_v (pc' := 1410) rfl <| ok_iload (pc' := 1412) i0_1410 rfl rfl <| ok_kc1 (pc1 := 1417) (pc2 := 1415) i0_1412 (by decide) rfl rfl <| ok_iload (pc' := 1419) i0_1417 rfl rfl <| ok_kz1 (pc1 := 1434) (pc2 := 1422) i0_1419 (by decide) rfl rfl <| ?_
  refine ok_goto (pc' := 3329) i0_1434 rfl <| ?_
  exact K _ _ _ _ _ _ hD (by omega) (Inv_mono (Inv_same hI (Same.thr (Same.thr Same.rfl))) (by omega))
theorem c23_0 {L n : Nat} {g : AG} {M : AM} {xs : Nat → Int32} {b i : Int} {w6 w7 w8 : AV} {Q : AO → AG → AM → Prop} (hD : HD L n g) (hI : Inv xs b M) (hi : 0 ≤ i ∧ i + 6 ≤ L) (hb : 0 ≤ b ∧ b ≤ 900000) (hl : M 100 6 = 0) (K : KK L n i b xs Q) :
    Ok 10 0 1437 [aR 1, aR 100, aR 448, aR 464, aR 465, aI i, w6, w7, w8] [] g M Q := by
  have hI0 := hI
  obtain ⟨hA, hld, hl01, q, hc, ⟨nx, sz, hH, hsz⟩, hS⟩ := hI0
  have hH0 := hH
  obtain ⟨⟨hn1, hn0⟩, ⟨hz2, hz0⟩, h10, hHj⟩ := hH0
  obtain ⟨hw0, ⟨bu, by_, hb1, hb13, hbu, hZ, hU⟩, he3, he4, he5, hId, tx, hT, hUt, htl, htr⟩ := hA
  obtain ⟨v1, hv1⟩ : ∃ u9 : Int, M 1 (i + 1) = u9 := ⟨_, rfl⟩
  have hr1 : -2147483648 ≤ v1 ∧ v1 < 2147483648 := hv1 ▸ scr_rg hw0 (i + 1)
  obtain ⟨v2, hv2⟩ : ∃ u9 : Int, M 1 (i + 2) = u9 := ⟨_, rfl⟩
  have hr2 : -2147483648 ≤ v2 ∧ v2 < 2147483648 := hv2 ▸ scr_rg hw0 (i + 2)
  have hS1 := HD_s hD
  have hS100 := HD_y hD
  have hS448 := HD_o hD
  have hS464 := HD_u hD
  have hS465 := HD_ud hD
  refine ok_aloadn (pc' := 1438) i0_1437 rfl rfl <| ok_aloadn (pc' := 1439) i0_1438 rfl rfl <| ok_iload (pc' := 1441) i0_1439 rfl rfl <| ok_iconst (pc' := 1442) i0_1441 rfl <| ok_iadd (v := (i + 1)) (pc' := 1443) i0_1442 rfl rfl <| ok_iaload (v := v1) (pc' := 1444) i0_1443 (ShScr_k0 hS1) (by decide) (ShScr_l0 hS1) (by omega) hv1 rfl <| ok_aloadn (pc' := 1445) i0_1444 rfl rfl <| ok_iload (pc' := 1447) i0_1445 rfl rfl <| ?_
  refine ok_iconst (pc' := 1448) i0_1447 rfl <| ok_iadd (v := (i + 2)) (pc' := 1449) i0_1448 rfl rfl <| ok_iaload (v := v2) (pc' := 1450) i0_1449 (ShScr_k0 hS1) (by decide) (ShScr_l0 hS1) (by omega) hv2 rfl <| ok_aloadn (pc' := 1451) i0_1450 rfl rfl <| ok_cc i0_1451 rfl (cl_s o0 m13_261 na297 rfl rfl (bt rfl) (bt rfl) rfl) ln297 (pd297 (aR 100) (aI v1) (aI v2) (aR 464)) <| ok_aloadn (pc' := 1) i297_0 rfl rfl <| ok_iconst (pc' := 2) i297_1 rfl <| ok_aloadn (pc' := 3) i297_2 rfl rfl <| ?_
  refine ok_iloadn (pc' := 4) i297_3 rfl rfl <| ok_iloadn (pc' := 5) i297_4 rfl rfl <| ok_cc i297_5 rfl (cl_v o297 m13_73 na122 rfl rfl (bt rfl) (bt rfl) rfl (by rw [ShYard_k0 hS100, o122])) ln122 (pd122 (aR 100) (aI v1) (aI v2)) <| ok_aloadn (pc' := 1) i122_0 rfl rfl <| ok_cc i122_1 rfl (cl_v o122 m0_132 na99 rfl rfl (bt rfl) (bt rfl) rfl (by rw [ShYard_k0 hS100, o99])) ln99 (pd99 (aR 100)) <| ok_aloadn (pc' := 1) i99_0 rfl rfl <| ok_getfi (v := 0) (pc' := 4) i99_1 o99 gi0_268 (ShYard_k0 hS100) hl rfl <| ok_kz0 (pc1 := 18) (pc2 := 7) i99_4 (by decide) rfl rfl <| ?_
  refine ok_throw th99_7 (bt rfl) <| kt_x hh122 <| kt_h hn297 hf297_5_12 hr297_20 <| kt_v (pc' := 1454) rfl <| ?_
  refine ok_al hD (fun g hD => ?_)
  have hS448 := HD_o hD
  have hS1 := HD_s hD
  have hS464 := HD_u hD
  have hS465 := HD_ud hD
  refine ok_istore (pc' := 1456) (ls' := [aR 1, aR 100, aR 448, aR 464, aR 465, aI i, aI 1, w7, w8]) i0_1454 (bt rfl) rfl rfl <| ok_aloadn (pc' := 1457) i0_1456 rfl rfl <| ok_aloadn (pc' := 1458) i0_1457 rfl rfl <| ok_iload (pc' := 1460) i0_1458 rfl rfl <| ok_iconst (pc' := 1461) i0_1460 rfl <| ok_iadd (v := (i + 1)) (pc' := 1462) i0_1461 rfl rfl <| ok_iaload (v := v1) (pc' := 1463) i0_1462 (ShScr_k0 hS1) (by decide) (ShScr_l0 hS1) (by omega) hv1 rfl <| ok_aloadn (pc' := 1464) i0_1463 rfl rfl <| ?_
  refine ok_iload (pc' := 1466) i0_1464 rfl rfl <| ok_iconst (pc' := 1467) i0_1466 rfl <| ok_iadd (v := (i + 2)) (pc' := 1468) i0_1467 rfl rfl <| ok_iaload (v := v2) (pc' := 1469) i0_1468 (ShScr_k0 hS1) (by decide) (ShScr_l0 hS1) (by omega) hv2 rfl <| ok_cc i0_1469 rfl (cl_v o0 m13_263 na220 rfl rfl (bt rfl) (bt rfl) rfl (by rw [ShModel_k0 hS448, o220])) ln220 (pd220 (aR 448) (aI v1) (aI v2)) <| ok_aloadn (pc' := 1) i220_0 rfl rfl <| ok_iloadn (pc' := 2) i220_1 rfl rfl <| ok_iloadn (pc' := 3) i220_2 rfl rfl <| ?_
  refine ok_cc i220_3 rfl (cl_v o220 m9_271 na221 rfl rfl (bt rfl) (bt rfl) rfl (by rw [ShModel_k0 hS448, o221])) ln221 (pd221 (aR 448) (aI v1) (aI v2)) <| ok_aloadn (pc' := 1) i221_0 rfl rfl <| ok_iloadn (pc' := 2) i221_1 rfl rfl <| ok_cc i221_2 rfl (cl_v o221 m9_223 na201 rfl rfl (bt rfl) (bt rfl) rfl (by rw [ShModel_k0 hS448, o201])) ln201 (pd201 (aR 448) (aI v1)) <| ok_aloadn (pc' := 1) i201_0 rfl rfl <| ok_cc i201_1 rfl (cl_v o201 m9_216 na188 rfl rfl (bt rfl) (bt rfl) rfl (by rw [ShModel_k0 hS448, o188])) ln188 (pd188 (aR 448)) <| ok_aloadn (pc' := 1) i188_0 rfl rfl <| ok_iconst (pc' := 2) i188_1 rfl <| ?_
  refine ok_putfj (kk := 0) (pc' := 5) i188_2 o188 pi188_63 (ShModel_k0 hS448) rfl rfl <| ok_aloadn (pc' := 6) i188_5 rfl rfl <| ok_aloadn (pc' := 7) i188_6 rfl rfl <| ok_getfi (v := 0) (pc' := 10) i188_7 o188 gi9_66 (ShModel_k0 hS448) (rd_ni (by decide) (hld.trans hl)) rfl <| ok_kz0 (pc1 := 17) (pc2 := 13) i188_10 (by decide) rfl rfl <| ok_iconst (pc' := 14) i188_13 rfl <| ok_goto (pc' := 18) i188_14 rfl <| ok_iconst (pc' := 19) i188_18 rfl <| ?_
  refine ok_cc i188_19 rfl (cl_v o188 m9_70 na165 rfl rfl (bt rfl) (bt rfl) rfl (by rw [ShModel_k0 hS448, o165])) ln165 (pd165 (aR 448) (aI 1) (aI 1)) <| ok_aloadn (pc' := 1) i165_0 rfl rfl <| ok_getfi (v := 0) (pc' := 4) i165_1 o165 gi9_63 (ShModel_k0 hS448) rd_eq rfl <| ok_kz0 (pc1 := 16) (pc2 := 7) i165_4 (by decide) rfl rfl <| ok_iloadn (pc' := 8) i165_7 rfl rfl <| ok_kz0 (pc1 := 16) (pc2 := 11) i165_8 (by decide) rfl rfl <| ok_aloadn (pc' := 12) i165_11 rfl rfl <| ok_iloadn (pc' := 13) i165_12 rfl rfl <| ?_
  refine ok_putfj (kk := 0) (pc' := 16) i165_13 o165 pi165_63 (ShModel_k0 hS448) rfl rfl <| ok_aloadn (pc' := 17) i165_16 rfl rfl <| ok_getfi (v := 1) (pc' := 20) i165_17 o165 gi9_63 (ShModel_k0 hS448) rd_eq rfl <| ok_kz0 (pc1 := 27) (pc2 := 23) i165_20 (by decide) rfl rfl <| ok_iconst (pc' := 24) i165_23 rfl <| ok_goto (pc' := 28) i165_24 rfl <| ok_iretz i165_28 rt165 (by decide) <| kt_v (pc' := 22) rfl <| ?_
  refine ok_iretz i188_22 rt188 (by decide) <| kt_v (pc' := 4) rfl <| ok_kz1 (pc1 := 34) (pc2 := 7) i201_4 (by decide) rfl rfl <| ok_iconst (pc' := 35) i201_34 rfl <| ok_goto (pc' := 39) i201_35 rfl <| ok_iretz i201_39 rt201 (by decide) <| kt_v (pc' := 5) rfl <| ok_kz1 (pc1 := 29) (pc2 := 8) i221_5 (by decide) rfl rfl <| ?_
  refine ok_iconst (pc' := 30) i221_29 rfl <| ok_goto (pc' := 34) i221_30 rfl <| ok_iretz i221_34 rt221 (by decide) <| kt_v (pc' := 6) rfl <| ok_kz1 (pc1 := 23) (pc2 := 9) i220_6 (by decide) rfl rfl <| ok_iconst (pc' := 24) i220_23 rfl <| ok_iretz i220_24 rt220 (by decide) <| kt_v (pc' := 1472) rfl <| ?_
  refine ok_istore (pc' := 1474) (ls' := [aR 1, aR 100, aR 448, aR 464, aR 465, aI i, aI 1, aI 0, w8]) i0_1472 (bt rfl) rfl rfl <| ok_aloadn (pc' := 1475) i0_1474 rfl rfl <| ok_cc i0_1475 rfl (cl_v o0 m13_188 na157 rfl rfl (bt rfl) (bt rfl) rfl (by rw [ShModel_k0 hS448, o157])) ln157 (pd157 (aR 448)) <| ok_aloadn (pc' := 1) i157_0 rfl rfl <| ok_getfi (v := 1) (pc' := 4) i157_1 o157 gi9_63 (ShModel_k0 hS448) rd_eq rfl <| ok_ireti i157_4 rt157 <| kt_v (pc' := 1478) rfl <| ok_iload (pc' := 1480) i0_1478 rfl rfl <| ?_
  refine ok_kc1 (pc1 := 1485) (pc2 := 1483) i0_1480 (by decide) rfl rfl <| ok_iload (pc' := 1487) i0_1485 rfl rfl <| ok_kz1 (pc1 := 1509) (pc2 := 1490) i0_1487 (by decide) rfl rfl <| ok_goto (pc' := 3329) i0_1509 rfl <| ?_
  exact K _ _ _ _ _ _ hD (by omega) (Inv_mono (Inv_same hI (Same.thr (Same.thr Same.rfl))) (by omega))
theorem c24_0 {L n : Nat} {g : AG} {M : AM} {xs : Nat → Int32} {b i : Int} {w6 w7 w8 : AV} {Q : AO → AG → AM → Prop} (hD : HD L n g) (hI : Inv xs b M) (hi : 0 ≤ i ∧ i + 6 ≤ L) (hb : 0 ≤ b ∧ b ≤ 900000) (hl : M 100 6 = 0) (K : KK L n i b xs Q) :
    Ok 10 0 1512 [aR 1, aR 100, aR 448, aR 464, aR 465, aI i, w6, w7, w8] [] g M Q := by
  have hI0 := hI
  obtain ⟨hA, hld, hl01, q, hc, ⟨nx, sz, hH, hsz⟩, hS⟩ := hI0
  have hH0 := hH
  obtain ⟨⟨hn1, hn0⟩, ⟨hz2, hz0⟩, h10, hHj⟩ := hH0
  obtain ⟨hw0, ⟨bu, by_, hb1, hb13, hbu, hZ, hU⟩, he3, he4, he5, hId, tx, hT, hUt, htl, htr⟩ := hA
  obtain ⟨v1, hv1⟩ : ∃ u9 : Int, M 1 (i + 1) = u9 := ⟨_, rfl⟩
  have hr1 : -2147483648 ≤ v1 ∧ v1 < 2147483648 := hv1 ▸ scr_rg hw0 (i + 1)
  obtain ⟨v2, hv2⟩ : ∃ u9 : Int, M 1 (i + 2) = u9 := ⟨_, rfl⟩
  have hr2 : -2147483648 ≤ v2 ∧ v2 < 2147483648 := hv2 ▸ scr_rg hw0 (i + 2)
  have hS1 := HD_s hD
  have hS100 := HD_y hD
  have hS448 := HD_o hD
  have hS464 := HD_u hD
  have hS465 := HD_ud hD
  refine ok_aloadn (pc' := 1513) i0_1512 rfl rfl <| ok_aloadn (pc' := 1514) i0_1513 rfl rfl <| ok_iload (pc' := 1516) i0_1514 rfl rfl <| ok_iconst (pc' := 1517) i0_1516 rfl <| ok_iadd (v := (i + 1)) (pc' := 1518) i0_1517 rfl rfl <| ok_iaload (v := v1) (pc' := 1519) i0_1518 (ShScr_k0 hS1) (by decide) (ShScr_l0 hS1) (by omega) hv1 rfl <| ok_aloadn (pc' := 1520) i0_1519 rfl rfl <| ok_iload (pc' := 1522) i0_1520 rfl rfl <| ?_
  refine ok_iconst (pc' := 1523) i0_1522 rfl <| ok_iadd (v := (i + 2)) (pc' := 1524) i0_1523 rfl rfl <| ok_iaload (v := v2) (pc' := 1525) i0_1524 (ShScr_k0 hS1) (by decide) (ShScr_l0 hS1) (by omega) hv2 rfl <| ok_aloadn (pc' := 1526) i0_1525 rfl rfl <| ok_cc i0_1526 rfl (cl_s o0 m13_264 na298 rfl rfl (bt rfl) (bt rfl) rfl) ln298 (pd298 (aR 100) (aI v1) (aI v2) (aR 464)) <| ok_aloadn (pc' := 1) i298_0 rfl rfl <| ok_iconst (pc' := 2) i298_1 rfl <| ok_aloadn (pc' := 3) i298_2 rfl rfl <| ?_
  refine ok_iloadn (pc' := 4) i298_3 rfl rfl <| ok_iloadn (pc' := 5) i298_4 rfl rfl <| ok_cc i298_5 rfl (cl_v o298 m13_77 na123 rfl rfl (bt rfl) (bt rfl) rfl (by rw [ShYard_k0 hS100, o123])) ln123 (pd123 (aR 100) (aI v1) (aI v2)) <| ok_aloadn (pc' := 1) i123_0 rfl rfl <| ok_cc i123_1 rfl (cl_v o123 m0_132 na99 rfl rfl (bt rfl) (bt rfl) rfl (by rw [ShYard_k0 hS100, o99])) ln99 (pd99 (aR 100)) <| ok_aloadn (pc' := 1) i99_0 rfl rfl <| ok_getfi (v := 0) (pc' := 4) i99_1 o99 gi0_268 (ShYard_k0 hS100) hl rfl <| ok_kz0 (pc1 := 18) (pc2 := 7) i99_4 (by decide) rfl rfl <| ?_
  refine ok_throw th99_7 (bt rfl) <| kt_x hh123 <| kt_h hn298 hf298_5_12 hr298_13 <| kt_v (pc' := 1529) rfl <| ?_
  refine ok_al hD (fun g hD => ?_)
  have hS448 := HD_o hD
  have hS1 := HD_s hD
  have hS464 := HD_u hD
  have hS465 := HD_ud hD
  refine ok_istore (pc' := 1531) (ls' := [aR 1, aR 100, aR 448, aR 464, aR 465, aI i, aI 1, w7, w8]) i0_1529 (bt rfl) rfl rfl <| ok_aloadn (pc' := 1532) i0_1531 rfl rfl <| ok_aloadn (pc' := 1533) i0_1532 rfl rfl <| ok_iload (pc' := 1535) i0_1533 rfl rfl <| ok_iconst (pc' := 1536) i0_1535 rfl <| ok_iadd (v := (i + 1)) (pc' := 1537) i0_1536 rfl rfl <| ok_iaload (v := v1) (pc' := 1538) i0_1537 (ShScr_k0 hS1) (by decide) (ShScr_l0 hS1) (by omega) hv1 rfl <| ok_aloadn (pc' := 1539) i0_1538 rfl rfl <| ?_
  refine ok_iload (pc' := 1541) i0_1539 rfl rfl <| ok_iconst (pc' := 1542) i0_1541 rfl <| ok_iadd (v := (i + 2)) (pc' := 1543) i0_1542 rfl rfl <| ok_iaload (v := v2) (pc' := 1544) i0_1543 (ShScr_k0 hS1) (by decide) (ShScr_l0 hS1) (by omega) hv2 rfl <| ok_cc i0_1544 rfl (cl_v o0 m13_266 na223 rfl rfl (bt rfl) (bt rfl) rfl (by rw [ShModel_k0 hS448, o223])) ln223 (pd223 (aR 448) (aI v1) (aI v2)) <| ok_aloadn (pc' := 1) i223_0 rfl rfl <| ok_iloadn (pc' := 2) i223_1 rfl rfl <| ok_iloadn (pc' := 3) i223_2 rfl rfl <| ?_
  refine ok_cc i223_3 rfl (cl_v o223 m9_271 na221 rfl rfl (bt rfl) (bt rfl) rfl (by rw [ShModel_k0 hS448, o221])) ln221 (pd221 (aR 448) (aI v1) (aI v2)) <| ok_aloadn (pc' := 1) i221_0 rfl rfl <| ok_iloadn (pc' := 2) i221_1 rfl rfl <| ok_cc i221_2 rfl (cl_v o221 m9_223 na201 rfl rfl (bt rfl) (bt rfl) rfl (by rw [ShModel_k0 hS448, o201])) ln201 (pd201 (aR 448) (aI v1)) <| ok_aloadn (pc' := 1) i201_0 rfl rfl <| ok_cc i201_1 rfl (cl_v o201 m9_216 na188 rfl rfl (bt rfl) (bt rfl) rfl (by rw [ShModel_k0 hS448, o188])) ln188 (pd188 (aR 448)) <| ok_aloadn (pc' := 1) i188_0 rfl rfl <| ok_iconst (pc' := 2) i188_1 rfl <| ?_
  refine ok_putfj (kk := 0) (pc' := 5) i188_2 o188 pi188_63 (ShModel_k0 hS448) rfl rfl <| ok_aloadn (pc' := 6) i188_5 rfl rfl <| ok_aloadn (pc' := 7) i188_6 rfl rfl <| ok_getfi (v := 0) (pc' := 10) i188_7 o188 gi9_66 (ShModel_k0 hS448) (rd_ni (by decide) (hld.trans hl)) rfl <| ok_kz0 (pc1 := 17) (pc2 := 13) i188_10 (by decide) rfl rfl <| ok_iconst (pc' := 14) i188_13 rfl <| ok_goto (pc' := 18) i188_14 rfl <| ok_iconst (pc' := 19) i188_18 rfl <| ?_
  refine ok_cc i188_19 rfl (cl_v o188 m9_70 na165 rfl rfl (bt rfl) (bt rfl) rfl (by rw [ShModel_k0 hS448, o165])) ln165 (pd165 (aR 448) (aI 1) (aI 1)) <| ok_aloadn (pc' := 1) i165_0 rfl rfl <| ok_getfi (v := 0) (pc' := 4) i165_1 o165 gi9_63 (ShModel_k0 hS448) rd_eq rfl <| ok_kz0 (pc1 := 16) (pc2 := 7) i165_4 (by decide) rfl rfl <| ok_iloadn (pc' := 8) i165_7 rfl rfl <| ok_kz0 (pc1 := 16) (pc2 := 11) i165_8 (by decide) rfl rfl <| ok_aloadn (pc' := 12) i165_11 rfl rfl <| ok_iloadn (pc' := 13) i165_12 rfl rfl <| ?_
  refine ok_putfj (kk := 0) (pc' := 16) i165_13 o165 pi165_63 (ShModel_k0 hS448) rfl rfl <| ok_aloadn (pc' := 17) i165_16 rfl rfl <| ok_getfi (v := 1) (pc' := 20) i165_17 o165 gi9_63 (ShModel_k0 hS448) rd_eq rfl <| ok_kz0 (pc1 := 27) (pc2 := 23) i165_20 (by decide) rfl rfl <| ok_iconst (pc' := 24) i165_23 rfl <| ok_goto (pc' := 28) i165_24 rfl <| ok_iretz i165_28 rt165 (by decide) <| kt_v (pc' := 22) rfl <| ?_
  refine ok_iretz i188_22 rt188 (by decide) <| kt_v (pc' := 4) rfl <| ok_kz1 (pc1 := 34) (pc2 := 7) i201_4 (by decide) rfl rfl <| ok_iconst (pc' := 35) i201_34 rfl <| ok_goto (pc' := 39) i201_35 rfl <| ok_iretz i201_39 rt201 (by decide) <| kt_v (pc' := 5) rfl <| ok_kz1 (pc1 := 29) (pc2 := 8) i221_5 (by decide) rfl rfl <| ?_
  refine ok_iconst (pc' := 30) i221_29 rfl <| ok_goto (pc' := 34) i221_30 rfl <| ok_iretz i221_34 rt221 (by decide) <| kt_v (pc' := 6) rfl <| ok_kz0 (pc1 := 13) (pc2 := 9) i223_6 (by decide) rfl rfl <| ok_iconst (pc' := 10) i223_9 rfl <| ok_goto (pc' := 19) i223_10 rfl <| ok_ireti i223_19 rt223 <| ?_
  refine kt_v (pc' := 1547) rfl <| ok_istore (pc' := 1549) (ls' := [aR 1, aR 100, aR 448, aR 464, aR 465, aI i, aI 1, aI 0, w8]) i0_1547 (bt rfl) rfl rfl <| ok_aloadn (pc' := 1550) i0_1549 rfl rfl <| ok_cc i0_1550 rfl (cl_v o0 m13_188 na157 rfl rfl (bt rfl) (bt rfl) rfl (by rw [ShModel_k0 hS448, o157])) ln157 (pd157 (aR 448)) <| ok_aloadn (pc' := 1) i157_0 rfl rfl <| ok_getfi (v := 1) (pc' := 4) i157_1 o157 gi9_63 (ShModel_k0 hS448) rd_eq rfl <| ok_ireti i157_4 rt157 <| kt_v (pc' := 1553) rfl <| ?_
  refine ok_iload (pc' := 1555) i0_1553 rfl rfl <| ok_kc1 (pc1 := 1560) (pc2 := 1558) i0_1555 (by decide) rfl rfl <| ok_iload (pc' := 1562) i0_1560 rfl rfl <| ok_kz1 (pc1 := 1577) (pc2 := 1565) i0_1562 (by decide) rfl rfl <| ok_goto (pc' := 3329) i0_1577 rfl <| ?_
  exact K _ _ _ _ _ _ hD (by omega) (Inv_mono (Inv_same hI (Same.thr (Same.thr Same.rfl))) (by omega))
theorem c25_0 {L n : Nat} {g : AG} {M : AM} {xs : Nat → Int32} {b i : Int} {w6 w7 w8 : AV} {Q : AO → AG → AM → Prop} (hD : HD L n g) (hI : Inv xs b M) (hi : 0 ≤ i ∧ i + 6 ≤ L) (hb : 0 ≤ b ∧ b ≤ 900000) (hl : M 100 6 = 0) (K : KK L n i b xs Q) :
    Ok 10 0 1580 [aR 1, aR 100, aR 448, aR 464, aR 465, aI i, w6, w7, w8] [] g M Q := by
  have hI0 := hI
  obtain ⟨hA, hld, hl01, q, hc, ⟨nx, sz, hH, hsz⟩, hS⟩ := hI0
  have hH0 := hH
  obtain ⟨⟨hn1, hn0⟩, ⟨hz2, hz0⟩, h10, hHj⟩ := hH0
  obtain ⟨hw0, ⟨bu, by_, hb1, hb13, hbu, hZ, hU⟩, he3, he4, he5, hId, tx, hT, hUt, htl, htr⟩ := hA
  obtain ⟨v1, hv1⟩ : ∃ u9 : Int, M 1 (i + 1) = u9 := ⟨_, rfl⟩
  have hr1 : -2147483648 ≤ v1 ∧ v1 < 2147483648 := hv1 ▸ scr_rg hw0 (i + 1)
  have hS1 := HD_s hD
  have hS100 := HD_y hD
  have hS448 := HD_o hD
  have hS464 := HD_u hD
  have hS465 := HD_ud hD
  refine ok_aloadn (pc' := 1581) i0_1580 rfl rfl <| ok_aloadn (pc' := 1582) i0_1581 rfl rfl <| ok_iload (pc' := 1584) i0_1582 rfl rfl <| ok_iconst (pc' := 1585) i0_1584 rfl <| ok_iadd (v := (i + 1)) (pc' := 1586) i0_1585 rfl rfl <| ok_iaload (v := v1) (pc' := 1587) i0_1586 (ShScr_k0 hS1) (by decide) (ShScr_l0 hS1) (by omega) hv1 rfl <| ok_aloadn (pc' := 1588) i0_1587 rfl rfl <| ok_cc i0_1588 rfl (cl_s o0 m13_267 na299 rfl rfl (bt rfl) (bt rfl) rfl) ln299 (pd299 (aR 100) (aI v1) (aR 464)) <| ?_
  refine ok_aloadn (pc' := 1) i299_0 rfl rfl <| ok_iconst (pc' := 2) i299_1 rfl <| ok_aloadn (pc' := 3) i299_2 rfl rfl <| ok_iloadn (pc' := 4) i299_3 rfl rfl <| ok_cc i299_4 rfl (cl_v o299 m13_80 na124 rfl rfl (bt rfl) (bt rfl) rfl (by rw [ShYard_k0 hS100, o124])) ln124 (pd124 (aR 100) (aI v1)) <| ok_aloadn (pc' := 1) i124_0 rfl rfl <| ok_cc i124_1 rfl (cl_v o124 m0_132 na99 rfl rfl (bt rfl) (bt rfl) rfl (by rw [ShYard_k0 hS100, o99])) ln99 (pd99 (aR 100)) <| ok_aloadn (pc' := 1) i99_0 rfl rfl <| ?_
  refine ok_getfi (v := 0) (pc' := 4) i99_1 o99 gi0_268 (ShYard_k0 hS100) hl rfl <| ok_kz0 (pc1 := 18) (pc2 := 7) i99_4 (by decide) rfl rfl <| ok_throw th99_7 (bt rfl) <| kt_x hh124 <| kt_h hn299 hf299_4_12 hr299_12 <| kt_v (pc' := 1591) rfl <| ?_
  refine ok_al hD (fun g hD => ?_)
  have hS448 := HD_o hD
  have hS1 := HD_s hD
  have hS464 := HD_u hD
  have hS465 := HD_ud hD
  refine ok_istore (pc' := 1593) (ls' := [aR 1, aR 100, aR 448, aR 464, aR 465, aI i, aI 1, w7, w8]) i0_1591 (bt rfl) rfl rfl <| ok_aloadn (pc' := 1594) i0_1593 rfl rfl <| ok_aloadn (pc' := 1595) i0_1594 rfl rfl <| ok_iload (pc' := 1597) i0_1595 rfl rfl <| ok_iconst (pc' := 1598) i0_1597 rfl <| ok_iadd (v := (i + 1)) (pc' := 1599) i0_1598 rfl rfl <| ok_iaload (v := v1) (pc' := 1600) i0_1599 (ShScr_k0 hS1) (by decide) (ShScr_l0 hS1) (by omega) hv1 rfl <| ok_cc i0_1600 rfl (cl_v o0 m13_269 na224 rfl rfl (bt rfl) (bt rfl) rfl (by rw [ShModel_k0 hS448, o224])) ln224 (pd224 (aR 448) (aI v1)) <| ?_
  refine ok_aloadn (pc' := 1) i224_0 rfl rfl <| ok_iloadn (pc' := 2) i224_1 rfl rfl <| ok_cc i224_2 rfl (cl_v o224 m9_223 na201 rfl rfl (bt rfl) (bt rfl) rfl (by rw [ShModel_k0 hS448, o201])) ln201 (pd201 (aR 448) (aI v1)) <| ok_aloadn (pc' := 1) i201_0 rfl rfl <| ok_cc i201_1 rfl (cl_v o201 m9_216 na188 rfl rfl (bt rfl) (bt rfl) rfl (by rw [ShModel_k0 hS448, o188])) ln188 (pd188 (aR 448)) <| ok_aloadn (pc' := 1) i188_0 rfl rfl <| ok_iconst (pc' := 2) i188_1 rfl <| ok_putfj (kk := 0) (pc' := 5) i188_2 o188 pi188_63 (ShModel_k0 hS448) rfl rfl <| ?_
  refine ok_aloadn (pc' := 6) i188_5 rfl rfl <| ok_aloadn (pc' := 7) i188_6 rfl rfl <| ok_getfi (v := 0) (pc' := 10) i188_7 o188 gi9_66 (ShModel_k0 hS448) (rd_ni (by decide) (hld.trans hl)) rfl <| ok_kz0 (pc1 := 17) (pc2 := 13) i188_10 (by decide) rfl rfl <| ok_iconst (pc' := 14) i188_13 rfl <| ok_goto (pc' := 18) i188_14 rfl <| ok_iconst (pc' := 19) i188_18 rfl <| ok_cc i188_19 rfl (cl_v o188 m9_70 na165 rfl rfl (bt rfl) (bt rfl) rfl (by rw [ShModel_k0 hS448, o165])) ln165 (pd165 (aR 448) (aI 1) (aI 1)) <| ?_
  refine ok_aloadn (pc' := 1) i165_0 rfl rfl <| ok_getfi (v := 0) (pc' := 4) i165_1 o165 gi9_63 (ShModel_k0 hS448) rd_eq rfl <| ok_kz0 (pc1 := 16) (pc2 := 7) i165_4 (by decide) rfl rfl <| ok_iloadn (pc' := 8) i165_7 rfl rfl <| ok_kz0 (pc1 := 16) (pc2 := 11) i165_8 (by decide) rfl rfl <| ok_aloadn (pc' := 12) i165_11 rfl rfl <| ok_iloadn (pc' := 13) i165_12 rfl rfl <| ok_putfj (kk := 0) (pc' := 16) i165_13 o165 pi165_63 (ShModel_k0 hS448) rfl rfl <| ?_
  refine ok_aloadn (pc' := 17) i165_16 rfl rfl <| ok_getfi (v := 1) (pc' := 20) i165_17 o165 gi9_63 (ShModel_k0 hS448) rd_eq rfl <| ok_kz0 (pc1 := 27) (pc2 := 23) i165_20 (by decide) rfl rfl <| ok_iconst (pc' := 24) i165_23 rfl <| ok_goto (pc' := 28) i165_24 rfl <| ok_iretz i165_28 rt165 (by decide) <| kt_v (pc' := 22) rfl <| ok_iretz i188_22 rt188 (by decide) <| ?_
  refine kt_v (pc' := 4) rfl <| ok_kz1 (pc1 := 34) (pc2 := 7) i201_4 (by decide) rfl rfl <| ok_iconst (pc' := 35) i201_34 rfl <| ok_goto (pc' := 39) i201_35 rfl <| ok_iretz i201_39 rt201 (by decide) <| kt_v (pc' := 5) rfl <| ok_kz0 (pc1 := 12) (pc2 := 8) i224_5 (by decide) rfl rfl <| ok_iconst (pc' := 9) i224_8 rfl <| ?_
  refine ok_goto (pc' := 17) i224_9 rfl <| ok_ireti i224_17 rt224 <| kt_v (pc' := 1603) rfl <| ok_istore (pc' := 1605) (ls' := [aR 1, aR 100, aR 448, aR 464, aR 465, aI i, aI 1, aI 0, w8]) i0_1603 (bt rfl) rfl rfl <| ok_aloadn (pc' := 1606) i0_1605 rfl rfl <| ok_cc i0_1606 rfl (cl_v o0 m13_188 na157 rfl rfl (bt rfl) (bt rfl) rfl (by rw [ShModel_k0 hS448, o157])) ln157 (pd157 (aR 448)) <| ok_aloadn (pc' := 1) i157_0 rfl rfl <| ok_getfi (v := 1) (pc' := 4) i157_1 o157 gi9_63 (ShModel_k0 hS448) rd_eq rfl <| ?_
  refine ok_ireti i157_4 rt157 <| kt_v (pc' := 1609) rfl <| ok_iload (pc' := 1611) i0_1609 rfl rfl <| ok_kc1 (pc1 := 1616) (pc2 := 1614) i0_1611 (by decide) rfl rfl <| ok_iload (pc' := 1618) i0_1616 rfl rfl <| ok_kz1 (pc1 := 1633) (pc2 := 1621) i0_1618 (by decide) rfl rfl <| ok_goto (pc' := 3329) i0_1633 rfl <| ?_
  exact K _ _ _ _ _ _ hD (by omega) (Inv_mono (Inv_same hI (Same.thr (Same.thr Same.rfl))) (by omega))
theorem c26_0 {L n : Nat} {g : AG} {M : AM} {xs : Nat → Int32} {b i : Int} {w6 w7 w8 : AV} {Q : AO → AG → AM → Prop} (hD : HD L n g) (hI : Inv xs b M) (hi : 0 ≤ i ∧ i + 6 ≤ L) (hb : 0 ≤ b ∧ b ≤ 900000) (hl : M 100 6 = 0) (K : KK L n i b xs Q) :
    Ok 10 0 1636 [aR 1, aR 100, aR 448, aR 464, aR 465, aI i, w6, w7, w8] [] g M Q := by
  have hI0 := hI
  obtain ⟨hA, hld, hl01, q, hc, ⟨nx, sz, hH, hsz⟩, hS⟩ := hI0
  have hH0 := hH
  obtain ⟨⟨hn1, hn0⟩, ⟨hz2, hz0⟩, h10, hHj⟩ := hH0
  obtain ⟨hw0, ⟨bu, by_, hb1, hb13, hbu, hZ, hU⟩, he3, he4, he5, hId, tx, hT, hUt, htl, htr⟩ := hA
  have hS1 := HD_s hD
  have hS100 := HD_y hD
  have hS448 := HD_o hD
  have hS464 := HD_u hD
  have hS465 := HD_ud hD
  refine ok_aloadn (pc' := 1637) i0_1636 rfl rfl <| ok_aloadn (pc' := 1638) i0_1637 rfl rfl <| ok_cc i0_1638 rfl (cl_s o0 m13_270 na300 rfl rfl (bt rfl) (bt rfl) rfl) ln300 (pd300 (aR 100) (aR 464)) <| ok_aloadn (pc' := 1) i300_0 rfl rfl <| ok_iconst (pc' := 2) i300_1 rfl <| ok_aloadn (pc' := 3) i300_2 rfl rfl <| ok_cc i300_3 rfl (cl_v o300 m13_83 na125 rfl rfl (bt rfl) (bt rfl) rfl (by rw [ShYard_k0 hS100, o125])) ln125 (pd125 (aR 100)) <| ok_aloadn (pc' := 1) i125_0 rfl rfl <| ?_
  refine ok_cc i125_1 rfl (cl_v o125 m0_132 na99 rfl rfl (bt rfl) (bt rfl) rfl (by rw [ShYard_k0 hS100, o99])) ln99 (pd99 (aR 100)) <| ok_aloadn (pc' := 1) i99_0 rfl rfl <| ok_getfi (v := 0) (pc' := 4) i99_1 o99 gi0_268 (ShYard_k0 hS100) hl rfl <| ok_kz0 (pc1 := 18) (pc2 := 7) i99_4 (by decide) rfl rfl <| ok_throw th99_7 (bt rfl) <| kt_x hh125 <| kt_h hn300 hf300_3_12 hr300_11 <| kt_v (pc' := 1641) rfl <| ?_
  refine ok_al hD (fun g hD => ?_)
  have hS448 := HD_o hD
  have hS1 := HD_s hD
  have hS464 := HD_u hD
  have hS465 := HD_ud hD
  refine ok_istore (pc' := 1643) (ls' := [aR 1, aR 100, aR 448, aR 464, aR 465, aI i, aI 1, w7, w8]) i0_1641 (bt rfl) rfl rfl <| ok_aloadn (pc' := 1644) i0_1643 rfl rfl <| ok_cc i0_1644 rfl (cl_v o0 m13_272 na226 rfl rfl (bt rfl) (bt rfl) rfl (by rw [ShModel_k0 hS448, o226])) ln226 (pd226 (aR 448)) <| ok_aloadn (pc' := 1) i226_0 rfl rfl <| ok_cc i226_1 rfl (cl_v o226 m9_216 na188 rfl rfl (bt rfl) (bt rfl) rfl (by rw [ShModel_k0 hS448, o188])) ln188 (pd188 (aR 448)) <| ok_aloadn (pc' := 1) i188_0 rfl rfl <| ok_iconst (pc' := 2) i188_1 rfl <| ok_putfj (kk := 0) (pc' := 5) i188_2 o188 pi188_63 (ShModel_k0 hS448) rfl rfl <| ?_
  refine ok_aloadn (pc' := 6) i188_5 rfl rfl <| ok_aloadn (pc' := 7) i188_6 rfl rfl <| ok_getfi (v := 0) (pc' := 10) i188_7 o188 gi9_66 (ShModel_k0 hS448) (rd_ni (by decide) (hld.trans hl)) rfl <| ok_kz0 (pc1 := 17) (pc2 := 13) i188_10 (by decide) rfl rfl <| ok_iconst (pc' := 14) i188_13 rfl <| ok_goto (pc' := 18) i188_14 rfl <| ok_iconst (pc' := 19) i188_18 rfl <| ok_cc i188_19 rfl (cl_v o188 m9_70 na165 rfl rfl (bt rfl) (bt rfl) rfl (by rw [ShModel_k0 hS448, o165])) ln165 (pd165 (aR 448) (aI 1) (aI 1)) <| ?_
  refine ok_aloadn (pc' := 1) i165_0 rfl rfl <| ok_getfi (v := 0) (pc' := 4) i165_1 o165 gi9_63 (ShModel_k0 hS448) rd_eq rfl <| ok_kz0 (pc1 := 16) (pc2 := 7) i165_4 (by decide) rfl rfl <| ok_iloadn (pc' := 8) i165_7 rfl rfl <| ok_kz0 (pc1 := 16) (pc2 := 11) i165_8 (by decide) rfl rfl <| ok_aloadn (pc' := 12) i165_11 rfl rfl <| ok_iloadn (pc' := 13) i165_12 rfl rfl <| ok_putfj (kk := 0) (pc' := 16) i165_13 o165 pi165_63 (ShModel_k0 hS448) rfl rfl <| ?_
  refine ok_aloadn (pc' := 17) i165_16 rfl rfl <| ok_getfi (v := 1) (pc' := 20) i165_17 o165 gi9_63 (ShModel_k0 hS448) rd_eq rfl <| ok_kz0 (pc1 := 27) (pc2 := 23) i165_20 (by decide) rfl rfl <| ok_iconst (pc' := 24) i165_23 rfl <| ok_goto (pc' := 28) i165_24 rfl <| ok_iretz i165_28 rt165 (by decide) <| kt_v (pc' := 22) rfl <| ok_iretz i188_22 rt188 (by decide) <| ?_
  refine kt_v (pc' := 4) rfl <| ok_kz0 (pc1 := 9) (pc2 := 7) i226_4 (by decide) rfl rfl <| ok_iconst (pc' := 8) i226_7 rfl <| ok_ireti i226_8 rt226 <| kt_v (pc' := 1647) rfl <| ok_istore (pc' := 1649) (ls' := [aR 1, aR 100, aR 448, aR 464, aR 465, aI i, aI 1, aI 0, w8]) i0_1647 (bt rfl) rfl rfl <| ok_aloadn (pc' := 1650) i0_1649 rfl rfl <| ok_cc i0_1650 rfl (cl_v o0 m13_188 na157 rfl rfl (bt rfl) (bt rfl) rfl (by rw [ShModel_k0 hS448, o157])) ln157 (pd157 (aR 448)) <| ?_
  refine ok_aloadn (pc' := 1) i157_0 rfl rfl <| ok_getfi (v := 1) (pc' := 4) i157_1 o157 gi9_63 (ShModel_k0 hS448) rd_eq rfl <| ok_ireti i157_4 rt157 <| kt_v (pc' := 1653) rfl <| ok_iload (pc' := 1655) i0_1653 rfl rfl <| ok_kc1 (pc1 := 1660) (pc2 := 1658) i0_1655 (by decide) rfl rfl <| ok_iload (pc' := 1662) i0_1660 rfl rfl <| ok_kz1 (pc1 := 1677) (pc2 := 1665) i0_1662 (by decide) rfl rfl <| ?_
  refine ok_goto (pc' := 3329) i0_1677 rfl <| ?_
  exact K _ _ _ _ _ _ hD (by omega) (Inv_mono (Inv_same hI (Same.thr (Same.thr Same.rfl))) (by omega))
theorem c27_0 {L n : Nat} {g : AG} {M : AM} {xs : Nat → Int32} {b i : Int} {w6 w7 w8 : AV} {Q : AO → AG → AM → Prop} (hD : HD L n g) (hI : Inv xs b M) (hi : 0 ≤ i ∧ i + 6 ≤ L) (hb : 0 ≤ b ∧ b ≤ 900000) (hl : M 100 6 = 0) (K : KK L n i b xs Q) :
    Ok 10 0 1680 [aR 1, aR 100, aR 448, aR 464, aR 465, aI i, w6, w7, w8] [] g M Q := by
  have hI0 := hI
  obtain ⟨hA, hld, hl01, q, hc, ⟨nx, sz, hH, hsz⟩, hS⟩ := hI0
  have hH0 := hH
  obtain ⟨⟨hn1, hn0⟩, ⟨hz2, hz0⟩, h10, hHj⟩ := hH0
  obtain ⟨hw0, ⟨bu, by_, hb1, hb13, hbu, hZ, hU⟩, he3, he4, he5, hId, tx, hT, hUt, htl, htr⟩ := hA
  obtain ⟨v1, hv1⟩ : ∃ u9 : Int, M 1 (i + 1) = u9 := ⟨_, rfl⟩
  have hr1 : -2147483648 ≤ v1 ∧ v1 < 2147483648 := hv1 ▸ scr_rg hw0 (i + 1)
  have hS1 := HD_s hD
  have hS100 := HD_y hD
  have hS448 := HD_o hD
  have hS464 := HD_u hD
  have hS465 := HD_ud hD
  refine ok_aloadn (pc' := 1681) i0_1680 rfl rfl <| ok_aloadn (pc' := 1682) i0_1681 rfl rfl <| ok_iload (pc' := 1684) i0_1682 rfl rfl <| ok_iconst (pc' := 1685) i0_1684 rfl <| ok_iadd (v := (i + 1)) (pc' := 1686) i0_1685 rfl rfl <| ok_iaload (v := v1) (pc' := 1687) i0_1686 (ShScr_k0 hS1) (by decide) (ShScr_l0 hS1) (by omega) hv1 rfl <| ok_aloadn (pc' := 1688) i0_1687 rfl rfl <| ok_cc i0_1688 rfl (cl_s o0 m13_273 na301 rfl rfl (bt rfl) (bt rfl) rfl) ln301 (pd301 (aR 100) (aI v1) (aR 464)) <| ?_
  refine ok_aloadn (pc' := 1) i301_0 rfl rfl <| ok_iconst (pc' := 2) i301_1 rfl <| ok_aloadn (pc' := 3) i301_2 rfl rfl <| ok_iloadn (pc' := 4) i301_3 rfl rfl <| ok_cc i301_4 rfl (cl_v o301 m13_86 na126 rfl rfl (bt rfl) (bt rfl) rfl (by rw [ShYard_k0 hS100, o126])) ln126 (pd126 (aR 100) (aI v1)) <| ok_aloadn (pc' := 1) i126_0 rfl rfl <| ok_cc i126_1 rfl (cl_v o126 m0_132 na99 rfl rfl (bt rfl) (bt rfl) rfl (by rw [ShYard_k0 hS100, o99])) ln99 (pd99 (aR 100)) <| ok_aloadn (pc' := 1) i99_0 rfl rfl <| ?_
  refine ok_getfi (v := 0) (pc' := 4) i99_1 o99 gi0_268 (ShYard_k0 hS100) hl rfl <| ok_kz0 (pc1 := 18) (pc2 := 7) i99_4 (by decide) rfl rfl <| ok_throw th99_7 (bt rfl) <| kt_x hh126 <| kt_h hn301 hf301_4_12 hr301_12 <| kt_v (pc' := 1691) rfl <| ?_
  refine ok_al hD (fun g hD => ?_)
  have hS448 := HD_o hD
  have hS1 := HD_s hD
  have hS464 := HD_u hD
  have hS465 := HD_ud hD
  refine ok_istore (pc' := 1693) (ls' := [aR 1, aR 100, aR 448, aR 464, aR 465, aI i, aI 1, w7, w8]) i0_1691 (bt rfl) rfl rfl <| ok_aloadn (pc' := 1694) i0_1693 rfl rfl <| ok_aloadn (pc' := 1695) i0_1694 rfl rfl <| ok_iload (pc' := 1697) i0_1695 rfl rfl <| ok_iconst (pc' := 1698) i0_1697 rfl <| ok_iadd (v := (i + 1)) (pc' := 1699) i0_1698 rfl rfl <| ok_iaload (v := v1) (pc' := 1700) i0_1699 (ShScr_k0 hS1) (by decide) (ShScr_l0 hS1) (by omega) hv1 rfl <| ok_cc i0_1700 rfl (cl_v o0 m13_275 na228 rfl rfl (bt rfl) (bt rfl) rfl (by rw [ShModel_k0 hS448, o228])) ln228 (pd228 (aR 448) (aI v1)) <| ?_
  refine ok_aloadn (pc' := 1) i228_0 rfl rfl <| ok_iloadn (pc' := 2) i228_1 rfl rfl <| ok_cc i228_2 rfl (cl_v o228 m9_241 na196 rfl rfl (bt rfl) (bt rfl) rfl (by rw [ShModel_k0 hS448, o196])) ln196 (pd196 (aR 448) (aI v1)) <| ok_aloadn (pc' := 1) i196_0 rfl rfl <| ok_cc i196_1 rfl (cl_v o196 m9_216 na188 rfl rfl (bt rfl) (bt rfl) rfl (by rw [ShModel_k0 hS448, o188])) ln188 (pd188 (aR 448)) <| ok_aloadn (pc' := 1) i188_0 rfl rfl <| ok_iconst (pc' := 2) i188_1 rfl <| ok_putfj (kk := 0) (pc' := 5) i188_2 o188 pi188_63 (ShModel_k0 hS448) rfl rfl <| ?_
  refine ok_aloadn (pc' := 6) i188_5 rfl rfl <| ok_aloadn (pc' := 7) i188_6 rfl rfl <| ok_getfi (v := 0) (pc' := 10) i188_7 o188 gi9_66 (ShModel_k0 hS448) (rd_ni (by decide) (hld.trans hl)) rfl <| ok_kz0 (pc1 := 17) (pc2 := 13) i188_10 (by decide) rfl rfl <| ok_iconst (pc' := 14) i188_13 rfl <| ok_goto (pc' := 18) i188_14 rfl <| ok_iconst (pc' := 19) i188_18 rfl <| ok_cc i188_19 rfl (cl_v o188 m9_70 na165 rfl rfl (bt rfl) (bt rfl) rfl (by rw [ShModel_k0 hS448, o165])) ln165 (pd165 (aR 448) (aI 1) (aI 1)) <| ?_
  refine ok_aloadn (pc' := 1) i165_0 rfl rfl <| ok_getfi (v := 0) (pc' := 4) i165_1 o165 gi9_63 (ShModel_k0 hS448) rd_eq rfl <| ok_kz0 (pc1 := 16) (pc2 := 7) i165_4 (by decide) rfl rfl <| ok_iloadn (pc' := 8) i165_7 rfl rfl <| ok_kz0 (pc1 := 16) (pc2 := 11) i165_8 (by decide) rfl rfl <| ok_aloadn (pc' := 12) i165_11 rfl rfl <| ok_iloadn (pc' := 13) i165_12 rfl rfl <| ok_putfj (kk := 0) (pc' := 16) i165_13 o165 pi165_63 (ShModel_k0 hS448) rfl rfl <| ?_
  refine ok_aloadn (pc' := 17) i165_16 rfl rfl <| ok_getfi (v := 1) (pc' := 20) i165_17 o165 gi9_63 (ShModel_k0 hS448) rd_eq rfl <| ok_kz0 (pc1 := 27) (pc2 := 23) i165_20 (by decide) rfl rfl <| ok_iconst (pc' := 24) i165_23 rfl <| ok_goto (pc' := 28) i165_24 rfl <| ok_iretz i165_28 rt165 (by decide) <| kt_v (pc' := 22) rfl <| ok_iretz i188_22 rt188 (by decide) <| ?_
  refine kt_v (pc' := 4) rfl <| ok_kz1 (pc1 := 28) (pc2 := 7) i196_4 (by decide) rfl rfl <| ok_iconst (pc' := 29) i196_28 rfl <| ok_goto (pc' := 33) i196_29 rfl <| ok_iretz i196_33 rt196 (by decide) <| kt_v (pc' := 5) rfl <| ok_kz0 (pc1 := 10) (pc2 := 8) i228_5 (by decide) rfl rfl <| ok_iconst (pc' := 9) i228_8 rfl <| ?_
  refine ok_ireti i228_9 rt228 <| kt_v (pc' := 1703) rfl <| ok_istore (pc' := 1705) (ls' := [aR 1, aR 100, aR 448, aR 464, aR 465, aI i, aI 1, aI 0, w8]) i0_1703 (bt rfl) rfl rfl <| ok_aloadn (pc' := 1706) i0_1705 rfl rfl <| ok_cc i0_1706 rfl (cl_v o0 m13_188 na157 rfl rfl (bt rfl) (bt rfl) rfl (by rw [ShModel_k0 hS448, o157])) ln157 (pd157 (aR 448)) <| ok_aloadn (pc' := 1) i157_0 rfl rfl <| ok_getfi (v := 1) (pc' := 4) i157_1 o157 gi9_63 (ShModel_k0 hS448) rd_eq rfl <| ok_ireti i157_4 rt157 <| ?_
  refine kt_v (pc' := 1709) rfl <| ok_iload (pc' := 1711) i0_1709 rfl rfl <| ok_kc1 (pc1 := 1716) (pc2 := 1714) i0_1711 (by decide) rfl rfl <| ok_iload (pc' := 1718) i0_1716 rfl rfl <| ok_kz1 (pc1 := 1733) (pc2 := 1721) i0_1718 (by decide) rfl rfl <| ok_goto (pc' := 3329) i0_1733 rfl <| ?_
  exact K _ _ _ _ _ _ hD (by omega) (Inv_mono (Inv_same hI (Same.thr (Same.thr Same.rfl))) (by omega))
theorem c28_0 {L n : Nat} {g : AG} {M : AM} {xs : Nat → Int32} {b i : Int} {w6 w7 w8 : AV} {Q : AO → AG → AM → Prop} (hD : HD L n g) (hI : Inv xs b M) (hi : 0 ≤ i ∧ i + 6 ≤ L) (hb : 0 ≤ b ∧ b ≤ 900000) (hl : M 100 6 = 0) (K : KK L n i b xs Q) :
    Ok 10 0 1736 [aR 1, aR 100, aR 448, aR 464, aR 465, aI i, w6, w7, w8] [] g M Q := by
  have hI0 := hI
  obtain ⟨hA, hld, hl01, q, hc, ⟨nx, sz, hH, hsz⟩, hS⟩ := hI0
  have hH0 := hH
  obtain ⟨⟨hn1, hn0⟩, ⟨hz2, hz0⟩, h10, hHj⟩ := hH0
  obtain ⟨hw0, ⟨bu, by_, hb1, hb13, hbu, hZ, hU⟩, he3, he4, he5, hId, tx, hT, hUt, htl, htr⟩ := hA
  obtain ⟨v1, hv1⟩ : ∃ u9 : Int, M 1 (i + 1) = u9 := ⟨_, rfl⟩
  have hr1 : -2147483648 ≤ v1 ∧ v1 < 2147483648 := hv1 ▸ scr_rg hw0 (i + 1)
  have hS1 := HD_s hD
  have hS100 := HD_y hD
  have hS448 := HD_o hD
  have hS464 := HD_u hD
  have hS465 := HD_ud hD
  refine ok_aloadn (pc' := 1737) i0_1736 rfl rfl <| ok_aloadn (pc' := 1738) i0_1737 rfl rfl <| ok_iload (pc' := 1740) i0_1738 rfl rfl <| ok_iconst (pc' := 1741) i0_1740 rfl <| ok_iadd (v := (i + 1)) (pc' := 1742) i0_1741 rfl rfl <| ok_iaload (v := v1) (pc' := 1743) i0_1742 (ShScr_k0 hS1) (by decide) (ShScr_l0 hS1) (by omega) hv1 rfl <| ok_aloadn (pc' := 1744) i0_1743 rfl rfl <| ok_cc i0_1744 rfl (cl_s o0 m13_276 na302 rfl rfl (bt rfl) (bt rfl) rfl) ln302 (pd302 (aR 100) (aI v1) (aR 464)) <| ?_
  refine ok_aloadn (pc' := 1) i302_0 rfl rfl <| ok_iconst (pc' := 2) i302_1 rfl <| ok_aloadn (pc' := 3) i302_2 rfl rfl <| ok_iloadn (pc' := 4) i302_3 rfl rfl <| ok_cc i302_4 rfl (cl_v o302 m13_89 na127 rfl rfl (bt rfl) (bt rfl) rfl (by rw [ShYard_k0 hS100, o127])) ln127 (pd127 (aR 100) (aI v1)) <| ok_aloadn (pc' := 1) i127_0 rfl rfl <| ok_cc i127_1 rfl (cl_v o127 m0_132 na99 rfl rfl (bt rfl) (bt rfl) rfl (by rw [ShYard_k0 hS100, o99])) ln99 (pd99 (aR 100)) <| ok_aloadn (pc' := 1) i99_0 rfl rfl <| ?_
  refine ok_getfi (v := 0) (pc' := 4) i99_1 o99 gi0_268 (ShYard_k0 hS100) hl rfl <| ok_kz0 (pc1 := 18) (pc2 := 7) i99_4 (by decide) rfl rfl <| ok_throw th99_7 (bt rfl) <| kt_x hh127 <| kt_h hn302 hf302_4_12 hr302_12 <| kt_v (pc' := 1747) rfl <| ?_
  refine ok_al hD (fun g hD => ?_)
  have hS448 := HD_o hD
  have hS1 := HD_s hD
  have hS464 := HD_u hD
  have hS465 := HD_ud hD
  refine ok_istore (pc' := 1749) (ls' := [aR 1, aR 100, aR 448, aR 464, aR 465, aI i, aI 1, w7, w8]) i0_1747 (bt rfl) rfl rfl <| ok_aloadn (pc' := 1750) i0_1749 rfl rfl <| ok_aloadn (pc' := 1751) i0_1750 rfl rfl <| ok_iload (pc' := 1753) i0_1751 rfl rfl <| ok_iconst (pc' := 1754) i0_1753 rfl <| ok_iadd (v := (i + 1)) (pc' := 1755) i0_1754 rfl rfl <| ok_iaload (v := v1) (pc' := 1756) i0_1755 (ShScr_k0 hS1) (by decide) (ShScr_l0 hS1) (by omega) hv1 rfl <| ok_cc i0_1756 rfl (cl_v o0 m13_278 na230 rfl rfl (bt rfl) (bt rfl) rfl (by rw [ShModel_k0 hS448, o230])) ln230 (pd230 (aR 448) (aI v1)) <| ?_
  refine ok_aloadn (pc' := 1) i230_0 rfl rfl <| ok_iloadn (pc' := 2) i230_1 rfl rfl <| ok_cc i230_2 rfl (cl_v o230 m9_241 na196 rfl rfl (bt rfl) (bt rfl) rfl (by rw [ShModel_k0 hS448, o196])) ln196 (pd196 (aR 448) (aI v1)) <| ok_aloadn (pc' := 1) i196_0 rfl rfl <| ok_cc i196_1 rfl (cl_v o196 m9_216 na188 rfl rfl (bt rfl) (bt rfl) rfl (by rw [ShModel_k0 hS448, o188])) ln188 (pd188 (aR 448)) <| ok_aloadn (pc' := 1) i188_0 rfl rfl <| ok_iconst (pc' := 2) i188_1 rfl <| ok_putfj (kk := 0) (pc' := 5) i188_2 o188 pi188_63 (ShModel_k0 hS448) rfl rfl <| ?_
  refine ok_aloadn (pc' := 6) i188_5 rfl rfl <| ok_aloadn (pc' := 7) i188_6 rfl rfl <| ok_getfi (v := 0) (pc' := 10) i188_7 o188 gi9_66 (ShModel_k0 hS448) (rd_ni (by decide) (hld.trans hl)) rfl <| ok_kz0 (pc1 := 17) (pc2 := 13) i188_10 (by decide) rfl rfl <| ok_iconst (pc' := 14) i188_13 rfl <| ok_goto (pc' := 18) i188_14 rfl <| ok_iconst (pc' := 19) i188_18 rfl <| ok_cc i188_19 rfl (cl_v o188 m9_70 na165 rfl rfl (bt rfl) (bt rfl) rfl (by rw [ShModel_k0 hS448, o165])) ln165 (pd165 (aR 448) (aI 1) (aI 1)) <| ?_
  refine ok_aloadn (pc' := 1) i165_0 rfl rfl <| ok_getfi (v := 0) (pc' := 4) i165_1 o165 gi9_63 (ShModel_k0 hS448) rd_eq rfl <| ok_kz0 (pc1 := 16) (pc2 := 7) i165_4 (by decide) rfl rfl <| ok_iloadn (pc' := 8) i165_7 rfl rfl <| ok_kz0 (pc1 := 16) (pc2 := 11) i165_8 (by decide) rfl rfl <| ok_aloadn (pc' := 12) i165_11 rfl rfl <| ok_iloadn (pc' := 13) i165_12 rfl rfl <| ok_putfj (kk := 0) (pc' := 16) i165_13 o165 pi165_63 (ShModel_k0 hS448) rfl rfl <| ?_
  refine ok_aloadn (pc' := 17) i165_16 rfl rfl <| ok_getfi (v := 1) (pc' := 20) i165_17 o165 gi9_63 (ShModel_k0 hS448) rd_eq rfl <| ok_kz0 (pc1 := 27) (pc2 := 23) i165_20 (by decide) rfl rfl <| ok_iconst (pc' := 24) i165_23 rfl <| ok_goto (pc' := 28) i165_24 rfl <| ok_iretz i165_28 rt165 (by decide) <| kt_v (pc' := 22) rfl <| ok_iretz i188_22 rt188 (by decide) <| ?_
  refine kt_v (pc' := 4) rfl <| ok_kz1 (pc1 := 28) (pc2 := 7) i196_4 (by decide) rfl rfl <| ok_iconst (pc' := 29) i196_28 rfl <| ok_goto (pc' := 33) i196_29 rfl <| ok_iretz i196_33 rt196 (by decide) <| kt_v (pc' := 5) rfl <| ok_kz0 (pc1 := 10) (pc2 := 8) i230_5 (by decide) rfl rfl <| ok_iconst (pc' := 9) i230_8 rfl <| ?_
  refine ok_ireti i230_9 rt230 <| kt_v (pc' := 1759) rfl <| ok_istore (pc' := 1761) (ls' := [aR 1, aR 100, aR 448, aR 464, aR 465, aI i, aI 1, aI 0, w8]) i0_1759 (bt rfl) rfl rfl <| ok_aloadn (pc' := 1762) i0_1761 rfl rfl <| ok_cc i0_1762 rfl (cl_v o0 m13_188 na157 rfl rfl (bt rfl) (bt rfl) rfl (by rw [ShModel_k0 hS448, o157])) ln157 (pd157 (aR 448)) <| ok_aloadn (pc' := 1) i157_0 rfl rfl <| ok_getfi (v := 1) (pc' := 4) i157_1 o157 gi9_63 (ShModel_k0 hS448) rd_eq rfl <| ok_ireti i157_4 rt157 <| ?_
  refine kt_v (pc' := 1765) rfl <| ok_iload (pc' := 1767) i0_1765 rfl rfl <| ok_kc1 (pc1 := 1772) (pc2 := 1770) i0_1767 (by decide) rfl rfl <| ok_iload (pc' := 1774) i0_1772 rfl rfl <| ok_kz1 (pc1 := 1789) (pc2 := 1777) i0_1774 (by decide) rfl rfl <| ok_goto (pc' := 3329) i0_1789 rfl <| ?_
  exact K _ _ _ _ _ _ hD (by omega) (Inv_mono (Inv_same hI (Same.thr (Same.thr Same.rfl))) (by omega))
theorem c29_0 {L n : Nat} {g : AG} {M : AM} {xs : Nat → Int32} {b i : Int} {w6 w7 w8 : AV} {Q : AO → AG → AM → Prop} (hD : HD L n g) (hI : Inv xs b M) (hi : 0 ≤ i ∧ i + 6 ≤ L) (hb : 0 ≤ b ∧ b ≤ 900000) (hl : M 100 6 = 0) (K : KK L n i b xs Q) :
    Ok 10 0 1792 [aR 1, aR 100, aR 448, aR 464, aR 465, aI i, w6, w7, w8] [] g M Q := by
  have hI0 := hI
  obtain ⟨hA, hld, hl01, q, hc, ⟨nx, sz, hH, hsz⟩, hS⟩ := hI0
  have hH0 := hH
  obtain ⟨⟨hn1, hn0⟩, ⟨hz2, hz0⟩, h10, hHj⟩ := hH0
  obtain ⟨hw0, ⟨bu, by_, hb1, hb13, hbu, hZ, hU⟩, he3, he4, he5, hId, tx, hT, hUt, htl, htr⟩ := hA
  obtain ⟨v1, hv1⟩ : ∃ u9 : Int, M 1 (i + 1) = u9 := ⟨_, rfl⟩
  have hr1 : -2147483648 ≤ v1 ∧ v1 < 2147483648 := hv1 ▸ scr_rg hw0 (i + 1)
  have hS1 := HD_s hD
  have hS100 := HD_y hD
  have hS448 := HD_o hD
  have hS464 := HD_u hD
  have hS465 := HD_ud hD
  refine ok_aloadn (pc' := 1793) i0_1792 rfl rfl <| ok_aloadn (pc' := 1794) i0_1793 rfl rfl <| ok_iload (pc' := 1796) i0_1794 rfl rfl <| ok_iconst (pc' := 1797) i0_1796 rfl <| ok_iadd (v := (i + 1)) (pc' := 1798) i0_1797 rfl rfl <| ok_iaload (v := v1) (pc' := 1799) i0_1798 (ShScr_k0 hS1) (by decide) (ShScr_l0 hS1) (by omega) hv1 rfl <| ok_aloadn (pc' := 1800) i0_1799 rfl rfl <| ok_cc i0_1800 rfl (cl_s o0 m13_279 na303 rfl rfl (bt rfl) (bt rfl) rfl) ln303 (pd303 (aR 100) (aI v1) (aR 464)) <| ?_
  refine ok_aloadn (pc' := 1) i303_0 rfl rfl <| ok_iconst (pc' := 2) i303_1 rfl <| ok_aloadn (pc' := 3) i303_2 rfl rfl <| ok_iloadn (pc' := 4) i303_3 rfl rfl <| ok_cc i303_4 rfl (cl_v o303 m13_92 na128 rfl rfl (bt rfl) (bt rfl) rfl (by rw [ShYard_k0 hS100, o128])) ln128 (pd128 (aR 100) (aI v1)) <| ok_aloadn (pc' := 1) i128_0 rfl rfl <| ok_cc i128_1 rfl (cl_v o128 m0_132 na99 rfl rfl (bt rfl) (bt rfl) rfl (by rw [ShYard_k0 hS100, o99])) ln99 (pd99 (aR 100)) <| ok_aloadn (pc' := 1) i99_0 rfl rfl <| ?_
  refine ok_getfi (v := 0) (pc' := 4) i99_1 o99 gi0_268 (ShYard_k0 hS100) hl rfl <| ok_kz0 (pc1 := 18) (pc2 := 7) i99_4 (by decide) rfl rfl <| ok_throw th99_7 (bt rfl) <| kt_x hh128 <| kt_h hn303 hf303_4_12 hr303_12 <| kt_v (pc' := 1803) rfl <| ?_
  refine ok_al hD (fun g hD => ?_)
  have hS448 := HD_o hD
  have hS1 := HD_s hD
  have hS464 := HD_u hD
  have hS465 := HD_ud hD
  refine ok_istore (pc' := 1805) (ls' := [aR 1, aR 100, aR 448, aR 464, aR 465, aI i, aI 1, w7, w8]) i0_1803 (bt rfl) rfl rfl <| ok_aloadn (pc' := 1806) i0_1805 rfl rfl <| ok_aloadn (pc' := 1807) i0_1806 rfl rfl <| ok_iload (pc' := 1809) i0_1807 rfl rfl <| ok_iconst (pc' := 1810) i0_1809 rfl <| ok_iadd (v := (i + 1)) (pc' := 1811) i0_1810 rfl rfl <| ok_iaload (v := v1) (pc' := 1812) i0_1811 (ShScr_k0 hS1) (by decide) (ShScr_l0 hS1) (by omega) hv1 rfl <| ok_cc i0_1812 rfl (cl_v o0 m13_281 na231 rfl rfl (bt rfl) (bt rfl) rfl (by rw [ShModel_k0 hS448, o231])) ln231 (pd231 (aR 448) (aI v1)) <| ?_
  refine ok_aloadn (pc' := 1) i231_0 rfl rfl <| ok_iloadn (pc' := 2) i231_1 rfl rfl <| ok_cc i231_2 rfl (cl_v o231 m9_326 na232 rfl rfl (bt rfl) (bt rfl) rfl (by rw [ShModel_k0 hS448, o232])) ln232 (pd232 (aR 448) (aI v1)) <| ok_aloadn (pc' := 1) i232_0 rfl rfl <| ok_cc i232_1 rfl (cl_v o232 m9_216 na188 rfl rfl (bt rfl) (bt rfl) rfl (by rw [ShModel_k0 hS448, o188])) ln188 (pd188 (aR 448)) <| ok_aloadn (pc' := 1) i188_0 rfl rfl <| ok_iconst (pc' := 2) i188_1 rfl <| ok_putfj (kk := 0) (pc' := 5) i188_2 o188 pi188_63 (ShModel_k0 hS448) rfl rfl <| ?_
  refine ok_aloadn (pc' := 6) i188_5 rfl rfl <| ok_aloadn (pc' := 7) i188_6 rfl rfl <| ok_getfi (v := 0) (pc' := 10) i188_7 o188 gi9_66 (ShModel_k0 hS448) (rd_ni (by decide) (hld.trans hl)) rfl <| ok_kz0 (pc1 := 17) (pc2 := 13) i188_10 (by decide) rfl rfl <| ok_iconst (pc' := 14) i188_13 rfl <| ok_goto (pc' := 18) i188_14 rfl <| ok_iconst (pc' := 19) i188_18 rfl <| ok_cc i188_19 rfl (cl_v o188 m9_70 na165 rfl rfl (bt rfl) (bt rfl) rfl (by rw [ShModel_k0 hS448, o165])) ln165 (pd165 (aR 448) (aI 1) (aI 1)) <| ?_
  refine ok_aloadn (pc' := 1) i165_0 rfl rfl <| ok_getfi (v := 0) (pc' := 4) i165_1 o165 gi9_63 (ShModel_k0 hS448) rd_eq rfl <| ok_kz0 (pc1 := 16) (pc2 := 7) i165_4 (by decide) rfl rfl <| ok_iloadn (pc' := 8) i165_7 rfl rfl <| ok_kz0 (pc1 := 16) (pc2 := 11) i165_8 (by decide) rfl rfl <| ok_aloadn (pc' := 12) i165_11 rfl rfl <| ok_iloadn (pc' := 13) i165_12 rfl rfl <| ok_putfj (kk := 0) (pc' := 16) i165_13 o165 pi165_63 (ShModel_k0 hS448) rfl rfl <| ?_
  refine ok_aloadn (pc' := 17) i165_16 rfl rfl <| ok_getfi (v := 1) (pc' := 20) i165_17 o165 gi9_63 (ShModel_k0 hS448) rd_eq rfl <| ok_kz0 (pc1 := 27) (pc2 := 23) i165_20 (by decide) rfl rfl <| ok_iconst (pc' := 24) i165_23 rfl <| ok_goto (pc' := 28) i165_24 rfl <| ok_iretz i165_28 rt165 (by decide) <| kt_v (pc' := 22) rfl <| ok_iretz i188_22 rt188 (by decide) <| ?_
  refine kt_v (pc' := 4) rfl <| ok_kz1 (pc1 := 29) (pc2 := 7) i232_4 (by decide) rfl rfl <| ok_iconst (pc' := 30) i232_29 rfl <| ok_goto (pc' := 34) i232_30 rfl <| ok_iretz i232_34 rt232 (by decide) <| kt_v (pc' := 5) rfl <| ok_kz0 (pc1 := 12) (pc2 := 8) i231_5 (by decide) rfl rfl <| ok_iconst (pc' := 9) i231_8 rfl <| ?_
  refine ok_goto (pc' := 17) i231_9 rfl <| ok_ireti i231_17 rt231 <| kt_v (pc' := 1815) rfl <| ok_istore (pc' := 1817) (ls' := [aR 1, aR 100, aR 448, aR 464, aR 465, aI i, aI 1, aI 0, w8]) i0_1815 (bt rfl) rfl rfl <| ok_aloadn (pc' := 1818) i0_1817 rfl rfl <| ok_cc i0_1818 rfl (cl_v o0 m13_188 na157 rfl rfl (bt rfl) (bt rfl) rfl (by rw [ShModel_k0 hS448, o157])) ln157 (pd157 (aR 448)) <| ok_aloadn (pc' := 1) i157_0 rfl rfl <| ok_getfi (v := 1) (pc' := 4) i157_1 o157 gi9_63 (ShModel_k0 hS448) rd_eq rfl <| ?_
  refine ok_ireti i157_4 rt157 <| kt_v (pc' := 1821) rfl <| ok_iload (pc' := 1823) i0_1821 rfl rfl <| ok_kc1 (pc1 := 1828) (pc2 := 1826) i0_1823 (by decide) rfl rfl <| ok_iload (pc' := 1830) i0_1828 rfl rfl <| ok_kz1 (pc1 := 1845) (pc2 := 1833) i0_1830 (by decide) rfl rfl <| ok_goto (pc' := 3329) i0_1845 rfl <| ?_
  exact K _ _ _ _ _ _ hD (by omega) (Inv_mono (Inv_same hI (Same.thr (Same.thr Same.rfl))) (by omega))
theorem c30_0 {L n : Nat} {g : AG} {M : AM} {xs : Nat → Int32} {b i : Int} {w6 w7 w8 : AV} {Q : AO → AG → AM → Prop} (hD : HD L n g) (hI : Inv xs b M) (hi : 0 ≤ i ∧ i + 6 ≤ L) (hb : 0 ≤ b ∧ b ≤ 900000) (hl : M 100 6 = 0) (K : KK L n i b xs Q) :
    Ok 10 0 1848 [aR 1, aR 100, aR 448, aR 464, aR 465, aI i, w6, w7, w8] [] g M Q := by
  have hI0 := hI
  obtain ⟨hA, hld, hl01, q, hc, ⟨nx, sz, hH, hsz⟩, hS⟩ := hI0
  have hH0 := hH
  obtain ⟨⟨hn1, hn0⟩, ⟨hz2, hz0⟩, h10, hHj⟩ := hH0
  obtain ⟨hw0, ⟨bu, by_, hb1, hb13, hbu, hZ, hU⟩, he3, he4, he5, hId, tx, hT, hUt, htl, htr⟩ := hA
  obtain ⟨v1, hv1⟩ : ∃ u9 : Int, M 1 (i + 1) = u9 := ⟨_, rfl⟩
  have hr1 : -2147483648 ≤ v1 ∧ v1 < 2147483648 := hv1 ▸ scr_rg hw0 (i + 1)
  have hS1 := HD_s hD
  have hS100 := HD_y hD
  have hS448 := HD_o hD
  have hS464 := HD_u hD
  have hS465 := HD_ud hD
  refine ok_aloadn (pc' := 1849) i0_1848 rfl rfl <| ok_aloadn (pc' := 1850) i0_1849 rfl rfl <| ok_iload (pc' := 1852) i0_1850 rfl rfl <| ok_iconst (pc' := 1853) i0_1852 rfl <| ok_iadd (v := (i + 1)) (pc' := 1854) i0_1853 rfl rfl <| ok_iaload (v := v1) (pc' := 1855) i0_1854 (ShScr_k0 hS1) (by decide) (ShScr_l0 hS1) (by omega) hv1 rfl <| ok_aloadn (pc' := 1856) i0_1855 rfl rfl <| ok_cc i0_1856 rfl (cl_s o0 m13_282 na304 rfl rfl (bt rfl) (bt rfl) rfl) ln304 (pd304 (aR 100) (aI v1) (aR 464)) <| ?_
  refine ok_aloadn (pc' := 1) i304_0 rfl rfl <| ok_iconst (pc' := 2) i304_1 rfl <| ok_aloadn (pc' := 3) i304_2 rfl rfl <| ok_iloadn (pc' := 4) i304_3 rfl rfl <| ok_cc i304_4 rfl (cl_v o304 m13_95 na129 rfl rfl (bt rfl) (bt rfl) rfl (by rw [ShYard_k0 hS100, o129])) ln129 (pd129 (aR 100) (aI v1)) <| ok_aloadn (pc' := 1) i129_0 rfl rfl <| ok_cc i129_1 rfl (cl_v o129 m0_132 na99 rfl rfl (bt rfl) (bt rfl) rfl (by rw [ShYard_k0 hS100, o99])) ln99 (pd99 (aR 100)) <| ok_aloadn (pc' := 1) i99_0 rfl rfl <| ?_
  refine ok_getfi (v := 0) (pc' := 4) i99_1 o99 gi0_268 (ShYard_k0 hS100) hl rfl <| ok_kz0 (pc1 := 18) (pc2 := 7) i99_4 (by decide) rfl rfl <| ok_throw th99_7 (bt rfl) <| kt_x hh129 <| kt_h hn304 hf304_4_12 hr304_12 <| kt_v (pc' := 1859) rfl <| ?_
  refine ok_al hD (fun g hD => ?_)
  have hS448 := HD_o hD
  have hS1 := HD_s hD
  have hS464 := HD_u hD
  have hS465 := HD_ud hD
  refine ok_istore (pc' := 1861) (ls' := [aR 1, aR 100, aR 448, aR 464, aR 465, aI i, aI 1, w7, w8]) i0_1859 (bt rfl) rfl rfl <| ok_aloadn (pc' := 1862) i0_1861 rfl rfl <| ok_aloadn (pc' := 1863) i0_1862 rfl rfl <| ok_iload (pc' := 1865) i0_1863 rfl rfl <| ok_iconst (pc' := 1866) i0_1865 rfl <| ok_iadd (v := (i + 1)) (pc' := 1867) i0_1866 rfl rfl <| ok_iaload (v := v1) (pc' := 1868) i0_1867 (ShScr_k0 hS1) (by decide) (ShScr_l0 hS1) (by omega) hv1 rfl <| ok_cc i0_1868 rfl (cl_v o0 m13_284 na243 rfl rfl (bt rfl) (bt rfl) rfl (by rw [ShModel_k0 hS448, o243])) ln243 (pd243 (aR 448) (aI v1)) <| ?_
  refine ok_aloadn (pc' := 1) i243_0 rfl rfl <| ok_iloadn (pc' := 2) i243_1 rfl rfl <| ok_cc i243_2 rfl (cl_v o243 m9_326 na232 rfl rfl (bt rfl) (bt rfl) rfl (by rw [ShModel_k0 hS448, o232])) ln232 (pd232 (aR 448) (aI v1)) <| ok_aloadn (pc' := 1) i232_0 rfl rfl <| ok_cc i232_1 rfl (cl_v o232 m9_216 na188 rfl rfl (bt rfl) (bt rfl) rfl (by rw [ShModel_k0 hS448, o188])) ln188 (pd188 (aR 448)) <| ok_aloadn (pc' := 1) i188_0 rfl rfl <| ok_iconst (pc' := 2) i188_1 rfl <| ok_putfj (kk := 0) (pc' := 5) i188_2 o188 pi188_63 (ShModel_k0 hS448) rfl rfl <| ?_
  refine ok_aloadn (pc' := 6) i188_5 rfl rfl <| ok_aloadn (pc' := 7) i188_6 rfl rfl <| ok_getfi (v := 0) (pc' := 10) i188_7 o188 gi9_66 (ShModel_k0 hS448) (rd_ni (by decide) (hld.trans hl)) rfl <| ok_kz0 (pc1 := 17) (pc2 := 13) i188_10 (by decide) rfl rfl <| ok_iconst (pc' := 14) i188_13 rfl <| ok_goto (pc' := 18) i188_14 rfl <| ok_iconst (pc' := 19) i188_18 rfl <| ok_cc i188_19 rfl (cl_v o188 m9_70 na165 rfl rfl (bt rfl) (bt rfl) rfl (by rw [ShModel_k0 hS448, o165])) ln165 (pd165 (aR 448) (aI 1) (aI 1)) <| ?_
  refine ok_aloadn (pc' := 1) i165_0 rfl rfl <| ok_getfi (v := 0) (pc' := 4) i165_1 o165 gi9_63 (ShModel_k0 hS448) rd_eq rfl <| ok_kz0 (pc1 := 16) (pc2 := 7) i165_4 (by decide) rfl rfl <| ok_iloadn (pc' := 8) i165_7 rfl rfl <| ok_kz0 (pc1 := 16) (pc2 := 11) i165_8 (by decide) rfl rfl <| ok_aloadn (pc' := 12) i165_11 rfl rfl <| ok_iloadn (pc' := 13) i165_12 rfl rfl <| ok_putfj (kk := 0) (pc' := 16) i165_13 o165 pi165_63 (ShModel_k0 hS448) rfl rfl <| ?_
  refine ok_aloadn (pc' := 17) i165_16 rfl rfl <| ok_getfi (v := 1) (pc' := 20) i165_17 o165 gi9_63 (ShModel_k0 hS448) rd_eq rfl <| ok_kz0 (pc1 := 27) (pc2 := 23) i165_20 (by decide) rfl rfl <| ok_iconst (pc' := 24) i165_23 rfl <| ok_goto (pc' := 28) i165_24 rfl <| ok_iretz i165_28 rt165 (by decide) <| kt_v (pc' := 22) rfl <| ok_iretz i188_22 rt188 (by decide) <| ?_
  refine kt_v (pc' := 4) rfl <| ok_kz1 (pc1 := 29) (pc2 := 7) i232_4 (by decide) rfl rfl <| ok_iconst (pc' := 30) i232_29 rfl <| ok_goto (pc' := 34) i232_30 rfl <| ok_iretz i232_34 rt232 (by decide) <| kt_v (pc' := 5) rfl <| ok_kz0 (pc1 := 12) (pc2 := 8) i243_5 (by decide) rfl rfl <| ok_iconst (pc' := 9) i243_8 rfl <| ?_
  refine ok_goto (pc' := 17) i243_9 rfl <| ok_ireti i243_17 rt243 <| kt_v (pc' := 1871) rfl <| ok_istore (pc' := 1873) (ls' := [aR 1, aR 100, aR 448, aR 464, aR 465, aI i, aI 1, aI 0, w8]) i0_1871 (bt rfl) rfl rfl <| ok_aloadn (pc' := 1874) i0_1873 rfl rfl <| ok_cc i0_1874 rfl (cl_v o0 m13_188 na157 rfl rfl (bt rfl) (bt rfl) rfl (by rw [ShModel_k0 hS448, o157])) ln157 (pd157 (aR 448)) <| ok_aloadn (pc' := 1) i157_0 rfl rfl <| ok_getfi (v := 1) (pc' := 4) i157_1 o157 gi9_63 (ShModel_k0 hS448) rd_eq rfl <| ?_
  refine ok_ireti i157_4 rt157 <| kt_v (pc' := 1877) rfl <| ok_iload (pc' := 1879) i0_1877 rfl rfl <| ok_kc1 (pc1 := 1884) (pc2 := 1882) i0_1879 (by decide) rfl rfl <| ok_iload (pc' := 1886) i0_1884 rfl rfl <| ok_kz1 (pc1 := 1901) (pc2 := 1889) i0_1886 (by decide) rfl rfl <| ok_goto (pc' := 3329) i0_1901 rfl <| ?_
  exact K _ _ _ _ _ _ hD (by omega) (Inv_mono (Inv_same hI (Same.thr (Same.thr Same.rfl))) (by omega))
theorem c31_0 {L n : Nat} {g : AG} {M : AM} {xs : Nat → Int32} {b i : Int} {w6 w7 w8 : AV} {Q : AO → AG → AM → Prop} (hD : HD L n g) (hI : Inv xs b M) (hi : 0 ≤ i ∧ i + 6 ≤ L) (hb : 0 ≤ b ∧ b ≤ 900000) (hl : M 100 6 = 0) (K : KK L n i b xs Q) :
    Ok 10 0 1904 [aR 1, aR 100, aR 448, aR 464, aR 465, aI i, w6, w7, w8] [] g M Q := by
  have hI0 := hI
  obtain ⟨hA, hld, hl01, q, hc, ⟨nx, sz, hH, hsz⟩, hS⟩ := hI0
  have hH0 := hH
  obtain ⟨⟨hn1, hn0⟩, ⟨hz2, hz0⟩, h10, hHj⟩ := hH0
  obtain ⟨hw0, ⟨bu, by_, hb1, hb13, hbu, hZ, hU⟩, he3, he4, he5, hId, tx, hT, hUt, htl, htr⟩ := hA
  obtain ⟨v1, hv1⟩ : ∃ u9 : Int, M 1 (i + 1) = u9 := ⟨_, rfl⟩
  have hr1 : -2147483648 ≤ v1 ∧ v1 < 2147483648 := hv1 ▸ scr_rg hw0 (i + 1)
  obtain ⟨v2, hv2⟩ : ∃ u9 : Int, M 1 (i + 2) = u9 := ⟨_, rfl⟩
  have hr2 : -2147483648 ≤ v2 ∧ v2 < 2147483648 := hv2 ▸ scr_rg hw0 (i + 2)
  have hS1 := HD_s hD
  have hS100 := HD_y hD
  have hS448 := HD_o hD
  have hS464 := HD_u hD
  have hS465 := HD_ud hD
  refine ok_aloadn (pc' := 1905) i0_1904 rfl rfl <| ok_aloadn (pc' := 1906) i0_1905 rfl rfl <| ok_iload (pc' := 1908) i0_1906 rfl rfl <| ok_iconst (pc' := 1909) i0_1908 rfl <| ok_iadd (v := (i + 1)) (pc' := 1910) i0_1909 rfl rfl <| ok_iaload (v := v1) (pc' := 1911) i0_1910 (ShScr_k0 hS1) (by decide) (ShScr_l0 hS1) (by omega) hv1 rfl <| ok_aloadn (pc' := 1912) i0_1911 rfl rfl <| ok_iload (pc' := 1914) i0_1912 rfl rfl <| ?_
  refine ok_iconst (pc' := 1915) i0_1914 rfl <| ok_iadd (v := (i + 2)) (pc' := 1916) i0_1915 rfl rfl <| ok_iaload (v := v2) (pc' := 1917) i0_1916 (ShScr_k0 hS1) (by decide) (ShScr_l0 hS1) (by omega) hv2 rfl <| ok_aloadn (pc' := 1918) i0_1917 rfl rfl <| ok_cc i0_1918 rfl (cl_s o0 m13_285 na305 rfl rfl (bt rfl) (bt rfl) rfl) ln305 (pd305 (aR 100) (aI v1) (aI v2) (aR 464)) <| ok_aloadn (pc' := 1) i305_0 rfl rfl <| ok_iconst (pc' := 2) i305_1 rfl <| ok_aloadn (pc' := 3) i305_2 rfl rfl <| ?_
  refine ok_iloadn (pc' := 4) i305_3 rfl rfl <| ok_iloadn (pc' := 5) i305_4 rfl rfl <| ok_cc i305_5 rfl (cl_v o305 m13_98 na130 rfl rfl (bt rfl) (bt rfl) rfl (by rw [ShYard_k0 hS100, o130])) ln130 (pd130 (aR 100) (aI v1) (aI v2)) <| ok_aloadn (pc' := 1) i130_0 rfl rfl <| ok_cc i130_1 rfl (cl_v o130 m0_132 na99 rfl rfl (bt rfl) (bt rfl) rfl (by rw [ShYard_k0 hS100, o99])) ln99 (pd99 (aR 100)) <| ok_aloadn (pc' := 1) i99_0 rfl rfl <| ok_getfi (v := 0) (pc' := 4) i99_1 o99 gi0_268 (ShYard_k0 hS100) hl rfl <| ok_kz0 (pc1 := 18) (pc2 := 7) i99_4 (by decide) rfl rfl <| ?_
  refine ok_throw th99_7 (bt rfl) <| kt_x hh130 <| kt_h hn305 hf305_5_12 hr305_13 <| kt_v (pc' := 1921) rfl <| ?_
  refine ok_al hD (fun g hD => ?_)
  have hS448 := HD_o hD
  have hS1 := HD_s hD
  have hS464 := HD_u hD
  have hS465 := HD_ud hD
  refine ok_istore (pc' := 1923) (ls' := [aR 1, aR 100, aR 448, aR 464, aR 465, aI i, aI 1, w7, w8]) i0_1921 (bt rfl) rfl rfl <| ok_aloadn (pc' := 1924) i0_1923 rfl rfl <| ok_aloadn (pc' := 1925) i0_1924 rfl rfl <| ok_iload (pc' := 1927) i0_1925 rfl rfl <| ok_iconst (pc' := 1928) i0_1927 rfl <| ok_iadd (v := (i + 1)) (pc' := 1929) i0_1928 rfl rfl <| ok_iaload (v := v1) (pc' := 1930) i0_1929 (ShScr_k0 hS1) (by decide) (ShScr_l0 hS1) (by omega) hv1 rfl <| ok_aloadn (pc' := 1931) i0_1930 rfl rfl <| ?_
  refine ok_iload (pc' := 1933) i0_1931 rfl rfl <| ok_iconst (pc' := 1934) i0_1933 rfl <| ok_iadd (v := (i + 2)) (pc' := 1935) i0_1934 rfl rfl <| ok_iaload (v := v2) (pc' := 1936) i0_1935 (ShScr_k0 hS1) (by decide) (ShScr_l0 hS1) (by omega) hv2 rfl <| ok_cc i0_1936 rfl (cl_v o0 m13_287 na247 rfl rfl (bt rfl) (bt rfl) rfl (by rw [ShModel_k0 hS448, o247])) ln247 (pd247 (aR 448) (aI v1) (aI v2)) <| ok_aloadn (pc' := 1) i247_0 rfl rfl <| ok_iloadn (pc' := 2) i247_1 rfl rfl <| ok_cc i247_2 rfl (cl_v o247 m9_244 na199 rfl rfl (bt rfl) (bt rfl) rfl (by rw [ShModel_k0 hS448, o199])) ln199 (pd199 (aR 448) (aI v2)) <| ?_
  refine ok_aloadn (pc' := 1) i199_0 rfl rfl <| ok_cc i199_1 rfl (cl_v o199 m9_216 na188 rfl rfl (bt rfl) (bt rfl) rfl (by rw [ShModel_k0 hS448, o188])) ln188 (pd188 (aR 448)) <| ok_aloadn (pc' := 1) i188_0 rfl rfl <| ok_iconst (pc' := 2) i188_1 rfl <| ok_putfj (kk := 0) (pc' := 5) i188_2 o188 pi188_63 (ShModel_k0 hS448) rfl rfl <| ok_aloadn (pc' := 6) i188_5 rfl rfl <| ok_aloadn (pc' := 7) i188_6 rfl rfl <| ok_getfi (v := 0) (pc' := 10) i188_7 o188 gi9_66 (ShModel_k0 hS448) (rd_ni (by decide) (hld.trans hl)) rfl <| ?_
  refine ok_kz0 (pc1 := 17) (pc2 := 13) i188_10 (by decide) rfl rfl <| ok_iconst (pc' := 14) i188_13 rfl <| ok_goto (pc' := 18) i188_14 rfl <| ok_iconst (pc' := 19) i188_18 rfl <| ok_cc i188_19 rfl (cl_v o188 m9_70 na165 rfl rfl (bt rfl) (bt rfl) rfl (by rw [ShModel_k0 hS448, o165])) ln165 (pd165 (aR 448) (aI 1) (aI 1)) <| ok_aloadn (pc' := 1) i165_0 rfl rfl <| ok_getfi (v := 0) (pc' := 4) i165_1 o165 gi9_63 (ShModel_k0 hS448) rd_eq rfl <| ok_kz0 (pc1 := 16) (pc2 := 7) i165_4 (by decide) rfl rfl <| ?_
  refine ok_iloadn (pc' := 8) i165_7 rfl rfl <| ok_kz0 (pc1 := 16) (pc2 := 11) i165_8 (by decide) rfl rfl <| ok_aloadn (pc' := 12) i165_11 rfl rfl <| ok_iloadn (pc' := 13) i165_12 rfl rfl <| ok_putfj (kk := 0) (pc' := 16) i165_13 o165 pi165_63 (ShModel_k0 hS448) rfl rfl <| ok_aloadn (pc' := 17) i165_16 rfl rfl <| ok_getfi (v := 1) (pc' := 20) i165_17 o165 gi9_63 (ShModel_k0 hS448) rd_eq rfl <| ok_kz0 (pc1 := 27) (pc2 := 23) i165_20 (by decide) rfl rfl <| ?_
  refine ok_iconst (pc' := 24) i165_23 rfl <| ok_goto (pc' := 28) i165_24 rfl <| ok_iretz i165_28 rt165 (by decide) <| kt_v (pc' := 22) rfl <| ok_iretz i188_22 rt188 (by decide) <| kt_v (pc' := 4) rfl <| ok_kz1 (pc1 := 36) (pc2 := 7) i199_4 (by decide) rfl rfl <| ok_iconst (pc' := 37) i199_36 rfl <| ?_
  refine ok_goto (pc' := 41) i199_37 rfl <| ok_iretz i199_41 rt199 (by decide) <| kt_v (pc' := 5) rfl <| ok_kz1 (pc1 := 30) (pc2 := 8) i247_5 (by decide) rfl rfl <| ok_iconst (pc' := 31) i247_30 rfl <| ok_ireti i247_31 rt247 <| kt_v (pc' := 1939) rfl <| ok_istore (pc' := 1941) (ls' := [aR 1, aR 100, aR 448, aR 464, aR 465, aI i, aI 1, aI 0, w8]) i0_1939 (bt rfl) rfl rfl <| ?_
  refine ok_aloadn (pc' := 1942) i0_1941 rfl rfl <| ok_cc i0_1942 rfl (cl_v o0 m13_188 na157 rfl rfl (bt rfl) (bt rfl) rfl (by rw [ShModel_k0 hS448, o157])) ln157 (pd157 (aR 448)) <| ok_aloadn (pc' := 1) i157_0 rfl rfl <| ok_getfi (v := 1) (pc' := 4) i157_1 o157 gi9_63 (ShModel_k0 hS448) rd_eq rfl <| ok_ireti i157_4 rt157 <| kt_v (pc' := 1945) rfl <| ok_iload (pc' := 1947) i0_1945 rfl rfl <| ok_kc1 (pc1 := 1952) (pc2 := 1950) i0_1947 (by decide) rfl rfl <| ?_
  refine ok_iload (pc' := 1954) i0_1952 rfl rfl <| ok_kz1 (pc1 := 1969) (pc2 := 1957) i0_1954 (by decide) rfl rfl <| ok_goto (pc' := 3329) i0_1969 rfl <| ?_
  exact K _ _ _ _ _ _ hD (by omega) (Inv_mono (Inv_same hI (Same.thr (Same.thr Same.rfl))) (by omega))
theorem c32_0 {L n : Nat} {g : AG} {M : AM} {xs : Nat → Int32} {b i : Int} {w6 w7 w8 : AV} {Q : AO → AG → AM → Prop} (hD : HD L n g) (hI : Inv xs b M) (hi : 0 ≤ i ∧ i + 6 ≤ L) (hb : 0 ≤ b ∧ b ≤ 900000) (hl : M 100 6 = 0) (K : KK L n i b xs Q) :
    Ok 10 0 1972 [aR 1, aR 100, aR 448, aR 464, aR 465, aI i, w6, w7, w8] [] g M Q := by
  have hI0 := hI
  obtain ⟨hA, hld, hl01, q, hc, ⟨nx, sz, hH, hsz⟩, hS⟩ := hI0
  have hH0 := hH
  obtain ⟨⟨hn1, hn0⟩, ⟨hz2, hz0⟩, h10, hHj⟩ := hH0
  obtain ⟨hw0, ⟨bu, by_, hb1, hb13, hbu, hZ, hU⟩, he3, he4, he5, hId, tx, hT, hUt, htl, htr⟩ := hA
  have hS1 := HD_s hD
  have hS100 := HD_y hD
  have hS448 := HD_o hD
  have hS464 := HD_u hD
  have hS465 := HD_ud hD
  refine ok_aloadn (pc' := 1973) i0_1972 rfl rfl <| ok_aloadn (pc' := 1974) i0_1973 rfl rfl <| ok_cc i0_1974 rfl (cl_s o0 m13_288 na306 rfl rfl (bt rfl) (bt rfl) rfl) ln306 (pd306 (aR 100) (aR 464)) <| ok_aloadn (pc' := 1) i306_0 rfl rfl <| ok_iconst (pc' := 2) i306_1 rfl <| ok_aloadn (pc' := 3) i306_2 rfl rfl <| ok_cc i306_3 rfl (cl_v o306 m13_101 na131 rfl rfl (bt rfl) (bt rfl) rfl (by rw [ShYard_k0 hS100, o131])) ln131 (pd131 (aR 100)) <| ok_aloadn (pc' := 1) i131_0 rfl rfl <| ?_
  refine ok_cc i131_1 rfl (cl_v o131 m0_132 na99 rfl rfl (bt rfl) (bt rfl) rfl (by rw [ShYard_k0 hS100, o99])) ln99 (pd99 (aR 100)) <| ok_aloadn (pc' := 1) i99_0 rfl rfl <| ok_getfi (v := 0) (pc' := 4) i99_1 o99 gi0_268 (ShYard_k0 hS100) hl rfl <| ok_kz0 (pc1 := 18) (pc2 := 7) i99_4 (by decide) rfl rfl <| ok_throw th99_7 (bt rfl) <| kt_x hh131 <| kt_h hn306 hf306_3_12 hr306_11 <| kt_v (pc' := 1977) rfl <| ?_
  refine ok_al hD (fun g hD => ?_)
  have hS448 := HD_o hD
  have hS1 := HD_s hD
  have hS464 := HD_u hD
  have hS465 := HD_ud hD
  refine ok_istore (pc' := 1979) (ls' := [aR 1, aR 100, aR 448, aR 464, aR 465, aI i, aI 1, w7, w8]) i0_1977 (bt rfl) rfl rfl <| ok_aloadn (pc' := 1980) i0_1979 rfl rfl <| ok_cc i0_1980 rfl (cl_v o0 m13_290 na248 rfl rfl (bt rfl) (bt rfl) rfl (by rw [ShModel_k0 hS448, o248])) ln248 (pd248 (aR 448)) <| ok_aloadn (pc' := 1) i248_0 rfl rfl <| ok_cc i248_1 rfl (cl_v o248 m9_216 na188 rfl rfl (bt rfl) (bt rfl) rfl (by rw [ShModel_k0 hS448, o188])) ln188 (pd188 (aR 448)) <| ok_aloadn (pc' := 1) i188_0 rfl rfl <| ok_iconst (pc' := 2) i188_1 rfl <| ok_putfj (kk := 0) (pc' := 5) i188_2 o188 pi188_63 (ShModel_k0 hS448) rfl rfl <| ?_
  refine ok_aloadn (pc' := 6) i188_5 rfl rfl <| ok_aloadn (pc' := 7) i188_6 rfl rfl <| ok_getfi (v := 0) (pc' := 10) i188_7 o188 gi9_66 (ShModel_k0 hS448) (rd_ni (by decide) (hld.trans hl)) rfl <| ok_kz0 (pc1 := 17) (pc2 := 13) i188_10 (by decide) rfl rfl <| ok_iconst (pc' := 14) i188_13 rfl <| ok_goto (pc' := 18) i188_14 rfl <| ok_iconst (pc' := 19) i188_18 rfl <| ok_cc i188_19 rfl (cl_v o188 m9_70 na165 rfl rfl (bt rfl) (bt rfl) rfl (by rw [ShModel_k0 hS448, o165])) ln165 (pd165 (aR 448) (aI 1) (aI 1)) <| ?_
  refine ok_aloadn (pc' := 1) i165_0 rfl rfl <| ok_getfi (v := 0) (pc' := 4) i165_1 o165 gi9_63 (ShModel_k0 hS448) rd_eq rfl <| ok_kz0 (pc1 := 16) (pc2 := 7) i165_4 (by decide) rfl rfl <| ok_iloadn (pc' := 8) i165_7 rfl rfl <| ok_kz0 (pc1 := 16) (pc2 := 11) i165_8 (by decide) rfl rfl <| ok_aloadn (pc' := 12) i165_11 rfl rfl <| ok_iloadn (pc' := 13) i165_12 rfl rfl <| ok_putfj (kk := 0) (pc' := 16) i165_13 o165 pi165_63 (ShModel_k0 hS448) rfl rfl <| ?_
  refine ok_aloadn (pc' := 17) i165_16 rfl rfl <| ok_getfi (v := 1) (pc' := 20) i165_17 o165 gi9_63 (ShModel_k0 hS448) rd_eq rfl <| ok_kz0 (pc1 := 27) (pc2 := 23) i165_20 (by decide) rfl rfl <| ok_iconst (pc' := 24) i165_23 rfl <| ok_goto (pc' := 28) i165_24 rfl <| ok_iretz i165_28 rt165 (by decide) <| kt_v (pc' := 22) rfl <| ok_iretz i188_22 rt188 (by decide) <| ?_
  refine kt_v (pc' := 4) rfl <| ok_kz0 (pc1 := 9) (pc2 := 7) i248_4 (by decide) rfl rfl <| ok_iconst (pc' := 8) i248_7 rfl <| ok_ireti i248_8 rt248 <| kt_v (pc' := 1983) rfl <| ok_istore (pc' := 1985) (ls' := [aR 1, aR 100, aR 448, aR 464, aR 465, aI i, aI 1, aI 0, w8]) i0_1983 (bt rfl) rfl rfl <| ok_aloadn (pc' := 1986) i0_1985 rfl rfl <| ok_cc i0_1986 rfl (cl_v o0 m13_188 na157 rfl rfl (bt rfl) (bt rfl) rfl (by rw [ShModel_k0 hS448, o157])) ln157 (pd157 (aR 448)) <| ?_
  refine ok_aloadn (pc' := 1) i157_0 rfl rfl <| ok_getfi (v := 1) (pc' := 4) i157_1 o157 gi9_63 (ShModel_k0 hS448) rd_eq rfl <| ok_ireti i157_4 rt157 <| kt_v (pc' := 1989) rfl <| ok_iload (pc' := 1991) i0_1989 rfl rfl <| ok_kc1 (pc1 := 1996) (pc2 := 1994) i0_1991 (by decide) rfl rfl <| ok_iload (pc' := 1998) i0_1996 rfl rfl <| ok_kz1 (pc1 := 2013) (pc2 := 2001) i0_1998 (by decide) rfl rfl <| ?_
  refine ok_goto (pc' := 3329) i0_2013 rfl <| ?_
  exact K _ _ _ _ _ _ hD (by omega) (Inv_mono (Inv_same hI (Same.thr (Same.thr Same.rfl))) (by omega))
theorem c33_0 {L n : Nat} {g : AG} {M : AM} {xs : Nat → Int32} {b i : Int} {w6 w7 w8 : AV} {Q : AO → AG → AM → Prop} (hD : HD L n g) (hI : Inv xs b M) (hi : 0 ≤ i ∧ i + 6 ≤ L) (hb : 0 ≤ b ∧ b ≤ 900000) (hl : M 100 6 = 0) (K : KK L n i b xs Q) :
    Ok 10 0 2016 [aR 1, aR 100, aR 448, aR 464, aR 465, aI i, w6, w7, w8] [] g M Q := by
  have hI0 := hI
  obtain ⟨hA, hld, hl01, q, hc, ⟨nx, sz, hH, hsz⟩, hS⟩ := hI0
  have hH0 := hH
  obtain ⟨⟨hn1, hn0⟩, ⟨hz2, hz0⟩, h10, hHj⟩ := hH0
  obtain ⟨hw0, ⟨bu, by_, hb1, hb13, hbu, hZ, hU⟩, he3, he4, he5, hId, tx, hT, hUt, htl, htr⟩ := hA
  obtain ⟨v1, hv1⟩ : ∃ u9 : Int, M 1 (i + 1) = u9 := ⟨_, rfl⟩
  have hr1 : -2147483648 ≤ v1 ∧ v1 < 2147483648 := hv1 ▸ scr_rg hw0 (i + 1)
  have hS1 := HD_s hD
  have hS100 := HD_y hD
  have hS448 := HD_o hD
  have hS464 := HD_u hD
  have hS465 := HD_ud hD
  refine ok_aloadn (pc' := 2017) i0_2016 rfl rfl <| ok_aloadn (pc' := 2018) i0_2017 rfl rfl <| ok_iload (pc' := 2020) i0_2018 rfl rfl <| ok_iconst (pc' := 2021) i0_2020 rfl <| ok_iadd (v := (i + 1)) (pc' := 2022) i0_2021 rfl rfl <| ok_iaload (v := v1) (pc' := 2023) i0_2022 (ShScr_k0 hS1) (by decide) (ShScr_l0 hS1) (by omega) hv1 rfl <| ok_aloadn (pc' := 2024) i0_2023 rfl rfl <| ok_cc i0_2024 rfl (cl_s o0 m13_291 na307 rfl rfl (bt rfl) (bt rfl) rfl) ln307 (pd307 (aR 100) (aI v1) (aR 464)) <| ?_
  refine ok_aloadn (pc' := 1) i307_0 rfl rfl <| ok_iconst (pc' := 2) i307_1 rfl <| ok_aloadn (pc' := 3) i307_2 rfl rfl <| ok_iloadn (pc' := 4) i307_3 rfl rfl <| ok_cc i307_4 rfl (cl_v o307 m13_104 na132 rfl rfl (bt rfl) (bt rfl) rfl (by rw [ShYard_k0 hS100, o132])) ln132 (pd132 (aR 100) (aI v1)) <| ok_aloadn (pc' := 1) i132_0 rfl rfl <| ok_cc i132_1 rfl (cl_v o132 m0_132 na99 rfl rfl (bt rfl) (bt rfl) rfl (by rw [ShYard_k0 hS100, o99])) ln99 (pd99 (aR 100)) <| ok_aloadn (pc' := 1) i99_0 rfl rfl <| ?_
  refine ok_getfi (v := 0) (pc' := 4) i99_1 o99 gi0_268 (ShYard_k0 hS100) hl rfl <| ok_kz0 (pc1 := 18) (pc2 := 7) i99_4 (by decide) rfl rfl <| ok_throw th99_7 (bt rfl) <| kt_x hh132 <| kt_h hn307 hf307_4_12 hr307_12 <| kt_v (pc' := 2027) rfl <| ?_
  refine ok_al hD (fun g hD => ?_)
  have hS448 := HD_o hD
  have hS1 := HD_s hD
  have hS464 := HD_u hD
  have hS465 := HD_ud hD
  refine ok_istore (pc' := 2029) (ls' := [aR 1, aR 100, aR 448, aR 464, aR 465, aI i, aI 1, w7, w8]) i0_2027 (bt rfl) rfl rfl <| ok_aloadn (pc' := 2030) i0_2029 rfl rfl <| ok_aloadn (pc' := 2031) i0_2030 rfl rfl <| ok_iload (pc' := 2033) i0_2031 rfl rfl <| ok_iconst (pc' := 2034) i0_2033 rfl <| ok_iadd (v := (i + 1)) (pc' := 2035) i0_2034 rfl rfl <| ok_iaload (v := v1) (pc' := 2036) i0_2035 (ShScr_k0 hS1) (by decide) (ShScr_l0 hS1) (by omega) hv1 rfl <| ok_cc i0_2036 rfl (cl_v o0 m13_293 na249 rfl rfl (bt rfl) (bt rfl) rfl (by rw [ShModel_k0 hS448, o249])) ln249 (pd249 (aR 448) (aI v1)) <| ?_
  refine ok_aloadn (pc' := 1) i249_0 rfl rfl <| ok_iloadn (pc' := 2) i249_1 rfl rfl <| ok_cc i249_2 rfl (cl_v o249 m9_238 na194 rfl rfl (bt rfl) (bt rfl) rfl (by rw [ShModel_k0 hS448, o194])) ln194 (pd194 (aR 448) (aI v1)) <| ok_aloadn (pc' := 1) i194_0 rfl rfl <| ok_cc i194_1 rfl (cl_v o194 m9_216 na188 rfl rfl (bt rfl) (bt rfl) rfl (by rw [ShModel_k0 hS448, o188])) ln188 (pd188 (aR 448)) <| ok_aloadn (pc' := 1) i188_0 rfl rfl <| ok_iconst (pc' := 2) i188_1 rfl <| ok_putfj (kk := 0) (pc' := 5) i188_2 o188 pi188_63 (ShModel_k0 hS448) rfl rfl <| ?_
  refine ok_aloadn (pc' := 6) i188_5 rfl rfl <| ok_aloadn (pc' := 7) i188_6 rfl rfl <| ok_getfi (v := 0) (pc' := 10) i188_7 o188 gi9_66 (ShModel_k0 hS448) (rd_ni (by decide) (hld.trans hl)) rfl <| ok_kz0 (pc1 := 17) (pc2 := 13) i188_10 (by decide) rfl rfl <| ok_iconst (pc' := 14) i188_13 rfl <| ok_goto (pc' := 18) i188_14 rfl <| ok_iconst (pc' := 19) i188_18 rfl <| ok_cc i188_19 rfl (cl_v o188 m9_70 na165 rfl rfl (bt rfl) (bt rfl) rfl (by rw [ShModel_k0 hS448, o165])) ln165 (pd165 (aR 448) (aI 1) (aI 1)) <| ?_
  refine ok_aloadn (pc' := 1) i165_0 rfl rfl <| ok_getfi (v := 0) (pc' := 4) i165_1 o165 gi9_63 (ShModel_k0 hS448) rd_eq rfl <| ok_kz0 (pc1 := 16) (pc2 := 7) i165_4 (by decide) rfl rfl <| ok_iloadn (pc' := 8) i165_7 rfl rfl <| ok_kz0 (pc1 := 16) (pc2 := 11) i165_8 (by decide) rfl rfl <| ok_aloadn (pc' := 12) i165_11 rfl rfl <| ok_iloadn (pc' := 13) i165_12 rfl rfl <| ok_putfj (kk := 0) (pc' := 16) i165_13 o165 pi165_63 (ShModel_k0 hS448) rfl rfl <| ?_
  refine ok_aloadn (pc' := 17) i165_16 rfl rfl <| ok_getfi (v := 1) (pc' := 20) i165_17 o165 gi9_63 (ShModel_k0 hS448) rd_eq rfl <| ok_kz0 (pc1 := 27) (pc2 := 23) i165_20 (by decide) rfl rfl <| ok_iconst (pc' := 24) i165_23 rfl <| ok_goto (pc' := 28) i165_24 rfl <| ok_iretz i165_28 rt165 (by decide) <| kt_v (pc' := 22) rfl <| ok_iretz i188_22 rt188 (by decide) <| ?_
  refine kt_v (pc' := 4) rfl <| ok_kz1 (pc1 := 34) (pc2 := 7) i194_4 (by decide) rfl rfl <| ok_iconst (pc' := 35) i194_34 rfl <| ok_goto (pc' := 39) i194_35 rfl <| ok_iretz i194_39 rt194 (by decide) <| kt_v (pc' := 5) rfl <| ok_kz0 (pc1 := 12) (pc2 := 8) i249_5 (by decide) rfl rfl <| ok_iconst (pc' := 9) i249_8 rfl <| ?_
  refine ok_goto (pc' := 17) i249_9 rfl <| ok_ireti i249_17 rt249 <| kt_v (pc' := 2039) rfl <| ok_istore (pc' := 2041) (ls' := [aR 1, aR 100, aR 448, aR 464, aR 465, aI i, aI 1, aI 0, w8]) i0_2039 (bt rfl) rfl rfl <| ok_aloadn (pc' := 2042) i0_2041 rfl rfl <| ok_cc i0_2042 rfl (cl_v o0 m13_188 na157 rfl rfl (bt rfl) (bt rfl) rfl (by rw [ShModel_k0 hS448, o157])) ln157 (pd157 (aR 448)) <| ok_aloadn (pc' := 1) i157_0 rfl rfl <| ok_getfi (v := 1) (pc' := 4) i157_1 o157 gi9_63 (ShModel_k0 hS448) rd_eq rfl <| ?_
  refine ok_ireti i157_4 rt157 <| kt_v (pc' := 2045) rfl <| ok_iload (pc' := 2047) i0_2045 rfl rfl <| ok_kc1 (pc1 := 2052) (pc2 := 2050) i0_2047 (by decide) rfl rfl <| ok_iload (pc' := 2054) i0_2052 rfl rfl <| ok_kz1 (pc1 := 2069) (pc2 := 2057) i0_2054 (by decide) rfl rfl <| ok_goto (pc' := 3329) i0_2069 rfl <| ?_
  exact K _ _ _ _ _ _ hD (by omega) (Inv_mono (Inv_same hI (Same.thr (Same.thr Same.rfl))) (by omega))
theorem c34_0 {L n : Nat} {g : AG} {M : AM} {xs : Nat → Int32} {b i : Int} {w6 w7 w8 : AV} {Q : AO → AG → AM → Prop} (hD : HD L n g) (hI : Inv xs b M) (hi : 0 ≤ i ∧ i + 6 ≤ L) (hb : 0 ≤ b ∧ b ≤ 900000) (hl : M 100 6 = 0) (K : KK L n i b xs Q) :
    Ok 10 0 2072 [aR 1, aR 100, aR 448, aR 464, aR 465, aI i, w6, w7, w8] [] g M Q := by
  have hI0 := hI
  obtain ⟨hA, hld, hl01, q, hc, ⟨nx, sz, hH, hsz⟩, hS⟩ := hI0
  have hH0 := hH
  obtain ⟨⟨hn1, hn0⟩, ⟨hz2, hz0⟩, h10, hHj⟩ := hH0
  obtain ⟨hw0, ⟨bu, by_, hb1, hb13, hbu, hZ, hU⟩, he3, he4, he5, hId, tx, hT, hUt, htl, htr⟩ := hA
  have hS1 := HD_s hD
  have hS100 := HD_y hD
  have hS448 := HD_o hD
  have hS464 := HD_u hD
  have hS465 := HD_ud hD
  refine ok_aloadn (pc' := 2073) i0_2072 rfl rfl <| ok_aloadn (pc' := 2074) i0_2073 rfl rfl <| ok_cc i0_2074 rfl (cl_s o0 m13_294 na308 rfl rfl (bt rfl) (bt rfl) rfl) ln308 (pd308 (aR 100) (aR 464)) <| ok_aloadn (pc' := 1) i308_0 rfl rfl <| ok_iconst (pc' := 2) i308_1 rfl <| ok_aloadn (pc' := 3) i308_2 rfl rfl <| ok_cc i308_3 rfl (cl_v o308 m13_107 na133 rfl rfl (bt rfl) (bt rfl) rfl (by rw [ShYard_k0 hS100, o133])) ln133 (pd133 (aR 100)) <| ok_aloadn (pc' := 1) i133_0 rfl rfl <| ?_
  refine ok_cc i133_1 rfl (cl_v o133 m0_132 na99 rfl rfl (bt rfl) (bt rfl) rfl (by rw [ShYard_k0 hS100, o99])) ln99 (pd99 (aR 100)) <| ok_aloadn (pc' := 1) i99_0 rfl rfl <| ok_getfi (v := 0) (pc' := 4) i99_1 o99 gi0_268 (ShYard_k0 hS100) hl rfl <| ok_kz0 (pc1 := 18) (pc2 := 7) i99_4 (by decide) rfl rfl <| ok_throw th99_7 (bt rfl) <| kt_x hh133 <| kt_h hn308 hf308_3_12 hr308_11 <| kt_v (pc' := 2077) rfl <| ?_
  refine ok_al hD (fun g hD => ?_)
  have hS448 := HD_o hD
  have hS1 := HD_s hD
  have hS464 := HD_u hD
  have hS465 := HD_ud hD
  refine ok_istore (pc' := 2079) (ls' := [aR 1, aR 100, aR 448, aR 464, aR 465, aI i, aI 1, w7, w8]) i0_2077 (bt rfl) rfl rfl <| ok_aloadn (pc' := 2080) i0_2079 rfl rfl <| ok_cc i0_2080 rfl (cl_v o0 m13_296 na252 rfl rfl (bt rfl) (bt rfl) rfl (by rw [ShModel_k0 hS448, o252])) ln252 (pd252 (aR 448)) <| ok_aloadn (pc' := 1) i252_0 rfl rfl <| ok_cc i252_1 rfl (cl_v o252 m9_216 na188 rfl rfl (bt rfl) (bt rfl) rfl (by rw [ShModel_k0 hS448, o188])) ln188 (pd188 (aR 448)) <| ok_aloadn (pc' := 1) i188_0 rfl rfl <| ok_iconst (pc' := 2) i188_1 rfl <| ok_putfj (kk := 0) (pc' := 5) i188_2 o188 pi188_63 (ShModel_k0 hS448) rfl rfl <| ?_
  refine ok_aloadn (pc' := 6) i188_5 rfl rfl <| ok_aloadn (pc' := 7) i188_6 rfl rfl <| ok_getfi (v := 0) (pc' := 10) i188_7 o188 gi9_66 (ShModel_k0 hS448) (rd_ni (by decide) (hld.trans hl)) rfl <| ok_kz0 (pc1 := 17) (pc2 := 13) i188_10 (by decide) rfl rfl <| ok_iconst (pc' := 14) i188_13 rfl <| ok_goto (pc' := 18) i188_14 rfl <| ok_iconst (pc' := 19) i188_18 rfl <| ok_cc i188_19 rfl (cl_v o188 m9_70 na165 rfl rfl (bt rfl) (bt rfl) rfl (by rw [ShModel_k0 hS448, o165])) ln165 (pd165 (aR 448) (aI 1) (aI 1)) <| ?_
  refine ok_aloadn (pc' := 1) i165_0 rfl rfl <| ok_getfi (v := 0) (pc' := 4) i165_1 o165 gi9_63 (ShModel_k0 hS448) rd_eq rfl <| ok_kz0 (pc1 := 16) (pc2 := 7) i165_4 (by decide) rfl rfl <| ok_iloadn (pc' := 8) i165_7 rfl rfl <| ok_kz0 (pc1 := 16) (pc2 := 11) i165_8 (by decide) rfl rfl <| ok_aloadn (pc' := 12) i165_11 rfl rfl <| ok_iloadn (pc' := 13) i165_12 rfl rfl <| ok_putfj (kk := 0) (pc' := 16) i165_13 o165 pi165_63 (ShModel_k0 hS448) rfl rfl <| ?_
  refine ok_aloadn (pc' := 17) i165_16 rfl rfl <| ok_getfi (v := 1) (pc' := 20) i165_17 o165 gi9_63 (ShModel_k0 hS448) rd_eq rfl <| ok_kz0 (pc1 := 27) (pc2 := 23) i165_20 (by decide) rfl rfl <| ok_iconst (pc' := 24) i165_23 rfl <| ok_goto (pc' := 28) i165_24 rfl <| ok_iretz i165_28 rt165 (by decide) <| kt_v (pc' := 22) rfl <| ok_iretz i188_22 rt188 (by decide) <| ?_
  refine kt_v (pc' := 4) rfl <| ok_kz0 (pc1 := 9) (pc2 := 7) i252_4 (by decide) rfl rfl <| ok_iconst (pc' := 8) i252_7 rfl <| ok_ireti i252_8 rt252 <| kt_v (pc' := 2083) rfl <| ok_istore (pc' := 2085) (ls' := [aR 1, aR 100, aR 448, aR 464, aR 465, aI i, aI 1, aI 0, w8]) i0_2083 (bt rfl) rfl rfl <| ok_aloadn (pc' := 2086) i0_2085 rfl rfl <| ok_cc i0_2086 rfl (cl_v o0 m13_188 na157 rfl rfl (bt rfl) (bt rfl) rfl (by rw [ShModel_k0 hS448, o157])) ln157 (pd157 (aR 448)) <| ?_
  refine ok_aloadn (pc' := 1) i157_0 rfl rfl <| ok_getfi (v := 1) (pc' := 4) i157_1 o157 gi9_63 (ShModel_k0 hS448) rd_eq rfl <| ok_ireti i157_4 rt157 <| kt_v (pc' := 2089) rfl <| ok_iload (pc' := 2091) i0_2089 rfl rfl <| ok_kc1 (pc1 := 2096) (pc2 := 2094) i0_2091 (by decide) rfl rfl <| ok_iload (pc' := 2098) i0_2096 rfl rfl <| ok_kz1 (pc1 := 2113) (pc2 := 2101) i0_2098 (by decide) rfl rfl <| ?_
  refine ok_goto (pc' := 3329) i0_2113 rfl <| ?_
  exact K _ _ _ _ _ _ hD (by omega) (Inv_mono (Inv_same hI (Same.thr (Same.thr Same.rfl))) (by omega))
theorem c35_0 {L n : Nat} {g : AG} {M : AM} {xs : Nat → Int32} {b i : Int} {w6 w7 w8 : AV} {Q : AO → AG → AM → Prop} (hD : HD L n g) (hI : Inv xs b M) (hi : 0 ≤ i ∧ i + 6 ≤ L) (hb : 0 ≤ b ∧ b ≤ 900000) (hl : M 100 6 = 0) (K : KK L n i b xs Q) :
    Ok 10 0 2116 [aR 1, aR 100, aR 448, aR 464, aR 465, aI i, w6, w7, w8] [] g M Q := by
  have hI0 := hI
  obtain ⟨hA, hld, hl01, q, hc, ⟨nx, sz, hH, hsz⟩, hS⟩ := hI0
  have hH0 := hH
  obtain ⟨⟨hn1, hn0⟩, ⟨hz2, hz0⟩, h10, hHj⟩ := hH0
  obtain ⟨hw0, ⟨bu, by_, hb1, hb13, hbu, hZ, hU⟩, he3, he4, he5, hId, tx, hT, hUt, htl, htr⟩ := hA
  obtain ⟨v1, hv1⟩ : ∃ u9 : Int, M 1 (i + 1) = u9 := ⟨_, rfl⟩
  have hr1 : -2147483648 ≤ v1 ∧ v1 < 2147483648 := hv1 ▸ scr_rg hw0 (i + 1)
  have hS1 := HD_s hD
  have hS100 := HD_y hD
  have hS448 := HD_o hD
  have hS464 := HD_u hD
  have hS465 := HD_ud hD
  refine ok_aloadn (pc' := 2117) i0_2116 rfl rfl <| ok_aloadn (pc' := 2118) i0_2117 rfl rfl <| ok_iload (pc' := 2120) i0_2118 rfl rfl <| ok_iconst (pc' := 2121) i0_2120 rfl <| ok_iadd (v := (i + 1)) (pc' := 2122) i0_2121 rfl rfl <| ok_iaload (v := v1) (pc' := 2123) i0_2122 (ShScr_k0 hS1) (by decide) (ShScr_l0 hS1) (by omega) hv1 rfl <| ok_aloadn (pc' := 2124) i0_2123 rfl rfl <| ok_cc i0_2124 rfl (cl_s o0 m13_297 na309 rfl rfl (bt rfl) (bt rfl) rfl) ln309 (pd309 (aR 100) (aI v1) (aR 464)) <| ?_
  refine ok_aloadn (pc' := 1) i309_0 rfl rfl <| ok_iconst (pc' := 2) i309_1 rfl <| ok_aloadn (pc' := 3) i309_2 rfl rfl <| ok_iloadn (pc' := 4) i309_3 rfl rfl <| ok_cc i309_4 rfl (cl_v o309 m13_110 na134 rfl rfl (bt rfl) (bt rfl) rfl (by rw [ShYard_k0 hS100, o134])) ln134 (pd134 (aR 100) (aI v1)) <| ok_aloadn (pc' := 1) i134_0 rfl rfl <| ok_cc i134_1 rfl (cl_v o134 m0_132 na99 rfl rfl (bt rfl) (bt rfl) rfl (by rw [ShYard_k0 hS100, o99])) ln99 (pd99 (aR 100)) <| ok_aloadn (pc' := 1) i99_0 rfl rfl <| ?_
  refine ok_getfi (v := 0) (pc' := 4) i99_1 o99 gi0_268 (ShYard_k0 hS100) hl rfl <| ok_kz0 (pc1 := 18) (pc2 := 7) i99_4 (by decide) rfl rfl <| ok_throw th99_7 (bt rfl) <| kt_x hh134 <| kt_h hn309 hf309_4_12 hr309_12 <| kt_v (pc' := 2127) rfl <| ?_
  refine ok_al hD (fun g hD => ?_)
  have hS448 := HD_o hD
  have hS1 := HD_s hD
  have hS464 := HD_u hD
  have hS465 := HD_ud hD
  refine ok_istore (pc' := 2129) (ls' := [aR 1, aR 100, aR 448, aR 464, aR 465, aI i, aI 1, w7, w8]) i0_2127 (bt rfl) rfl rfl <| ok_aloadn (pc' := 2130) i0_2129 rfl rfl <| ok_aloadn (pc' := 2131) i0_2130 rfl rfl <| ok_iload (pc' := 2133) i0_2131 rfl rfl <| ok_iconst (pc' := 2134) i0_2133 rfl <| ok_iadd (v := (i + 1)) (pc' := 2135) i0_2134 rfl rfl <| ok_iaload (v := v1) (pc' := 2136) i0_2135 (ShScr_k0 hS1) (by decide) (ShScr_l0 hS1) (by omega) hv1 rfl <| ok_cc i0_2136 rfl (cl_v o0 m13_299 na253 rfl rfl (bt rfl) (bt rfl) rfl (by rw [ShModel_k0 hS448, o253])) ln253 (pd253 (aR 448) (aI v1)) <| ?_
  refine ok_aloadn (pc' := 1) i253_0 rfl rfl <| ok_iloadn (pc' := 2) i253_1 rfl rfl <| ok_cc i253_2 rfl (cl_v o253 m9_238 na194 rfl rfl (bt rfl) (bt rfl) rfl (by rw [ShModel_k0 hS448, o194])) ln194 (pd194 (aR 448) (aI v1)) <| ok_aloadn (pc' := 1) i194_0 rfl rfl <| ok_cc i194_1 rfl (cl_v o194 m9_216 na188 rfl rfl (bt rfl) (bt rfl) rfl (by rw [ShModel_k0 hS448, o188])) ln188 (pd188 (aR 448)) <| ok_aloadn (pc' := 1) i188_0 rfl rfl <| ok_iconst (pc' := 2) i188_1 rfl <| ok_putfj (kk := 0) (pc' := 5) i188_2 o188 pi188_63 (ShModel_k0 hS448) rfl rfl <| ?_
  refine ok_aloadn (pc' := 6) i188_5 rfl rfl <| ok_aloadn (pc' := 7) i188_6 rfl rfl <| ok_getfi (v := 0) (pc' := 10) i188_7 o188 gi9_66 (ShModel_k0 hS448) (rd_ni (by decide) (hld.trans hl)) rfl <| ok_kz0 (pc1 := 17) (pc2 := 13) i188_10 (by decide) rfl rfl <| ok_iconst (pc' := 14) i188_13 rfl <| ok_goto (pc' := 18) i188_14 rfl <| ok_iconst (pc' := 19) i188_18 rfl <| ok_cc i188_19 rfl (cl_v o188 m9_70 na165 rfl rfl (bt rfl) (bt rfl) rfl (by rw [ShModel_k0 hS448, o165])) ln165 (pd165 (aR 448) (aI 1) (aI 1)) <| ?_
  refine ok_aloadn (pc' := 1) i165_0 rfl rfl <| ok_getfi (v := 0) (pc' := 4) i165_1 o165 gi9_63 (ShModel_k0 hS448) rd_eq rfl <| ok_kz0 (pc1 := 16) (pc2 := 7) i165_4 (by decide) rfl rfl <| ok_iloadn (pc' := 8) i165_7 rfl rfl <| ok_kz0 (pc1 := 16) (pc2 := 11) i165_8 (by decide) rfl rfl <| ok_aloadn (pc' := 12) i165_11 rfl rfl <| ok_iloadn (pc' := 13) i165_12 rfl rfl <| ok_putfj (kk := 0) (pc' := 16) i165_13 o165 pi165_63 (ShModel_k0 hS448) rfl rfl <| ?_
  refine ok_aloadn (pc' := 17) i165_16 rfl rfl <| ok_getfi (v := 1) (pc' := 20) i165_17 o165 gi9_63 (ShModel_k0 hS448) rd_eq rfl <| ok_kz0 (pc1 := 27) (pc2 := 23) i165_20 (by decide) rfl rfl <| ok_iconst (pc' := 24) i165_23 rfl <| ok_goto (pc' := 28) i165_24 rfl <| ok_iretz i165_28 rt165 (by decide) <| kt_v (pc' := 22) rfl <| ok_iretz i188_22 rt188 (by decide) <| ?_
  refine kt_v (pc' := 4) rfl <| ok_kz1 (pc1 := 34) (pc2 := 7) i194_4 (by decide) rfl rfl <| ok_iconst (pc' := 35) i194_34 rfl <| ok_goto (pc' := 39) i194_35 rfl <| ok_iretz i194_39 rt194 (by decide) <| kt_v (pc' := 5) rfl <| ok_kz0 (pc1 := 10) (pc2 := 8) i253_5 (by decide) rfl rfl <| ok_iconst (pc' := 9) i253_8 rfl <| ?_
  refine ok_ireti i253_9 rt253 <| kt_v (pc' := 2139) rfl <| ok_istore (pc' := 2141) (ls' := [aR 1, aR 100, aR 448, aR 464, aR 465, aI i, aI 1, aI 0, w8]) i0_2139 (bt rfl) rfl rfl <| ok_aloadn (pc' := 2142) i0_2141 rfl rfl <| ok_cc i0_2142 rfl (cl_v o0 m13_188 na157 rfl rfl (bt rfl) (bt rfl) rfl (by rw [ShModel_k0 hS448, o157])) ln157 (pd157 (aR 448)) <| ok_aloadn (pc' := 1) i157_0 rfl rfl <| ok_getfi (v := 1) (pc' := 4) i157_1 o157 gi9_63 (ShModel_k0 hS448) rd_eq rfl <| ok_ireti i157_4 rt157 <| ?_
  refine kt_v (pc' := 2145) rfl <| ok_iload (pc' := 2147) i0_2145 rfl rfl <| ok_kc1 (pc1 := 2152) (pc2 := 2150) i0_2147 (by decide) rfl rfl <| ok_iload (pc' := 2154) i0_2152 rfl rfl <| ok_kz1 (pc1 := 2169) (pc2 := 2157) i0_2154 (by decide) rfl rfl <| ok_goto (pc' := 3329) i0_2169 rfl <| ?_
  exact K _ _ _ _ _ _ hD (by omega) (Inv_mono (Inv_same hI (Same.thr (Same.thr Same.rfl))) (by omega))
theorem c39_0 {L n : Nat} {g : AG} {M : AM} {xs : Nat → Int32} {b i : Int} {w6 w7 w8 : AV} {Q : AO → AG → AM → Prop} (hD : HD L n g) (hI : Inv xs b M) (hi : 0 ≤ i ∧ i + 6 ≤ L) (hb : 0 ≤ b ∧ b ≤ 900000) (hl : M 100 6 = 0) (K : KK L n i b xs Q) :
    Ok 10 0 2359 [aR 1, aR 100, aR 448, aR 464, aR 465, aI i, w6, w7, w8] [] g M Q := by
  have hI0 := hI
  obtain ⟨hA, hld, hl01, q, hc, ⟨nx, sz, hH, hsz⟩, hS⟩ := hI0
  have hH0 := hH
  obtain ⟨⟨hn1, hn0⟩, ⟨hz2, hz0⟩, h10, hHj⟩ := hH0
  obtain ⟨hw0, ⟨bu, by_, hb1, hb13, hbu, hZ, hU⟩, he3, he4, he5, hId, tx, hT, hUt, htl, htr⟩ := hA
  have hS100 := HD_y hD
  have hS448 := HD_o hD
  refine ok_aloadn (pc' := 2360) i0_2359 rfl rfl <| ok_cc i0_2360 rfl (cl_v o0 m13_310 na94 rfl rfl (bt rfl) (bt rfl) rfl (by rw [ShYard_k0 hS100, o94])) ln94 (pd94 (aR 100)) <| ok_aloadn (pc' := 1) i94_0 rfl rfl <| ok_getfi (v := 0) (pc' := 4) i94_1 o94 gi0_268 (ShYard_k0 hS100) hl rfl <| ok_kz1 (pc1 := 17) (pc2 := 7) i94_4 (by decide) rfl rfl <| ok_iconst (pc' := 18) i94_17 rfl <| ok_ireti i94_18 rt94 <| kt_v (pc' := 2363) rfl <| ?_
  refine ok_aloadn (pc' := 2364) i0_2363 rfl rfl <| ok_cc i0_2364 rfl (cl_v o0 m13_313 na257 rfl rfl (bt rfl) (bt rfl) rfl (by rw [ShModel_k0 hS448, o257])) ln257 (pd257 (aR 448)) <| ok_aloadn (pc' := 1) i257_0 rfl rfl <| ok_aloadn (pc' := 2) i257_1 rfl rfl <| ok_getfr (r := (448 + 5)) (pc' := 5) i257_2 o257 gr9_22 (ShModel_k0 hS448) (ShModel_r8 hS448) rfl <| ok_iconst (pc' := 6) i257_5 rfl <| ok_iaload (v := (M (448 + 5) 5)) (pc' := 7) i257_6 (ShModel_k5 hS448) (by decide) (ShModel_l5 hS448) (by decide) rfl rfl <| ok_cc i257_7 rfl (cl_v o257 m9_341 na258 rfl rfl (bt rfl) (bt rfl) rfl (by rw [ShModel_k0 hS448, o258])) ln258 (pd258 (aR 448) (aI (M (448 + 5) 5))) <| ?_
  refine ok_aloadn (pc' := 1) i258_0 rfl rfl <| ok_iconst (pc' := 2) i258_1 rfl <| ok_putfj (kk := 0) (pc' := 5) i258_2 o258 pi258_63 (ShModel_k0 hS448) rfl rfl <| ok_aloadn (pc' := 6) i258_5 rfl rfl <| ok_getfi (v := 0) (pc' := 9) i258_6 o258 gi9_66 (ShModel_k0 hS448) (rd_ni (by decide) (hld.trans hl)) rfl <| ok_kz1 (pc1 := 16) (pc2 := 12) i258_9 (by decide) rfl rfl <| ok_iconst (pc' := 17) i258_16 rfl <| ok_ireti i258_17 rt258 <| ?_
  refine kt_v (pc' := 10) rfl <| ok_ireti i257_10 rt257 <| kt_v (pc' := 2367) rfl <| ok_kc1 (pc1 := 3329) (pc2 := 2370) i0_2367 (by decide) rfl rfl <| ?_
  exact K _ _ _ _ _ _ hD (by omega) (Inv_mono (Inv_same hI (Same.thr Same.rfl)) (by omega))
theorem c40_0 {L n : Nat} {g : AG} {M : AM} {xs : Nat → Int32} {b i : Int} {w6 w7 w8 : AV} {Q : AO → AG → AM → Prop} (hD : HD L n g) (hI : Inv xs b M) (hi : 0 ≤ i ∧ i + 6 ≤ L) (hb : 0 ≤ b ∧ b ≤ 900000) (hl : M 100 6 = 0) (K : KK L n i b xs Q) :
    Ok 10 0 2372 [aR 1, aR 100, aR 448, aR 464, aR 465, aI i, w6, w7, w8] [] g M Q := by
  have hI0 := hI
  obtain ⟨hA, hld, hl01, q, hc, ⟨nx, sz, hH, hsz⟩, hS⟩ := hI0
  have hH0 := hH
  obtain ⟨⟨hn1, hn0⟩, ⟨hz2, hz0⟩, h10, hHj⟩ := hH0
  obtain ⟨hw0, ⟨bu, by_, hb1, hb13, hbu, hZ, hU⟩, he3, he4, he5, hId, tx, hT, hUt, htl, htr⟩ := hA
  obtain ⟨v1, hv1⟩ : ∃ u9 : Int, M 1 (i + 1) = u9 := ⟨_, rfl⟩
  have hr1 : -2147483648 ≤ v1 ∧ v1 < 2147483648 := hv1 ▸ scr_rg hw0 (i + 1)
  obtain ⟨v2, hv2⟩ : ∃ u9 : Int, M 1 (i + 2) = u9 := ⟨_, rfl⟩
  have hr2 : -2147483648 ≤ v2 ∧ v2 < 2147483648 := hv2 ▸ scr_rg hw0 (i + 2)
  have hS1 := HD_s hD
  have hS100 := HD_y hD
  have hS448 := HD_o hD
  have hS464 := HD_u hD
  have hS465 := HD_ud hD
  refine ok_aloadn (pc' := 2373) i0_2372 rfl rfl <| ok_aloadn (pc' := 2374) i0_2373 rfl rfl <| ok_iload (pc' := 2376) i0_2374 rfl rfl <| ok_iconst (pc' := 2377) i0_2376 rfl <| ok_iadd (v := (i + 1)) (pc' := 2378) i0_2377 rfl rfl <| ok_iaload (v := v1) (pc' := 2379) i0_2378 (ShScr_k0 hS1) (by decide) (ShScr_l0 hS1) (by omega) hv1 rfl <| ok_aloadn (pc' := 2380) i0_2379 rfl rfl <| ok_iload (pc' := 2382) i0_2380 rfl rfl <| ?_
  refine ok_iconst (pc' := 2383) i0_2382 rfl <| ok_iadd (v := (i + 2)) (pc' := 2384) i0_2383 rfl rfl <| ok_iaload (v := v2) (pc' := 2385) i0_2384 (ShScr_k0 hS1) (by decide) (ShScr_l0 hS1) (by omega) hv2 rfl <| ok_aloadn (pc' := 2386) i0_2385 rfl rfl <| ok_cc i0_2386 rfl (cl_s o0 m13_314 na313 rfl rfl (bt rfl) (bt rfl) rfl) ln313 (pd313 (aR 100) (aI v1) (aI v2) (aR 464)) <| ok_aloadn (pc' := 1) i313_0 rfl rfl <| ok_iconst (pc' := 2) i313_1 rfl <| ok_aloadn (pc' := 3) i313_2 rfl rfl <| ?_
  refine ok_iloadn (pc' := 4) i313_3 rfl rfl <| ok_iloadn (pc' := 5) i313_4 rfl rfl <| ok_cc i313_5 rfl (cl_v o313 m13_124 na138 rfl rfl (bt rfl) (bt rfl) rfl (by rw [ShYard_k0 hS100, o138])) ln138 (pd138 (aR 100) (aI v1) (aI v2)) <| ok_aloadn (pc' := 1) i138_0 rfl rfl <| ok_cc i138_1 rfl (cl_v o138 m0_132 na99 rfl rfl (bt rfl) (bt rfl) rfl (by rw [ShYard_k0 hS100, o99])) ln99 (pd99 (aR 100)) <| ok_aloadn (pc' := 1) i99_0 rfl rfl <| ok_getfi (v := 0) (pc' := 4) i99_1 o99 gi0_268 (ShYard_k0 hS100) hl rfl <| ok_kz0 (pc1 := 18) (pc2 := 7) i99_4 (by decide) rfl rfl <| ?_
  refine ok_throw th99_7 (bt rfl) <| kt_x hh138 <| kt_h hn313 hf313_5_12 hr313_13 <| kt_v (pc' := 2389) rfl <| ?_
  refine ok_al hD (fun g hD => ?_)
  have hS448 := HD_o hD
  have hS1 := HD_s hD
  have hS464 := HD_u hD
  have hS465 := HD_ud hD
  refine ok_istore (pc' := 2391) (ls' := [aR 1, aR 100, aR 448, aR 464, aR 465, aI i, aI 1, w7, w8]) i0_2389 (bt rfl) rfl rfl <| ok_aloadn (pc' := 2392) i0_2391 rfl rfl <| ok_aloadn (pc' := 2393) i0_2392 rfl rfl <| ok_iload (pc' := 2395) i0_2393 rfl rfl <| ok_iconst (pc' := 2396) i0_2395 rfl <| ok_iadd (v := (i + 1)) (pc' := 2397) i0_2396 rfl rfl <| ok_iaload (v := v1) (pc' := 2398) i0_2397 (ShScr_k0 hS1) (by decide) (ShScr_l0 hS1) (by omega) hv1 rfl <| ok_aloadn (pc' := 2399) i0_2398 rfl rfl <| ?_
  refine ok_iload (pc' := 2401) i0_2399 rfl rfl <| ok_iconst (pc' := 2402) i0_2401 rfl <| ok_iadd (v := (i + 2)) (pc' := 2403) i0_2402 rfl rfl <| ok_iaload (v := v2) (pc' := 2404) i0_2403 (ShScr_k0 hS1) (by decide) (ShScr_l0 hS1) (by omega) hv2 rfl <| ok_cc i0_2404 rfl (cl_v o0 m13_316 na260 rfl rfl (bt rfl) (bt rfl) rfl (by rw [ShModel_k0 hS448, o260])) ln260 (pd260 (aR 448) (aI v1) (aI v2)) <| ok_aloadn (pc' := 1) i260_0 rfl rfl <| ok_cc i260_1 rfl (cl_v o260 m9_216 na188 rfl rfl (bt rfl) (bt rfl) rfl (by rw [ShModel_k0 hS448, o188])) ln188 (pd188 (aR 448)) <| ok_aloadn (pc' := 1) i188_0 rfl rfl <| ?_
  refine ok_iconst (pc' := 2) i188_1 rfl <| ok_putfj (kk := 0) (pc' := 5) i188_2 o188 pi188_63 (ShModel_k0 hS448) rfl rfl <| ok_aloadn (pc' := 6) i188_5 rfl rfl <| ok_aloadn (pc' := 7) i188_6 rfl rfl <| ok_getfi (v := 0) (pc' := 10) i188_7 o188 gi9_66 (ShModel_k0 hS448) (rd_ni (by decide) (hld.trans hl)) rfl <| ok_kz0 (pc1 := 17) (pc2 := 13) i188_10 (by decide) rfl rfl <| ok_iconst (pc' := 14) i188_13 rfl <| ok_goto (pc' := 18) i188_14 rfl <| ?_
  refine ok_iconst (pc' := 19) i188_18 rfl <| ok_cc i188_19 rfl (cl_v o188 m9_70 na165 rfl rfl (bt rfl) (bt rfl) rfl (by rw [ShModel_k0 hS448, o165])) ln165 (pd165 (aR 448) (aI 1) (aI 1)) <| ok_aloadn (pc' := 1) i165_0 rfl rfl <| ok_getfi (v := 0) (pc' := 4) i165_1 o165 gi9_63 (ShModel_k0 hS448) rd_eq rfl <| ok_kz0 (pc1 := 16) (pc2 := 7) i165_4 (by decide) rfl rfl <| ok_iloadn (pc' := 8) i165_7 rfl rfl <| ok_kz0 (pc1 := 16) (pc2 := 11) i165_8 (by decide) rfl rfl <| ok_aloadn (pc' := 12) i165_11 rfl rfl <| ?_
  refine ok_iloadn (pc' := 13) i165_12 rfl rfl <| ok_putfj (kk := 0) (pc' := 16) i165_13 o165 pi165_63 (ShModel_k0 hS448) rfl rfl <| ok_aloadn (pc' := 17) i165_16 rfl rfl <| ok_getfi (v := 1) (pc' := 20) i165_17 o165 gi9_63 (ShModel_k0 hS448) rd_eq rfl <| ok_kz0 (pc1 := 27) (pc2 := 23) i165_20 (by decide) rfl rfl <| ok_iconst (pc' := 24) i165_23 rfl <| ok_goto (pc' := 28) i165_24 rfl <| ok_iretz i165_28 rt165 (by decide) <| ?_
  refine kt_v (pc' := 22) rfl <| ok_iretz i188_22 rt188 (by decide) <| kt_v (pc' := 4) rfl <| ok_kz1 (pc1 := 58) (pc2 := 7) i260_4 (by decide) rfl rfl <| ok_iconst (pc' := 59) i260_58 rfl <| ok_goto (pc' := 76) i260_59 rfl <| ok_ireti i260_76 rt260 <| kt_v (pc' := 2407) rfl <| ?_
  refine ok_istore (pc' := 2409) (ls' := [aR 1, aR 100, aR 448, aR 464, aR 465, aI i, aI 1, aI 0, w8]) i0_2407 (bt rfl) rfl rfl <| ok_aloadn (pc' := 2410) i0_2409 rfl rfl <| ok_cc i0_2410 rfl (cl_v o0 m13_188 na157 rfl rfl (bt rfl) (bt rfl) rfl (by rw [ShModel_k0 hS448, o157])) ln157 (pd157 (aR 448)) <| ok_aloadn (pc' := 1) i157_0 rfl rfl <| ok_getfi (v := 1) (pc' := 4) i157_1 o157 gi9_63 (ShModel_k0 hS448) rd_eq rfl <| ok_ireti i157_4 rt157 <| kt_v (pc' := 2413) rfl <| ok_iload (pc' := 2415) i0_2413 rfl rfl <| ?_
  refine ok_kc1 (pc1 := 2420) (pc2 := 2418) i0_2415 (by decide) rfl rfl <| ok_iload (pc' := 2422) i0_2420 rfl rfl <| ok_kz1 (pc1 := 2437) (pc2 := 2425) i0_2422 (by decide) rfl rfl <| ok_goto (pc' := 3329) i0_2437 rfl <| ?_
  exact K _ _ _ _ _ _ hD (by omega) (Inv_mono (Inv_same hI (Same.thr (Same.thr Same.rfl))) (by omega))
theorem c41_0 {L n : Nat} {g : AG} {M : AM} {xs : Nat → Int32} {b i : Int} {w6 w7 w8 : AV} {Q : AO → AG → AM → Prop} (hD : HD L n g) (hI : Inv xs b M) (hi : 0 ≤ i ∧ i + 6 ≤ L) (hb : 0 ≤ b ∧ b ≤ 900000) (hl : M 100 6 = 0) (K : KK L n i b xs Q) :
    Ok 10 0 2440 [aR 1, aR 100, aR 448, aR 464, aR 465, aI i, w6, w7, w8] [] g M Q := by
  have hI0 := hI
  obtain ⟨hA, hld, hl01, q, hc, ⟨nx, sz, hH, hsz⟩, hS⟩ := hI0
  have hH0 := hH
  obtain ⟨⟨hn1, hn0⟩, ⟨hz2, hz0⟩, h10, hHj⟩ := hH0
  obtain ⟨hw0, ⟨bu, by_, hb1, hb13, hbu, hZ, hU⟩, he3, he4, he5, hId, tx, hT, hUt, htl, htr⟩ := hA
  have hS1 := HD_s hD
  have hS100 := HD_y hD
  have hS448 := HD_o hD
  have hS464 := HD_u hD
  have hS465 := HD_ud hD
  refine ok_aloadn (pc' := 2441) i0_2440 rfl rfl <| ok_aloadn (pc' := 2442) i0_2441 rfl rfl <| ok_cc i0_2442 rfl (cl_s o0 m13_317 na314 rfl rfl (bt rfl) (bt rfl) rfl) ln314 (pd314 (aR 100) (aR 464)) <| ok_aloadn (pc' := 1) i314_0 rfl rfl <| ok_iconst (pc' := 2) i314_1 rfl <| ok_aloadn (pc' := 3) i314_2 rfl rfl <| ok_cc i314_3 rfl (cl_v o314 m13_127 na139 rfl rfl (bt rfl) (bt rfl) rfl (by rw [ShYard_k0 hS100, o139])) ln139 (pd139 (aR 100)) <| ok_aloadn (pc' := 1) i139_0 rfl rfl <| ?_
  refine ok_cc i139_1 rfl (cl_v o139 m0_132 na99 rfl rfl (bt rfl) (bt rfl) rfl (by rw [ShYard_k0 hS100, o99])) ln99 (pd99 (aR 100)) <| ok_aloadn (pc' := 1) i99_0 rfl rfl <| ok_getfi (v := 0) (pc' := 4) i99_1 o99 gi0_268 (ShYard_k0 hS100) hl rfl <| ok_kz0 (pc1 := 18) (pc2 := 7) i99_4 (by decide) rfl rfl <| ok_throw th99_7 (bt rfl) <| kt_x hh139 <| kt_h hn314 hf314_3_12 hr314_11 <| kt_v (pc' := 2445) rfl <| ?_
  refine ok_al hD (fun g hD => ?_)
  have hS448 := HD_o hD
  have hS1 := HD_s hD
  have hS464 := HD_u hD
  have hS465 := HD_ud hD
  refine ok_istore (pc' := 2447) (ls' := [aR 1, aR 100, aR 448, aR 464, aR 465, aI i, aI 1, w7, w8]) i0_2445 (bt rfl) rfl rfl <| ok_aloadn (pc' := 2448) i0_2447 rfl rfl <| ok_cc i0_2448 rfl (cl_v o0 m13_319 na261 rfl rfl (bt rfl) (bt rfl) rfl (by rw [ShModel_k0 hS448, o261])) ln261 (pd261 (aR 448)) <| ok_aloadn (pc' := 1) i261_0 rfl rfl <| ok_cc i261_1 rfl (cl_v o261 m9_216 na188 rfl rfl (bt rfl) (bt rfl) rfl (by rw [ShModel_k0 hS448, o188])) ln188 (pd188 (aR 448)) <| ok_aloadn (pc' := 1) i188_0 rfl rfl <| ok_iconst (pc' := 2) i188_1 rfl <| ok_putfj (kk := 0) (pc' := 5) i188_2 o188 pi188_63 (ShModel_k0 hS448) rfl rfl <| ?_
  refine ok_aloadn (pc' := 6) i188_5 rfl rfl <| ok_aloadn (pc' := 7) i188_6 rfl rfl <| ok_getfi (v := 0) (pc' := 10) i188_7 o188 gi9_66 (ShModel_k0 hS448) (rd_ni (by decide) (hld.trans hl)) rfl <| ok_kz0 (pc1 := 17) (pc2 := 13) i188_10 (by decide) rfl rfl <| ok_iconst (pc' := 14) i188_13 rfl <| ok_goto (pc' := 18) i188_14 rfl <| ok_iconst (pc' := 19) i188_18 rfl <| ok_cc i188_19 rfl (cl_v o188 m9_70 na165 rfl rfl (bt rfl) (bt rfl) rfl (by rw [ShModel_k0 hS448, o165])) ln165 (pd165 (aR 448) (aI 1) (aI 1)) <| ?_
  refine ok_aloadn (pc' := 1) i165_0 rfl rfl <| ok_getfi (v := 0) (pc' := 4) i165_1 o165 gi9_63 (ShModel_k0 hS448) rd_eq rfl <| ok_kz0 (pc1 := 16) (pc2 := 7) i165_4 (by decide) rfl rfl <| ok_iloadn (pc' := 8) i165_7 rfl rfl <| ok_kz0 (pc1 := 16) (pc2 := 11) i165_8 (by decide) rfl rfl <| ok_aloadn (pc' := 12) i165_11 rfl rfl <| ok_iloadn (pc' := 13) i165_12 rfl rfl <| ok_putfj (kk := 0) (pc' := 16) i165_13 o165 pi165_63 (ShModel_k0 hS448) rfl rfl <| ?_
  refine ok_aloadn (pc' := 17) i165_16 rfl rfl <| ok_getfi (v := 1) (pc' := 20) i165_17 o165 gi9_63 (ShModel_k0 hS448) rd_eq rfl <| ok_kz0 (pc1 := 27) (pc2 := 23) i165_20 (by decide) rfl rfl <| ok_iconst (pc' := 24) i165_23 rfl <| ok_goto (pc' := 28) i165_24 rfl <| ok_iretz i165_28 rt165 (by decide) <| kt_v (pc' := 22) rfl <| ok_iretz i188_22 rt188 (by decide) <| ?_
  refine kt_v (pc' := 4) rfl <| ok_kz0 (pc1 := 9) (pc2 := 7) i261_4 (by decide) rfl rfl <| ok_iconst (pc' := 8) i261_7 rfl <| ok_ireti i261_8 rt261 <| kt_v (pc' := 2451) rfl <| ok_istore (pc' := 2453) (ls' := [aR 1, aR 100, aR 448, aR 464, aR 465, aI i, aI 1, aI 0, w8]) i0_2451 (bt rfl) rfl rfl <| ok_aloadn (pc' := 2454) i0_2453 rfl rfl <| ok_cc i0_2454 rfl (cl_v o0 m13_188 na157 rfl rfl (bt rfl) (bt rfl) rfl (by rw [ShModel_k0 hS448, o157])) ln157 (pd157 (aR 448)) <| ?_
  refine ok_aloadn (pc' := 1) i157_0 rfl rfl <| ok_getfi (v := 1) (pc' := 4) i157_1 o157 gi9_63 (ShModel_k0 hS448) rd_eq rfl <| ok_ireti i157_4 rt157 <| kt_v (pc' := 2457) rfl <| ok_iload (pc' := 2459) i0_2457 rfl rfl <| ok_kc1 (pc1 := 2464) (pc2 := 2462) i0_2459 (by decide) rfl rfl <| ok_iload (pc' := 2466) i0_2464 rfl rfl <| ok_kz1 (pc1 := 2481) (pc2 := 2469) i0_2466 (by decide) rfl rfl <| ?_
  refine ok_goto (pc' := 3329) i0_2481 rfl <| ?_
  exact K _ _ _ _ _ _ hD (by omega) (Inv_mono (Inv_same hI (Same.thr (Same.thr Same.rfl))) (by omega))
theorem c42_0 {L n : Nat} {g : AG} {M : AM} {xs : Nat → Int32} {b i : Int} {w6 w7 w8 : AV} {Q : AO → AG → AM → Prop} (hD : HD L n g) (hI : Inv xs b M) (hi : 0 ≤ i ∧ i + 6 ≤ L) (hb : 0 ≤ b ∧ b ≤ 900000) (hl : M 100 6 = 0) (K : KK L n i b xs Q) :
    Ok 10 0 2484 [aR 1, aR 100, aR 448, aR 464, aR 465, aI i, w6, w7, w8] [] g M Q := by
  have hI0 := hI
  obtain ⟨hA, hld, hl01, q, hc, ⟨nx, sz, hH, hsz⟩, hS⟩ := hI0
  have hH0 := hH
  obtain ⟨⟨hn1, hn0⟩, ⟨hz2, hz0⟩, h10, hHj⟩ := hH0
  obtain ⟨hw0, ⟨bu, by_, hb1, hb13, hbu, hZ, hU⟩, he3, he4, he5, hId, tx, hT, hUt, htl, htr⟩ := hA
  obtain ⟨v1, hv1⟩ : ∃ u9 : Int, M 1 (i + 1) = u9 := ⟨_, rfl⟩
  have hr1 : -2147483648 ≤ v1 ∧ v1 < 2147483648 := hv1 ▸ scr_rg hw0 (i + 1)
  have hS1 := HD_s hD
  have hS100 := HD_y hD
  have hS448 := HD_o hD
  have hS464 := HD_u hD
  have hS465 := HD_ud hD
  refine ok_aloadn (pc' := 2485) i0_2484 rfl rfl <| ok_aloadn (pc' := 2486) i0_2485 rfl rfl <| ok_iload (pc' := 2488) i0_2486 rfl rfl <| ok_iconst (pc' := 2489) i0_2488 rfl <| ok_iadd (v := (i + 1)) (pc' := 2490) i0_2489 rfl rfl <| ok_iaload (v := v1) (pc' := 2491) i0_2490 (ShScr_k0 hS1) (by decide) (ShScr_l0 hS1) (by omega) hv1 rfl <| ok_aloadn (pc' := 2492) i0_2491 rfl rfl <| ok_cc i0_2492 rfl (cl_s o0 m13_320 na315 rfl rfl (bt rfl) (bt rfl) rfl) ln315 (pd315 (aR 100) (aI v1) (aR 464)) <| ?_
  refine ok_aloadn (pc' := 1) i315_0 rfl rfl <| ok_iconst (pc' := 2) i315_1 rfl <| ok_aloadn (pc' := 3) i315_2 rfl rfl <| ok_iloadn (pc' := 4) i315_3 rfl rfl <| ok_cc i315_4 rfl (cl_v o315 m13_130 na141 rfl rfl (bt rfl) (bt rfl) rfl (by rw [ShYard_k0 hS100, o141])) ln141 (pd141 (aR 100) (aI v1)) <| ok_aloadn (pc' := 1) i141_0 rfl rfl <| ok_cc i141_1 rfl (cl_v o141 m0_132 na99 rfl rfl (bt rfl) (bt rfl) rfl (by rw [ShYard_k0 hS100, o99])) ln99 (pd99 (aR 100)) <| ok_aloadn (pc' := 1) i99_0 rfl rfl <| ?_
  refine ok_getfi (v := 0) (pc' := 4) i99_1 o99 gi0_268 (ShYard_k0 hS100) hl rfl <| ok_kz0 (pc1 := 18) (pc2 := 7) i99_4 (by decide) rfl rfl <| ok_throw th99_7 (bt rfl) <| kt_x hh141 <| kt_h hn315 hf315_4_12 hr315_12 <| kt_v (pc' := 2495) rfl <| ?_
  refine ok_al hD (fun g hD => ?_)
  have hS448 := HD_o hD
  have hS1 := HD_s hD
  have hS464 := HD_u hD
  have hS465 := HD_ud hD
  refine ok_istore (pc' := 2497) (ls' := [aR 1, aR 100, aR 448, aR 464, aR 465, aI i, aI 1, w7, w8]) i0_2495 (bt rfl) rfl rfl <| ok_aloadn (pc' := 2498) i0_2497 rfl rfl <| ok_aloadn (pc' := 2499) i0_2498 rfl rfl <| ok_iload (pc' := 2501) i0_2499 rfl rfl <| ok_iconst (pc' := 2502) i0_2501 rfl <| ok_iadd (v := (i + 1)) (pc' := 2503) i0_2502 rfl rfl <| ok_iaload (v := v1) (pc' := 2504) i0_2503 (ShScr_k0 hS1) (by decide) (ShScr_l0 hS1) (by omega) hv1 rfl <| ok_cc i0_2504 rfl (cl_v o0 m13_322 na264 rfl rfl (bt rfl) (bt rfl) rfl (by rw [ShModel_k0 hS448, o264])) ln264 (pd264 (aR 448) (aI v1)) <| ?_
  refine ok_aloadn (pc' := 1) i264_0 rfl rfl <| ok_iloadn (pc' := 2) i264_1 rfl rfl <| ok_cc i264_2 rfl (cl_v o264 m9_244 na199 rfl rfl (bt rfl) (bt rfl) rfl (by rw [ShModel_k0 hS448, o199])) ln199 (pd199 (aR 448) (aI v1)) <| ok_aloadn (pc' := 1) i199_0 rfl rfl <| ok_cc i199_1 rfl (cl_v o199 m9_216 na188 rfl rfl (bt rfl) (bt rfl) rfl (by rw [ShModel_k0 hS448, o188])) ln188 (pd188 (aR 448)) <| ok_aloadn (pc' := 1) i188_0 rfl rfl <| ok_iconst (pc' := 2) i188_1 rfl <| ok_putfj (kk := 0) (pc' := 5) i188_2 o188 pi188_63 (ShModel_k0 hS448) rfl rfl <| ?_
  refine ok_aloadn (pc' := 6) i188_5 rfl rfl <| ok_aloadn (pc' := 7) i188_6 rfl rfl <| ok_getfi (v := 0) (pc' := 10) i188_7 o188 gi9_66 (ShModel_k0 hS448) (rd_ni (by decide) (hld.trans hl)) rfl <| ok_kz0 (pc1 := 17) (pc2 := 13) i188_10 (by decide) rfl rfl <| ok_iconst (pc' := 14) i188_13 rfl <| ok_goto (pc' := 18) i188_14 rfl <| ok_iconst (pc' := 19) i188_18 rfl <| ok_cc i188_19 rfl (cl_v o188 m9_70 na165 rfl rfl (bt rfl) (bt rfl) rfl (by rw [ShModel_k0 hS448, o165])) ln165 (pd165 (aR 448) (aI 1) (aI 1)) <| ?_
  refine ok_aloadn (pc' := 1) i165_0 rfl rfl <| ok_getfi (v := 0) (pc' := 4) i165_1 o165 gi9_63 (ShModel_k0 hS448) rd_eq rfl <| ok_kz0 (pc1 := 16) (pc2 := 7) i165_4 (by decide) rfl rfl <| ok_iloadn (pc' := 8) i165_7 rfl rfl <| ok_kz0 (pc1 := 16) (pc2 := 11) i165_8 (by decide) rfl rfl <| ok_aloadn (pc' := 12) i165_11 rfl rfl <| ok_iloadn (pc' := 13) i165_12 rfl rfl <| ok_putfj (kk := 0) (pc' := 16) i165_13 o165 pi165_63 (ShModel_k0 hS448) rfl rfl <| ?_
  refine ok_aloadn (pc' := 17) i165_16 rfl rfl <| ok_getfi (v := 1) (pc' := 20) i165_17 o165 gi9_63 (ShModel_k0 hS448) rd_eq rfl <| ok_kz0 (pc1 := 27) (pc2 := 23) i165_20 (by decide) rfl rfl <| ok_iconst (pc' := 24) i165_23 rfl <| ok_goto (pc' := 28) i165_24 rfl <| ok_iretz i165_28 rt165 (by decide) <| kt_v (pc' := 22) rfl <| ok_iretz i188_22 rt188 (by decide) <| ?_
  refine kt_v (pc' := 4) rfl <| ok_kz1 (pc1 := 36) (pc2 := 7) i199_4 (by decide) rfl rfl <| ok_iconst (pc' := 37) i199_36 rfl <| ok_goto (pc' := 41) i199_37 rfl <| ok_iretz i199_41 rt199 (by decide) <| kt_v (pc' := 5) rfl <| ok_kz0 (pc1 := 10) (pc2 := 8) i264_5 (by decide) rfl rfl <| ok_iconst (pc' := 9) i264_8 rfl <| ?_
  refine ok_ireti i264_9 rt264 <| kt_v (pc' := 2507) rfl <| ok_istore (pc' := 2509) (ls' := [aR 1, aR 100, aR 448, aR 464, aR 465, aI i, aI 1, aI 0, w8]) i0_2507 (bt rfl) rfl rfl <| ok_aloadn (pc' := 2510) i0_2509 rfl rfl <| ok_cc i0_2510 rfl (cl_v o0 m13_188 na157 rfl rfl (bt rfl) (bt rfl) rfl (by rw [ShModel_k0 hS448, o157])) ln157 (pd157 (aR 448)) <| ok_aloadn (pc' := 1) i157_0 rfl rfl <| ok_getfi (v := 1) (pc' := 4) i157_1 o157 gi9_63 (ShModel_k0 hS448) rd_eq rfl <| ok_ireti i157_4 rt157 <| ?_
  refine kt_v (pc' := 2513) rfl <| ok_iload (pc' := 2515) i0_2513 rfl rfl <| ok_kc1 (pc1 := 2520) (pc2 := 2518) i0_2515 (by decide) rfl rfl <| ok_iload (pc' := 2522) i0_2520 rfl rfl <| ok_kz1 (pc1 := 2537) (pc2 := 2525) i0_2522 (by decide) rfl rfl <| ok_goto (pc' := 3329) i0_2537 rfl <| ?_
  exact K _ _ _ _ _ _ hD (by omega) (Inv_mono (Inv_same hI (Same.thr (Same.thr Same.rfl))) (by omega))
theorem c44_0 {L n : Nat} {g : AG} {M : AM} {xs : Nat → Int32} {b i : Int} {w6 w7 w8 : AV} {Q : AO → AG → AM → Prop} (hD : HD L n g) (hI : Inv xs b M) (hi : 0 ≤ i ∧ i + 6 ≤ L) (hb : 0 ≤ b ∧ b ≤ 900000) (hl : M 100 6 = 0) (K : KK L n i b xs Q) :
    Ok 10 0 2596 [aR 1, aR 100, aR 448, aR 464, aR 465, aI i, w6, w7, w8] [] g M Q := by
  have hI0 := hI
  obtain ⟨hA, hld, hl01, q, hc, ⟨nx, sz, hH, hsz⟩, hS⟩ := hI0
  have hH0 := hH
  obtain ⟨⟨hn1, hn0⟩, ⟨hz2, hz0⟩, h10, hHj⟩ := hH0
  obtain ⟨hw0, ⟨bu, by_, hb1, hb13, hbu, hZ, hU⟩, he3, he4, he5, hId, tx, hT, hUt, htl, htr⟩ := hA
  obtain ⟨v1, hv1⟩ : ∃ u9 : Int, M 1 (i + 1) = u9 := ⟨_, rfl⟩
  have hr1 : -2147483648 ≤ v1 ∧ v1 < 2147483648 := hv1 ▸ scr_rg hw0 (i + 1)
  obtain ⟨v2, hv2⟩ : ∃ u9 : Int, M 1 (i + 2) = u9 := ⟨_, rfl⟩
  have hr2 : -2147483648 ≤ v2 ∧ v2 < 2147483648 := hv2 ▸ scr_rg hw0 (i + 2)
  have hS1 := HD_s hD
  have hS100 := HD_y hD
  have hS448 := HD_o hD
  have hS464 := HD_u hD
  have hS465 := HD_ud hD
  refine ok_aloadn (pc' := 2597) i0_2596 rfl rfl <| ok_aloadn (pc' := 2598) i0_2597 rfl rfl <| ok_iload (pc' := 2600) i0_2598 rfl rfl <| ok_iconst (pc' := 2601) i0_2600 rfl <| ok_iadd (v := (i + 1)) (pc' := 2602) i0_2601 rfl rfl <| ok_iaload (v := v1) (pc' := 2603) i0_2602 (ShScr_k0 hS1) (by decide) (ShScr_l0 hS1) (by omega) hv1 rfl <| ok_aloadn (pc' := 2604) i0_2603 rfl rfl <| ok_iload (pc' := 2606) i0_2604 rfl rfl <| ?_
  refine ok_iconst (pc' := 2607) i0_2606 rfl <| ok_iadd (v := (i + 2)) (pc' := 2608) i0_2607 rfl rfl <| ok_iaload (v := v2) (pc' := 2609) i0_2608 (ShScr_k0 hS1) (by decide) (ShScr_l0 hS1) (by omega) hv2 rfl <| ok_aloadn (pc' := 2610) i0_2609 rfl rfl <| ok_cc i0_2610 rfl (cl_s o0 m13_326 na317 rfl rfl (bt rfl) (bt rfl) rfl) ln317 (pd317 (aR 100) (aI v1) (aI v2) (aR 464)) <| ok_aloadn (pc' := 1) i317_0 rfl rfl <| ok_iconst (pc' := 2) i317_1 rfl <| ok_aloadn (pc' := 3) i317_2 rfl rfl <| ?_
  refine ok_iloadn (pc' := 4) i317_3 rfl rfl <| ok_iloadn (pc' := 5) i317_4 rfl rfl <| ok_cc i317_5 rfl (cl_v o317 m13_136 na143 rfl rfl (bt rfl) (bt rfl) rfl (by rw [ShYard_k0 hS100, o143])) ln143 (pd143 (aR 100) (aI v1) (aI v2)) <| ok_aloadn (pc' := 1) i143_0 rfl rfl <| ok_cc i143_1 rfl (cl_v o143 m0_132 na99 rfl rfl (bt rfl) (bt rfl) rfl (by rw [ShYard_k0 hS100, o99])) ln99 (pd99 (aR 100)) <| ok_aloadn (pc' := 1) i99_0 rfl rfl <| ok_getfi (v := 0) (pc' := 4) i99_1 o99 gi0_268 (ShYard_k0 hS100) hl rfl <| ok_kz0 (pc1 := 18) (pc2 := 7) i99_4 (by decide) rfl rfl <| ?_
  refine ok_throw th99_7 (bt rfl) <| kt_x hh143 <| kt_h hn317 hf317_5_12 hr317_13 <| kt_v (pc' := 2613) rfl <| ?_
  refine ok_al hD (fun g hD => ?_)
  have hS448 := HD_o hD
  have hS1 := HD_s hD
  have hS464 := HD_u hD
  have hS465 := HD_ud hD
  refine ok_istore (pc' := 2615) (ls' := [aR 1, aR 100, aR 448, aR 464, aR 465, aI i, aI 1, w7, w8]) i0_2613 (bt rfl) rfl rfl <| ok_aloadn (pc' := 2616) i0_2615 rfl rfl <| ok_aloadn (pc' := 2617) i0_2616 rfl rfl <| ok_iload (pc' := 2619) i0_2617 rfl rfl <| ok_iconst (pc' := 2620) i0_2619 rfl <| ok_iadd (v := (i + 1)) (pc' := 2621) i0_2620 rfl rfl <| ok_iaload (v := v1) (pc' := 2622) i0_2621 (ShScr_k0 hS1) (by decide) (ShScr_l0 hS1) (by omega) hv1 rfl <| ok_aloadn (pc' := 2623) i0_2622 rfl rfl <| ?_
  refine ok_iload (pc' := 2625) i0_2623 rfl rfl <| ok_iconst (pc' := 2626) i0_2625 rfl <| ok_iadd (v := (i + 2)) (pc' := 2627) i0_2626 rfl rfl <| ok_iaload (v := v2) (pc' := 2628) i0_2627 (ShScr_k0 hS1) (by decide) (ShScr_l0 hS1) (by omega) hv2 rfl <| ok_cc i0_2628 rfl (cl_v o0 m13_328 na266 rfl rfl (bt rfl) (bt rfl) rfl (by rw [ShModel_k0 hS448, o266])) ln266 (pd266 (aR 448) (aI v1) (aI v2)) <| ok_aloadn (pc' := 1) i266_0 rfl rfl <| ok_iloadn (pc' := 2) i266_1 rfl rfl <| ok_cc i266_2 rfl (cl_v o266 m9_241 na196 rfl rfl (bt rfl) (bt rfl) rfl (by rw [ShModel_k0 hS448, o196])) ln196 (pd196 (aR 448) (aI v1)) <| ?_
  refine ok_aloadn (pc' := 1) i196_0 rfl rfl <| ok_cc i196_1 rfl (cl_v o196 m9_216 na188 rfl rfl (bt rfl) (bt rfl) rfl (by rw [ShModel_k0 hS448, o188])) ln188 (pd188 (aR 448)) <| ok_aloadn (pc' := 1) i188_0 rfl rfl <| ok_iconst (pc' := 2) i188_1 rfl <| ok_putfj (kk := 0) (pc' := 5) i188_2 o188 pi188_63 (ShModel_k0 hS448) rfl rfl <| ok_aloadn (pc' := 6) i188_5 rfl rfl <| ok_aloadn (pc' := 7) i188_6 rfl rfl <| ok_getfi (v := 0) (pc' := 10) i188_7 o188 gi9_66 (ShModel_k0 hS448) (rd_ni (by decide) (hld.trans hl)) rfl <| ?_
  refine ok_kz0 (pc1 := 17) (pc2 := 13) i188_10 (by decide) rfl rfl <| ok_iconst (pc' := 14) i188_13 rfl <| ok_goto (pc' := 18) i188_14 rfl <| ok_iconst (pc' := 19) i188_18 rfl <| ok_cc i188_19 rfl (cl_v o188 m9_70 na165 rfl rfl (bt rfl) (bt rfl) rfl (by rw [ShModel_k0 hS448, o165])) ln165 (pd165 (aR 448) (aI 1) (aI 1)) <| ok_aloadn (pc' := 1) i165_0 rfl rfl <| ok_getfi (v := 0) (pc' := 4) i165_1 o165 gi9_63 (ShModel_k0 hS448) rd_eq rfl <| ok_kz0 (pc1 := 16) (pc2 := 7) i165_4 (by decide) rfl rfl <| ?_
  refine ok_iloadn (pc' := 8) i165_7 rfl rfl <| ok_kz0 (pc1 := 16) (pc2 := 11) i165_8 (by decide) rfl rfl <| ok_aloadn (pc' := 12) i165_11 rfl rfl <| ok_iloadn (pc' := 13) i165_12 rfl rfl <| ok_putfj (kk := 0) (pc' := 16) i165_13 o165 pi165_63 (ShModel_k0 hS448) rfl rfl <| ok_aloadn (pc' := 17) i165_16 rfl rfl <| ok_getfi (v := 1) (pc' := 20) i165_17 o165 gi9_63 (ShModel_k0 hS448) rd_eq rfl <| ok_kz0 (pc1 := 27) (pc2 := 23) i165_20 (by decide) rfl rfl <| ?_
  refine ok_iconst (pc' := 24) i165_23 rfl <| ok_goto (pc' := 28) i165_24 rfl <| ok_iretz i165_28 rt165 (by decide) <| kt_v (pc' := 22) rfl <| ok_iretz i188_22 rt188 (by decide) <| kt_v (pc' := 4) rfl <| ok_kz1 (pc1 := 28) (pc2 := 7) i196_4 (by decide) rfl rfl <| ok_iconst (pc' := 29) i196_28 rfl <| ?_
  refine ok_goto (pc' := 33) i196_29 rfl <| ok_iretz i196_33 rt196 (by decide) <| kt_v (pc' := 5) rfl <| ok_kz1 (pc1 := 41) (pc2 := 8) i266_5 (by decide) rfl rfl <| ok_iconst (pc' := 42) i266_41 rfl <| ok_ireti i266_42 rt266 <| kt_v (pc' := 2631) rfl <| ok_istore (pc' := 2633) (ls' := [aR 1, aR 100, aR 448, aR 464, aR 465, aI i, aI 1, aI 0, w8]) i0_2631 (bt rfl) rfl rfl <| ?_
  refine ok_aloadn (pc' := 2634) i0_2633 rfl rfl <| ok_cc i0_2634 rfl (cl_v o0 m13_188 na157 rfl rfl (bt rfl) (bt rfl) rfl (by rw [ShModel_k0 hS448, o157])) ln157 (pd157 (aR 448)) <| ok_aloadn (pc' := 1) i157_0 rfl rfl <| ok_getfi (v := 1) (pc' := 4) i157_1 o157 gi9_63 (ShModel_k0 hS448) rd_eq rfl <| ok_ireti i157_4 rt157 <| kt_v (pc' := 2637) rfl <| ok_iload (pc' := 2639) i0_2637 rfl rfl <| ok_kc1 (pc1 := 2644) (pc2 := 2642) i0_2639 (by decide) rfl rfl <| ?_
  refine ok_iload (pc' := 2646) i0_2644 rfl rfl <| ok_kz1 (pc1 := 2661) (pc2 := 2649) i0_2646 (by decide) rfl rfl <| ok_goto (pc' := 3329) i0_2661 rfl <| ?_
  exact K _ _ _ _ _ _ hD (by omega) (Inv_mono (Inv_same hI (Same.thr (Same.thr Same.rfl))) (by omega))
theorem c45_0 {L n : Nat} {g : AG} {M : AM} {xs : Nat → Int32} {b i : Int} {w6 w7 w8 : AV} {Q : AO → AG → AM → Prop} (hD : HD L n g) (hI : Inv xs b M) (hi : 0 ≤ i ∧ i + 6 ≤ L) (hb : 0 ≤ b ∧ b ≤ 900000) (hl : M 100 6 = 0) (K : KK L n i b xs Q) :
    Ok 10 0 2664 [aR 1, aR 100, aR 448, aR 464, aR 465, aI i, w6, w7, w8] [] g M Q := by
  have hI0 := hI
  obtain ⟨hA, hld, hl01, q, hc, ⟨nx, sz, hH, hsz⟩, hS⟩ := hI0
  have hH0 := hH
  obtain ⟨⟨hn1, hn0⟩, ⟨hz2, hz0⟩, h10, hHj⟩ := hH0
  obtain ⟨hw0, ⟨bu, by_, hb1, hb13, hbu, hZ, hU⟩, he3, he4, he5, hId, tx, hT, hUt, htl, htr⟩ := hA
  obtain ⟨v1, hv1⟩ : ∃ u9 : Int, M 1 (i + 1) = u9 := ⟨_, rfl⟩
  have hr1 : -2147483648 ≤ v1 ∧ v1 < 2147483648 := hv1 ▸ scr_rg hw0 (i + 1)
  obtain ⟨v2, hv2⟩ : ∃ u9 : Int, M 1 (i + 2) = u9 := ⟨_, rfl⟩
  have hr2 : -2147483648 ≤ v2 ∧ v2 < 2147483648 := hv2 ▸ scr_rg hw0 (i + 2)
  have hS1 := HD_s hD
  have hS100 := HD_y hD
  have hS448 := HD_o hD
  have hS464 := HD_u hD
  have hS465 := HD_ud hD
  refine ok_aloadn (pc' := 2665) i0_2664 rfl rfl <| ok_aloadn (pc' := 2666) i0_2665 rfl rfl <| ok_iload (pc' := 2668) i0_2666 rfl rfl <| ok_iconst (pc' := 2669) i0_2668 rfl <| ok_iadd (v := (i + 1)) (pc' := 2670) i0_2669 rfl rfl <| ok_iaload (v := v1) (pc' := 2671) i0_2670 (ShScr_k0 hS1) (by decide) (ShScr_l0 hS1) (by omega) hv1 rfl <| ok_aloadn (pc' := 2672) i0_2671 rfl rfl <| ok_iload (pc' := 2674) i0_2672 rfl rfl <| ?_
  refine ok_iconst (pc' := 2675) i0_2674 rfl <| ok_iadd (v := (i + 2)) (pc' := 2676) i0_2675 rfl rfl <| ok_iaload (v := v2) (pc' := 2677) i0_2676 (ShScr_k0 hS1) (by decide) (ShScr_l0 hS1) (by omega) hv2 rfl <| ok_aloadn (pc' := 2678) i0_2677 rfl rfl <| ok_cc i0_2678 rfl (cl_s o0 m13_329 na318 rfl rfl (bt rfl) (bt rfl) rfl) ln318 (pd318 (aR 100) (aI v1) (aI v2) (aR 464)) <| ok_aloadn (pc' := 1) i318_0 rfl rfl <| ok_iconst (pc' := 2) i318_1 rfl <| ok_aloadn (pc' := 3) i318_2 rfl rfl <| ?_
  refine ok_iloadn (pc' := 4) i318_3 rfl rfl <| ok_iloadn (pc' := 5) i318_4 rfl rfl <| ok_cc i318_5 rfl (cl_v o318 m13_139 na144 rfl rfl (bt rfl) (bt rfl) rfl (by rw [ShYard_k0 hS100, o144])) ln144 (pd144 (aR 100) (aI v1) (aI v2)) <| ok_aloadn (pc' := 1) i144_0 rfl rfl <| ok_cc i144_1 rfl (cl_v o144 m0_132 na99 rfl rfl (bt rfl) (bt rfl) rfl (by rw [ShYard_k0 hS100, o99])) ln99 (pd99 (aR 100)) <| ok_aloadn (pc' := 1) i99_0 rfl rfl <| ok_getfi (v := 0) (pc' := 4) i99_1 o99 gi0_268 (ShYard_k0 hS100) hl rfl <| ok_kz0 (pc1 := 18) (pc2 := 7) i99_4 (by decide) rfl rfl <| ?_
  refine ok_throw th99_7 (bt rfl) <| kt_x hh144 <| kt_h hn318 hf318_5_12 hr318_13 <| kt_v (pc' := 2681) rfl <| ?_
  refine ok_al hD (fun g hD => ?_)
  have hS448 := HD_o hD
  have hS1 := HD_s hD
  have hS464 := HD_u hD
  have hS465 := HD_ud hD
  refine ok_istore (pc' := 2683) (ls' := [aR 1, aR 100, aR 448, aR 464, aR 465, aI i, aI 1, w7, w8]) i0_2681 (bt rfl) rfl rfl <| ok_aloadn (pc' := 2684) i0_2683 rfl rfl <| ok_aloadn (pc' := 2685) i0_2684 rfl rfl <| ok_iload (pc' := 2687) i0_2685 rfl rfl <| ok_iconst (pc' := 2688) i0_2687 rfl <| ok_iadd (v := (i + 1)) (pc' := 2689) i0_2688 rfl rfl <| ok_iaload (v := v1) (pc' := 2690) i0_2689 (ShScr_k0 hS1) (by decide) (ShScr_l0 hS1) (by omega) hv1 rfl <| ok_aloadn (pc' := 2691) i0_2690 rfl rfl <| ?_
  refine ok_iload (pc' := 2693) i0_2691 rfl rfl <| ok_iconst (pc' := 2694) i0_2693 rfl <| ok_iadd (v := (i + 2)) (pc' := 2695) i0_2694 rfl rfl <| ok_iaload (v := v2) (pc' := 2696) i0_2695 (ShScr_k0 hS1) (by decide) (ShScr_l0 hS1) (by omega) hv2 rfl <| ok_cc i0_2696 rfl (cl_v o0 m13_331 na268 rfl rfl (bt rfl) (bt rfl) rfl (by rw [ShModel_k0 hS448, o268])) ln268 (pd268 (aR 448) (aI v1) (aI v2)) <| ok_aloadn (pc' := 1) i268_0 rfl rfl <| ok_iloadn (pc' := 2) i268_1 rfl rfl <| ok_iloadn (pc' := 3) i268_2 rfl rfl <| ?_
  refine ok_cc i268_3 rfl (cl_v o268 m9_271 na221 rfl rfl (bt rfl) (bt rfl) rfl (by rw [ShModel_k0 hS448, o221])) ln221 (pd221 (aR 448) (aI v1) (aI v2)) <| ok_aloadn (pc' := 1) i221_0 rfl rfl <| ok_iloadn (pc' := 2) i221_1 rfl rfl <| ok_cc i221_2 rfl (cl_v o221 m9_223 na201 rfl rfl (bt rfl) (bt rfl) rfl (by rw [ShModel_k0 hS448, o201])) ln201 (pd201 (aR 448) (aI v1)) <| ok_aloadn (pc' := 1) i201_0 rfl rfl <| ok_cc i201_1 rfl (cl_v o201 m9_216 na188 rfl rfl (bt rfl) (bt rfl) rfl (by rw [ShModel_k0 hS448, o188])) ln188 (pd188 (aR 448)) <| ok_aloadn (pc' := 1) i188_0 rfl rfl <| ok_iconst (pc' := 2) i188_1 rfl <| ?_
  refine ok_putfj (kk := 0) (pc' := 5) i188_2 o188 pi188_63 (ShModel_k0 hS448) rfl rfl <| ok_aloadn (pc' := 6) i188_5 rfl rfl <| ok_aloadn (pc' := 7) i188_6 rfl rfl <| ok_getfi (v := 0) (pc' := 10) i188_7 o188 gi9_66 (ShModel_k0 hS448) (rd_ni (by decide) (hld.trans hl)) rfl <| ok_kz0 (pc1 := 17) (pc2 := 13) i188_10 (by decide) rfl rfl <| ok_iconst (pc' := 14) i188_13 rfl <| ok_goto (pc' := 18) i188_14 rfl <| ok_iconst (pc' := 19) i188_18 rfl <| ?_
  refine ok_cc i188_19 rfl (cl_v o188 m9_70 na165 rfl rfl (bt rfl) (bt rfl) rfl (by rw [ShModel_k0 hS448, o165])) ln165 (pd165 (aR 448) (aI 1) (aI 1)) <| ok_aloadn (pc' := 1) i165_0 rfl rfl <| ok_getfi (v := 0) (pc' := 4) i165_1 o165 gi9_63 (ShModel_k0 hS448) rd_eq rfl <| ok_kz0 (pc1 := 16) (pc2 := 7) i165_4 (by decide) rfl rfl <| ok_iloadn (pc' := 8) i165_7 rfl rfl <| ok_kz0 (pc1 := 16) (pc2 := 11) i165_8 (by decide) rfl rfl <| ok_aloadn (pc' := 12) i165_11 rfl rfl <| ok_iloadn (pc' := 13) i165_12 rfl rfl <| ?_
  refine ok_putfj (kk := 0) (pc' := 16) i165_13 o165 pi165_63 (ShModel_k0 hS448) rfl rfl <| ok_aloadn (pc' := 17) i165_16 rfl rfl <| ok_getfi (v := 1) (pc' := 20) i165_17 o165 gi9_63 (ShModel_k0 hS448) rd_eq rfl <| ok_kz0 (pc1 := 27) (pc2 := 23) i165_20 (by decide) rfl rfl <| ok_iconst (pc' := 24) i165_23 rfl <| ok_goto (pc' := 28) i165_24 rfl <| ok_iretz i165_28 rt165 (by decide) <| kt_v (pc' := 22) rfl <| ?_
  refine ok_iretz i188_22 rt188 (by decide) <| kt_v (pc' := 4) rfl <| ok_kz1 (pc1 := 34) (pc2 := 7) i201_4 (by decide) rfl rfl <| ok_iconst (pc' := 35) i201_34 rfl <| ok_goto (pc' := 39) i201_35 rfl <| ok_iretz i201_39 rt201 (by decide) <| kt_v (pc' := 5) rfl <| ok_kz1 (pc1 := 29) (pc2 := 8) i221_5 (by decide) rfl rfl <| ?_
  refine ok_iconst (pc' := 30) i221_29 rfl <| ok_goto (pc' := 34) i221_30 rfl <| ok_iretz i221_34 rt221 (by decide) <| kt_v (pc' := 6) rfl <| ok_kz1 (pc1 := 32) (pc2 := 9) i268_6 (by decide) rfl rfl <| ok_iconst (pc' := 33) i268_32 rfl <| ok_ireti i268_33 rt268 <| kt_v (pc' := 2699) rfl <| ?_
  refine ok_istore (pc' := 2701) (ls' := [aR 1, aR 100, aR 448, aR 464, aR 465, aI i, aI 1, aI 0, w8]) i0_2699 (bt rfl) rfl rfl <| ok_aloadn (pc' := 2702) i0_2701 rfl rfl <| ok_cc i0_2702 rfl (cl_v o0 m13_188 na157 rfl rfl (bt rfl) (bt rfl) rfl (by rw [ShModel_k0 hS448, o157])) ln157 (pd157 (aR 448)) <| ok_aloadn (pc' := 1) i157_0 rfl rfl <| ok_getfi (v := 1) (pc' := 4) i157_1 o157 gi9_63 (ShModel_k0 hS448) rd_eq rfl <| ok_ireti i157_4 rt157 <| kt_v (pc' := 2705) rfl <| ok_iload (pc' := 2707) i0_2705 rfl rfl <| ?_
  refine ok_kc1 (pc1 := 2712) (pc2 := 2710) i0_2707 (by decide) rfl rfl <| ok_iload (pc' := 2714) i0_2712 rfl rfl <| ok_kz1 (pc1 := 2729) (pc2 := 2717) i0_2714 (by decide) rfl rfl <| ok_goto (pc' := 3329) i0_2729 rfl <| ?_
  exact K _ _ _ _ _ _ hD (by omega) (Inv_mono (Inv_same hI (Same.thr (Same.thr Same.rfl))) (by omega))
theorem c46_0 {L n : Nat} {g : AG} {M : AM} {xs : Nat → Int32} {b i : Int} {w6 w7 w8 : AV} {Q : AO → AG → AM → Prop} (hD : HD L n g) (hI : Inv xs b M) (hi : 0 ≤ i ∧ i + 6 ≤ L) (hb : 0 ≤ b ∧ b ≤ 900000) (hl : M 100 6 = 0) (K : KK L n i b xs Q) :
    Ok 10 0 2732 [aR 1, aR 100, aR 448, aR 464, aR 465, aI i, w6, w7, w8] [] g M Q := by
  have hI0 := hI
  obtain ⟨hA, hld, hl01, q, hc, ⟨nx, sz, hH, hsz⟩, hS⟩ := hI0
  have hH0 := hH
  obtain ⟨⟨hn1, hn0⟩, ⟨hz2, hz0⟩, h10, hHj⟩ := hH0
  obtain ⟨hw0, ⟨bu, by_, hb1, hb13, hbu, hZ, hU⟩, he3, he4, he5, hId, tx, hT, hUt, htl, htr⟩ := hA
  obtain ⟨v1, hv1⟩ : ∃ u9 : Int, M 1 (i + 1) = u9 := ⟨_, rfl⟩
  have hr1 : -2147483648 ≤ v1 ∧ v1 < 2147483648 := hv1 ▸ scr_rg hw0 (i + 1)
  have hS1 := HD_s hD
  have hS100 := HD_y hD
  have hS448 := HD_o hD
  have hS464 := HD_u hD
  have hS465 := HD_ud hD
  refine ok_aloadn (pc' := 2733) i0_2732 rfl rfl <| ok_aloadn (pc' := 2734) i0_2733 rfl rfl <| ok_iload (pc' := 2736) i0_2734 rfl rfl <| ok_iconst (pc' := 2737) i0_2736 rfl <| ok_iadd (v := (i + 1)) (pc' := 2738) i0_2737 rfl rfl <| ok_iaload (v := v1) (pc' := 2739) i0_2738 (ShScr_k0 hS1) (by decide) (ShScr_l0 hS1) (by omega) hv1 rfl <| ok_aloadn (pc' := 2740) i0_2739 rfl rfl <| ok_cc i0_2740 rfl (cl_s o0 m13_332 na319 rfl rfl (bt rfl) (bt rfl) rfl) ln319 (pd319 (aR 100) (aI v1) (aR 464)) <| ?_
  refine ok_aloadn (pc' := 1) i319_0 rfl rfl <| ok_iconst (pc' := 2) i319_1 rfl <| ok_aloadn (pc' := 3) i319_2 rfl rfl <| ok_iloadn (pc' := 4) i319_3 rfl rfl <| ok_cc i319_4 rfl (cl_v o319 m13_142 na145 rfl rfl (bt rfl) (bt rfl) rfl (by rw [ShYard_k0 hS100, o145])) ln145 (pd145 (aR 100) (aI v1)) <| ok_aloadn (pc' := 1) i145_0 rfl rfl <| ok_cc i145_1 rfl (cl_v o145 m0_132 na99 rfl rfl (bt rfl) (bt rfl) rfl (by rw [ShYard_k0 hS100, o99])) ln99 (pd99 (aR 100)) <| ok_aloadn (pc' := 1) i99_0 rfl rfl <| ?_
  refine ok_getfi (v := 0) (pc' := 4) i99_1 o99 gi0_268 (ShYard_k0 hS100) hl rfl <| ok_kz0 (pc1 := 18) (pc2 := 7) i99_4 (by decide) rfl rfl <| ok_throw th99_7 (bt rfl) <| kt_x hh145 <| kt_h hn319 hf319_4_12 hr319_12 <| kt_v (pc' := 2743) rfl <| ?_
  refine ok_al hD (fun g hD => ?_)
  have hS448 := HD_o hD
  have hS1 := HD_s hD
  have hS464 := HD_u hD
  have hS465 := HD_ud hD
  refine ok_istore (pc' := 2745) (ls' := [aR 1, aR 100, aR 448, aR 464, aR 465, aI i, aI 1, w7, w8]) i0_2743 (bt rfl) rfl rfl <| ok_aloadn (pc' := 2746) i0_2745 rfl rfl <| ok_aloadn (pc' := 2747) i0_2746 rfl rfl <| ok_iload (pc' := 2749) i0_2747 rfl rfl <| ok_iconst (pc' := 2750) i0_2749 rfl <| ok_iadd (v := (i + 1)) (pc' := 2751) i0_2750 rfl rfl <| ok_iaload (v := v1) (pc' := 2752) i0_2751 (ShScr_k0 hS1) (by decide) (ShScr_l0 hS1) (by omega) hv1 rfl <| ok_cc i0_2752 rfl (cl_v o0 m13_334 na269 rfl rfl (bt rfl) (bt rfl) rfl (by rw [ShModel_k0 hS448, o269])) ln269 (pd269 (aR 448) (aI v1)) <| ?_
  refine ok_aloadn (pc' := 1) i269_0 rfl rfl <| ok_iloadn (pc' := 2) i269_1 rfl rfl <| ok_cc i269_2 rfl (cl_v o269 m9_326 na232 rfl rfl (bt rfl) (bt rfl) rfl (by rw [ShModel_k0 hS448, o232])) ln232 (pd232 (aR 448) (aI v1)) <| ok_aloadn (pc' := 1) i232_0 rfl rfl <| ok_cc i232_1 rfl (cl_v o232 m9_216 na188 rfl rfl (bt rfl) (bt rfl) rfl (by rw [ShModel_k0 hS448, o188])) ln188 (pd188 (aR 448)) <| ok_aloadn (pc' := 1) i188_0 rfl rfl <| ok_iconst (pc' := 2) i188_1 rfl <| ok_putfj (kk := 0) (pc' := 5) i188_2 o188 pi188_63 (ShModel_k0 hS448) rfl rfl <| ?_
  refine ok_aloadn (pc' := 6) i188_5 rfl rfl <| ok_aloadn (pc' := 7) i188_6 rfl rfl <| ok_getfi (v := 0) (pc' := 10) i188_7 o188 gi9_66 (ShModel_k0 hS448) (rd_ni (by decide) (hld.trans hl)) rfl <| ok_kz0 (pc1 := 17) (pc2 := 13) i188_10 (by decide) rfl rfl <| ok_iconst (pc' := 14) i188_13 rfl <| ok_goto (pc' := 18) i188_14 rfl <| ok_iconst (pc' := 19) i188_18 rfl <| ok_cc i188_19 rfl (cl_v o188 m9_70 na165 rfl rfl (bt rfl) (bt rfl) rfl (by rw [ShModel_k0 hS448, o165])) ln165 (pd165 (aR 448) (aI 1) (aI 1)) <| ?_
  refine ok_aloadn (pc' := 1) i165_0 rfl rfl <| ok_getfi (v := 0) (pc' := 4) i165_1 o165 gi9_63 (ShModel_k0 hS448) rd_eq rfl <| ok_kz0 (pc1 := 16) (pc2 := 7) i165_4 (by decide) rfl rfl <| ok_iloadn (pc' := 8) i165_7 rfl rfl <| ok_kz0 (pc1 := 16) (pc2 := 11) i165_8 (by decide) rfl rfl <| ok_aloadn (pc' := 12) i165_11 rfl rfl <| ok_iloadn (pc' := 13) i165_12 rfl rfl <| ok_putfj (kk := 0) (pc' := 16) i165_13 o165 pi165_63 (ShModel_k0 hS448) rfl rfl <| ?_
  refine ok_aloadn (pc' := 17) i165_16 rfl rfl <| ok_getfi (v := 1) (pc' := 20) i165_17 o165 gi9_63 (ShModel_k0 hS448) rd_eq rfl <| ok_kz0 (pc1 := 27) (pc2 := 23) i165_20 (by decide) rfl rfl <| ok_iconst (pc' := 24) i165_23 rfl <| ok_goto (pc' := 28) i165_24 rfl <| ok_iretz i165_28 rt165 (by decide) <| kt_v (pc' := 22) rfl <| ok_iretz i188_22 rt188 (by decide) <| ?_
  refine kt_v (pc' := 4) rfl <| ok_kz1 (pc1 := 29) (pc2 := 7) i232_4 (by decide) rfl rfl <| ok_iconst (pc' := 30) i232_29 rfl <| ok_goto (pc' := 34) i232_30 rfl <| ok_iretz i232_34 rt232 (by decide) <| kt_v (pc' := 5) rfl <| ok_kz0 (pc1 := 10) (pc2 := 8) i269_5 (by decide) rfl rfl <| ok_iconst (pc' := 9) i269_8 rfl <| ?_
  refine ok_ireti i269_9 rt269 <| kt_v (pc' := 2755) rfl <| ok_istore (pc' := 2757) (ls' := [aR 1, aR 100, aR 448, aR 464, aR 465, aI i, aI 1, aI 0, w8]) i0_2755 (bt rfl) rfl rfl <| ok_aloadn (pc' := 2758) i0_2757 rfl rfl <| ok_cc i0_2758 rfl (cl_v o0 m13_188 na157 rfl rfl (bt rfl) (bt rfl) rfl (by rw [ShModel_k0 hS448, o157])) ln157 (pd157 (aR 448)) <| ok_aloadn (pc' := 1) i157_0 rfl rfl <| ok_getfi (v := 1) (pc' := 4) i157_1 o157 gi9_63 (ShModel_k0 hS448) rd_eq rfl <| ok_ireti i157_4 rt157 <| ?_
  refine kt_v (pc' := 2761) rfl <| ok_iload (pc' := 2763) i0_2761 rfl rfl <| ok_kc1 (pc1 := 2768) (pc2 := 2766) i0_2763 (by decide) rfl rfl <| ok_iload (pc' := 2770) i0_2768 rfl rfl <| ok_kz1 (pc1 := 2785) (pc2 := 2773) i0_2770 (by decide) rfl rfl <| ok_goto (pc' := 3329) i0_2785 rfl <| ?_
  exact K _ _ _ _ _ _ hD (by omega) (Inv_mono (Inv_same hI (Same.thr (Same.thr Same.rfl))) (by omega))
theorem c47_0 {L n : Nat} {g : AG} {M : AM} {xs : Nat → Int32} {b i : Int} {w6 w7 w8 : AV} {Q : AO → AG → AM → Prop} (hD : HD L n g) (hI : Inv xs b M) (hi : 0 ≤ i ∧ i + 6 ≤ L) (hb : 0 ≤ b ∧ b ≤ 900000) (hl : M 100 6 = 0) (K : KK L n i b xs Q) :
    Ok 10 0 2788 [aR 1, aR 100, aR 448, aR 464, aR 465, aI i, w6, w7, w8] [] g M Q := by
  have hI0 := hI
  obtain ⟨hA, hld, hl01, q, hc, ⟨nx, sz, hH, hsz⟩, hS⟩ := hI0
  have hH0 := hH
  obtain ⟨⟨hn1, hn0⟩, ⟨hz2, hz0⟩, h10, hHj⟩ := hH0
  obtain ⟨hw0, ⟨bu, by_, hb1, hb13, hbu, hZ, hU⟩, he3, he4, he5, hId, tx, hT, hUt, htl, htr⟩ := hA
  have hS1 := HD_s hD
  have hS100 := HD_y hD
  have hS448 := HD_o hD
  have hS464 := HD_u hD
  have hS465 := HD_ud hD
  refine ok_aloadn (pc' := 2789) i0_2788 rfl rfl <| ok_aloadn (pc' := 2790) i0_2789 rfl rfl <| ok_cc i0_2790 rfl (cl_s o0 m13_335 na320 rfl rfl (bt rfl) (bt rfl) rfl) ln320 (pd320 (aR 100) (aR 464)) <| ok_aloadn (pc' := 1) i320_0 rfl rfl <| ok_iconst (pc' := 2) i320_1 rfl <| ok_aloadn (pc' := 3) i320_2 rfl rfl <| ok_cc i320_3 rfl (cl_v o320 m13_145 na146 rfl rfl (bt rfl) (bt rfl) rfl (by rw [ShYard_k0 hS100, o146])) ln146 (pd146 (aR 100)) <| ok_aloadn (pc' := 1) i146_0 rfl rfl <| ?_
  refine ok_cc i146_1 rfl (cl_v o146 m0_132 na99 rfl rfl (bt rfl) (bt rfl) rfl (by rw [ShYard_k0 hS100, o99])) ln99 (pd99 (aR 100)) <| ok_aloadn (pc' := 1) i99_0 rfl rfl <| ok_getfi (v := 0) (pc' := 4) i99_1 o99 gi0_268 (ShYard_k0 hS100) hl rfl <| ok_kz0 (pc1 := 18) (pc2 := 7) i99_4 (by decide) rfl rfl <| ok_throw th99_7 (bt rfl) <| kt_x hh146 <| kt_h hn320 hf320_3_12 hr320_11 <| kt_v (pc' := 2793) rfl <| ?_
  refine ok_al hD (fun g hD => ?_)
  have hS448 := HD_o hD
  have hS1 := HD_s hD
  have hS464 := HD_u hD
  have hS465 := HD_ud hD
  refine ok_istore (pc' := 2795) (ls' := [aR 1, aR 100, aR 448, aR 464, aR 465, aI i, aI 1, w7, w8]) i0_2793 (bt rfl) rfl rfl <| ok_aloadn (pc' := 2796) i0_2795 rfl rfl <| ok_cc i0_2796 rfl (cl_v o0 m13_337 na270 rfl rfl (bt rfl) (bt rfl) rfl (by rw [ShModel_k0 hS448, o270])) ln270 (pd270 (aR 448)) <| ok_aloadn (pc' := 1) i270_0 rfl rfl <| ok_cc i270_1 rfl (cl_v o270 m9_216 na188 rfl rfl (bt rfl) (bt rfl) rfl (by rw [ShModel_k0 hS448, o188])) ln188 (pd188 (aR 448)) <| ok_aloadn (pc' := 1) i188_0 rfl rfl <| ok_iconst (pc' := 2) i188_1 rfl <| ok_putfj (kk := 0) (pc' := 5) i188_2 o188 pi188_63 (ShModel_k0 hS448) rfl rfl <| ?_
  refine ok_aloadn (pc' := 6) i188_5 rfl rfl <| ok_aloadn (pc' := 7) i188_6 rfl rfl <| ok_getfi (v := 0) (pc' := 10) i188_7 o188 gi9_66 (ShModel_k0 hS448) (rd_ni (by decide) (hld.trans hl)) rfl <| ok_kz0 (pc1 := 17) (pc2 := 13) i188_10 (by decide) rfl rfl <| ok_iconst (pc' := 14) i188_13 rfl <| ok_goto (pc' := 18) i188_14 rfl <| ok_iconst (pc' := 19) i188_18 rfl <| ok_cc i188_19 rfl (cl_v o188 m9_70 na165 rfl rfl (bt rfl) (bt rfl) rfl (by rw [ShModel_k0 hS448, o165])) ln165 (pd165 (aR 448) (aI 1) (aI 1)) <| ?_
  refine ok_aloadn (pc' := 1) i165_0 rfl rfl <| ok_getfi (v := 0) (pc' := 4) i165_1 o165 gi9_63 (ShModel_k0 hS448) rd_eq rfl <| ok_kz0 (pc1 := 16) (pc2 := 7) i165_4 (by decide) rfl rfl <| ok_iloadn (pc' := 8) i165_7 rfl rfl <| ok_kz0 (pc1 := 16) (pc2 := 11) i165_8 (by decide) rfl rfl <| ok_aloadn (pc' := 12) i165_11 rfl rfl <| ok_iloadn (pc' := 13) i165_12 rfl rfl <| ok_putfj (kk := 0) (pc' := 16) i165_13 o165 pi165_63 (ShModel_k0 hS448) rfl rfl <| ?_
  refine ok_aloadn (pc' := 17) i165_16 rfl rfl <| ok_getfi (v := 1) (pc' := 20) i165_17 o165 gi9_63 (ShModel_k0 hS448) rd_eq rfl <| ok_kz0 (pc1 := 27) (pc2 := 23) i165_20 (by decide) rfl rfl <| ok_iconst (pc' := 24) i165_23 rfl <| ok_goto (pc' := 28) i165_24 rfl <| ok_iretz i165_28 rt165 (by decide) <| kt_v (pc' := 22) rfl <| ok_iretz i188_22 rt188 (by decide) <| ?_
  refine kt_v (pc' := 4) rfl <| ok_kz0 (pc1 := 9) (pc2 := 7) i270_4 (by decide) rfl rfl <| ok_iconst (pc' := 8) i270_7 rfl <| ok_ireti i270_8 rt270 <| kt_v (pc' := 2799) rfl <| ok_istore (pc' := 2801) (ls' := [aR 1, aR 100, aR 448, aR 464, aR 465, aI i, aI 1, aI 0, w8]) i0_2799 (bt rfl) rfl rfl <| ok_aloadn (pc' := 2802) i0_2801 rfl rfl <| ok_cc i0_2802 rfl (cl_v o0 m13_188 na157 rfl rfl (bt rfl) (bt rfl) rfl (by rw [ShModel_k0 hS448, o157])) ln157 (pd157 (aR 448)) <| ?_
  refine ok_aloadn (pc' := 1) i157_0 rfl rfl <| ok_getfi (v := 1) (pc' := 4) i157_1 o157 gi9_63 (ShModel_k0 hS448) rd_eq rfl <| ok_ireti i157_4 rt157 <| kt_v (pc' := 2805) rfl <| ok_iload (pc' := 2807) i0_2805 rfl rfl <| ok_kc1 (pc1 := 2812) (pc2 := 2810) i0_2807 (by decide) rfl rfl <| ok_iload (pc' := 2814) i0_2812 rfl rfl <| ok_kz1 (pc1 := 2829) (pc2 := 2817) i0_2814 (by decide) rfl rfl <| ?_
  refine ok_goto (pc' := 3329) i0_2829 rfl <| ?_
  exact K _ _ _ _ _ _ hD (by omega) (Inv_mono (Inv_same hI (Same.thr (Same.thr Same.rfl))) (by omega))
theorem c48_0 {L n : Nat} {g : AG} {M : AM} {xs : Nat → Int32} {b i : Int} {w6 w7 w8 : AV} {Q : AO → AG → AM → Prop} (hD : HD L n g) (hI : Inv xs b M) (hi : 0 ≤ i ∧ i + 6 ≤ L) (hb : 0 ≤ b ∧ b ≤ 900000) (hl : M 100 6 = 0) (K : KK L n i b xs Q) :
    Ok 10 0 2832 [aR 1, aR 100, aR 448, aR 464, aR 465, aI i, w6, w7, w8] [] g M Q := by
  have hI0 := hI
  obtain ⟨hA, hld, hl01, q, hc, ⟨nx, sz, hH, hsz⟩, hS⟩ := hI0
  have hH0 := hH
  obtain ⟨⟨hn1, hn0⟩, ⟨hz2, hz0⟩, h10, hHj⟩ := hH0
  obtain ⟨hw0, ⟨bu, by_, hb1, hb13, hbu, hZ, hU⟩, he3, he4, he5, hId, tx, hT, hUt, htl, htr⟩ := hA
  obtain ⟨v1, hv1⟩ : ∃ u9 : Int, M 1 (i + 1) = u9 := ⟨_, rfl⟩
  have hr1 : -2147483648 ≤ v1 ∧ v1 < 2147483648 := hv1 ▸ scr_rg hw0 (i + 1)
  have hS1 := HD_s hD
  have hS100 := HD_y hD
  have hS448 := HD_o hD
  have hS464 := HD_u hD
  have hS465 := HD_ud hD
  refine ok_aloadn (pc' := 2833) i0_2832 rfl rfl <| ok_aloadn (pc' := 2834) i0_2833 rfl rfl <| ok_iload (pc' := 2836) i0_2834 rfl rfl <| ok_iconst (pc' := 2837) i0_2836 rfl <| ok_iadd (v := (i + 1)) (pc' := 2838) i0_2837 rfl rfl <| ok_iaload (v := v1) (pc' := 2839) i0_2838 (ShScr_k0 hS1) (by decide) (ShScr_l0 hS1) (by omega) hv1 rfl <| ok_aloadn (pc' := 2840) i0_2839 rfl rfl <| ok_cc i0_2840 rfl (cl_s o0 m13_338 na321 rfl rfl (bt rfl) (bt rfl) rfl) ln321 (pd321 (aR 100) (aI v1) (aR 464)) <| ?_
  refine ok_aloadn (pc' := 1) i321_0 rfl rfl <| ok_iconst (pc' := 2) i321_1 rfl <| ok_aloadn (pc' := 3) i321_2 rfl rfl <| ok_iloadn (pc' := 4) i321_3 rfl rfl <| ok_cc i321_4 rfl (cl_v o321 m13_148 na147 rfl rfl (bt rfl) (bt rfl) rfl (by rw [ShYard_k0 hS100, o147])) ln147 (pd147 (aR 100) (aI v1)) <| ok_aloadn (pc' := 1) i147_0 rfl rfl <| ok_cc i147_1 rfl (cl_v o147 m0_132 na99 rfl rfl (bt rfl) (bt rfl) rfl (by rw [ShYard_k0 hS100, o99])) ln99 (pd99 (aR 100)) <| ok_aloadn (pc' := 1) i99_0 rfl rfl <| ?_
  refine ok_getfi (v := 0) (pc' := 4) i99_1 o99 gi0_268 (ShYard_k0 hS100) hl rfl <| ok_kz0 (pc1 := 18) (pc2 := 7) i99_4 (by decide) rfl rfl <| ok_throw th99_7 (bt rfl) <| kt_x hh147 <| kt_h hn321 hf321_4_12 hr321_12 <| kt_v (pc' := 2843) rfl <| ?_
  refine ok_al hD (fun g hD => ?_)
  have hS448 := HD_o hD
  have hS1 := HD_s hD
  have hS464 := HD_u hD
  have hS465 := HD_ud hD
  refine ok_istore (pc' := 2845) (ls' := [aR 1, aR 100, aR 448, aR 464, aR 465, aI i, aI 1, w7, w8]) i0_2843 (bt rfl) rfl rfl <| ok_aloadn (pc' := 2846) i0_2845 rfl rfl <| ok_aloadn (pc' := 2847) i0_2846 rfl rfl <| ok_iload (pc' := 2849) i0_2847 rfl rfl <| ok_iconst (pc' := 2850) i0_2849 rfl <| ok_iadd (v := (i + 1)) (pc' := 2851) i0_2850 rfl rfl <| ok_iaload (v := v1) (pc' := 2852) i0_2851 (ShScr_k0 hS1) (by decide) (ShScr_l0 hS1) (by omega) hv1 rfl <| ok_cc i0_2852 rfl (cl_v o0 m13_340 na271 rfl rfl (bt rfl) (bt rfl) rfl (by rw [ShModel_k0 hS448, o271])) ln271 (pd271 (aR 448) (aI v1)) <| ?_
  refine ok_aloadn (pc' := 1) i271_0 rfl rfl <| ok_iloadn (pc' := 2) i271_1 rfl rfl <| ok_cc i271_2 rfl (cl_v o271 m9_238 na194 rfl rfl (bt rfl) (bt rfl) rfl (by rw [ShModel_k0 hS448, o194])) ln194 (pd194 (aR 448) (aI v1)) <| ok_aloadn (pc' := 1) i194_0 rfl rfl <| ok_cc i194_1 rfl (cl_v o194 m9_216 na188 rfl rfl (bt rfl) (bt rfl) rfl (by rw [ShModel_k0 hS448, o188])) ln188 (pd188 (aR 448)) <| ok_aloadn (pc' := 1) i188_0 rfl rfl <| ok_iconst (pc' := 2) i188_1 rfl <| ok_putfj (kk := 0) (pc' := 5) i188_2 o188 pi188_63 (ShModel_k0 hS448) rfl rfl <| ?_
  refine ok_aloadn (pc' := 6) i188_5 rfl rfl <| ok_aloadn (pc' := 7) i188_6 rfl rfl <| ok_getfi (v := 0) (pc' := 10) i188_7 o188 gi9_66 (ShModel_k0 hS448) (rd_ni (by decide) (hld.trans hl)) rfl <| ok_kz0 (pc1 := 17) (pc2 := 13) i188_10 (by decide) rfl rfl <| ok_iconst (pc' := 14) i188_13 rfl <| ok_goto (pc' := 18) i188_14 rfl <| ok_iconst (pc' := 19) i188_18 rfl <| ok_cc i188_19 rfl (cl_v o188 m9_70 na165 rfl rfl (bt rfl) (bt rfl) rfl (by rw [ShModel_k0 hS448, o165])) ln165 (pd165 (aR 448) (aI 1) (aI 1)) <| ?_
  refine ok_aloadn (pc' := 1) i165_0 rfl rfl <| ok_getfi (v := 0) (pc' := 4) i165_1 o165 gi9_63 (ShModel_k0 hS448) rd_eq rfl <| ok_kz0 (pc1 := 16) (pc2 := 7) i165_4 (by decide) rfl rfl <| ok_iloadn (pc' := 8) i165_7 rfl rfl <| ok_kz0 (pc1 := 16) (pc2 := 11) i165_8 (by decide) rfl rfl <| ok_aloadn (pc' := 12) i165_11 rfl rfl <| ok_iloadn (pc' := 13) i165_12 rfl rfl <| ok_putfj (kk := 0) (pc' := 16) i165_13 o165 pi165_63 (ShModel_k0 hS448) rfl rfl <| ?_
  refine ok_aloadn (pc' := 17) i165_16 rfl rfl <| ok_getfi (v := 1) (pc' := 20) i165_17 o165 gi9_63 (ShModel_k0 hS448) rd_eq rfl <| ok_kz0 (pc1 := 27) (pc2 := 23) i165_20 (by decide) rfl rfl <| ok_iconst (pc' := 24) i165_23 rfl <| ok_goto (pc' := 28) i165_24 rfl <| ok_iretz i165_28 rt165 (by decide) <| kt_v (pc' := 22) rfl <| ok_iretz i188_22 rt188 (by decide) <| ?_
  refine kt_v (pc' := 4) rfl <| ok_kz1 (pc1 := 34) (pc2 := 7) i194_4 (by decide) rfl rfl <| ok_iconst (pc' := 35) i194_34 rfl <| ok_goto (pc' := 39) i194_35 rfl <| ok_iretz i194_39 rt194 (by decide) <| kt_v (pc' := 5) rfl <| ok_kz1 (pc1 := 32) (pc2 := 8) i271_5 (by decide) rfl rfl <| ok_iconst (pc' := 33) i271_32 rfl <| ?_
  refine ok_ireti i271_33 rt271 <| kt_v (pc' := 2855) rfl <| ok_istore (pc' := 2857) (ls' := [aR 1, aR 100, aR 448, aR 464, aR 465, aI i, aI 1, aI 0, w8]) i0_2855 (bt rfl) rfl rfl <| ok_aloadn (pc' := 2858) i0_2857 rfl rfl <| ok_cc i0_2858 rfl (cl_v o0 m13_188 na157 rfl rfl (bt rfl) (bt rfl) rfl (by rw [ShModel_k0 hS448, o157])) ln157 (pd157 (aR 448)) <| ok_aloadn (pc' := 1) i157_0 rfl rfl <| ok_getfi (v := 1) (pc' := 4) i157_1 o157 gi9_63 (ShModel_k0 hS448) rd_eq rfl <| ok_ireti i157_4 rt157 <| ?_
  refine kt_v (pc' := 2861) rfl <| ok_iload (pc' := 2863) i0_2861 rfl rfl <| ok_kc1 (pc1 := 2868) (pc2 := 2866) i0_2863 (by decide) rfl rfl <| ok_iload (pc' := 2870) i0_2868 rfl rfl <| ok_kz1 (pc1 := 2885) (pc2 := 2873) i0_2870 (by decide) rfl rfl <| ok_goto (pc' := 3329) i0_2885 rfl <| ?_
  exact K _ _ _ _ _ _ hD (by omega) (Inv_mono (Inv_same hI (Same.thr (Same.thr Same.rfl))) (by omega))
theorem c49_0 {L n : Nat} {g : AG} {M : AM} {xs : Nat → Int32} {b i : Int} {w6 w7 w8 : AV} {Q : AO → AG → AM → Prop} (hD : HD L n g) (hI : Inv xs b M) (hi : 0 ≤ i ∧ i + 6 ≤ L) (hb : 0 ≤ b ∧ b ≤ 900000) (hl : M 100 6 = 0) (K : KK L n i b xs Q) :
    Ok 10 0 2888 [aR 1, aR 100, aR 448, aR 464, aR 465, aI i, w6, w7, w8] [] g M Q := by
  have hI0 := hI
  obtain ⟨hA, hld, hl01, q, hc, ⟨nx, sz, hH, hsz⟩, hS⟩ := hI0
  have hH0 := hH
  obtain ⟨⟨hn1, hn0⟩, ⟨hz2, hz0⟩, h10, hHj⟩ := hH0
  obtain ⟨hw0, ⟨bu, by_, hb1, hb13, hbu, hZ, hU⟩, he3, he4, he5, hId, tx, hT, hUt, htl, htr⟩ := hA
  obtain ⟨v1, hv1⟩ : ∃ u9 : Int, M 1 (i + 1) = u9 := ⟨_, rfl⟩
  have hr1 : -2147483648 ≤ v1 ∧ v1 < 2147483648 := hv1 ▸ scr_rg hw0 (i + 1)
  obtain ⟨v2, hv2⟩ : ∃ u9 : Int, M 1 (i + 2) = u9 := ⟨_, rfl⟩
  have hr2 : -2147483648 ≤ v2 ∧ v2 < 2147483648 := hv2 ▸ scr_rg hw0 (i + 2)
  obtain ⟨v3, hv3⟩ : ∃ u9 : Int, M 1 (i + 3) = u9 := ⟨_, rfl⟩
  have hr3 : -2147483648 ≤ v3 ∧ v3 < 2147483648 := hv3 ▸ scr_rg hw0 (i + 3)
  obtain ⟨v4, hv4⟩ : ∃ u9 : Int, M 1 (i + 4) = u9 := ⟨_, rfl⟩
  have hr4 : -2147483648 ≤ v4 ∧ v4 < 2147483648 := hv4 ▸ scr_rg hw0 (i + 4)
  have hS1 := HD_s hD
  have hS100 := HD_y hD
  have hS448 := HD_o hD
  have hS464 := HD_u hD
  have hS465 := HD_ud hD
  refine ok_aloadn (pc' := 2889) i0_2888 rfl rfl <| ok_aloadn (pc' := 2890) i0_2889 rfl rfl <| ok_iload (pc' := 2892) i0_2890 rfl rfl <| ok_iconst (pc' := 2893) i0_2892 rfl <| ok_iadd (v := (i + 1)) (pc' := 2894) i0_2893 rfl rfl <| ok_iaload (v := v1) (pc' := 2895) i0_2894 (ShScr_k0 hS1) (by decide) (ShScr_l0 hS1) (by omega) hv1 rfl <| ok_aloadn (pc' := 2896) i0_2895 rfl rfl <| ok_iload (pc' := 2898) i0_2896 rfl rfl <| ?_
  refine ok_iconst (pc' := 2899) i0_2898 rfl <| ok_iadd (v := (i + 2)) (pc' := 2900) i0_2899 rfl rfl <| ok_iaload (v := v2) (pc' := 2901) i0_2900 (ShScr_k0 hS1) (by decide) (ShScr_l0 hS1) (by omega) hv2 rfl <| ok_aloadn (pc' := 2902) i0_2901 rfl rfl <| ok_iload (pc' := 2904) i0_2902 rfl rfl <| ok_iconst (pc' := 2905) i0_2904 rfl <| ok_iadd (v := (i + 3)) (pc' := 2906) i0_2905 rfl rfl <| ok_iaload (v := v3) (pc' := 2907) i0_2906 (ShScr_k0 hS1) (by decide) (ShScr_l0 hS1) (by omega) hv3 rfl <| ?_
  refine ok_aloadn (pc' := 2908) i0_2907 rfl rfl <| ok_iload (pc' := 2910) i0_2908 rfl rfl <| ok_iconst (pc' := 2911) i0_2910 rfl <| ok_iadd (v := (i + 4)) (pc' := 2912) i0_2911 rfl rfl <| ok_iaload (v := v4) (pc' := 2913) i0_2912 (ShScr_k0 hS1) (by decide) (ShScr_l0 hS1) (by omega) hv4 rfl <| ok_aloadn (pc' := 2914) i0_2913 rfl rfl <| ok_cc i0_2914 rfl (cl_s o0 m13_341 na322 rfl rfl (bt rfl) (bt rfl) rfl) ln322 (pd322 (aR 100) (aI v1) (aI v2) (aI v3) (aI v4) (aR 464)) <| ok_aload (pc' := 2) i322_0 rfl rfl <| ?_
  refine ok_iconst (pc' := 3) i322_2 rfl <| ok_aloadn (pc' := 4) i322_3 rfl rfl <| ok_iloadn (pc' := 5) i322_4 rfl rfl <| ok_iloadn (pc' := 6) i322_5 rfl rfl <| ok_iloadn (pc' := 7) i322_6 rfl rfl <| ok_iload (pc' := 9) i322_7 rfl rfl <| ok_cc i322_9 rfl (cl_v o322 m13_151 na148 rfl rfl (bt rfl) (bt rfl) rfl (by rw [ShYard_k0 hS100, o148])) ln148 (pd148 (aR 100) (aI v1) (aI v2) (aI v3) (aI v4)) <| ok_aloadn (pc' := 1) i148_0 rfl rfl <| ?_
  refine ok_cc i148_1 rfl (cl_v o148 m0_132 na99 rfl rfl (bt rfl) (bt rfl) rfl (by rw [ShYard_k0 hS100, o99])) ln99 (pd99 (aR 100)) <| ok_aloadn (pc' := 1) i99_0 rfl rfl <| ok_getfi (v := 0) (pc' := 4) i99_1 o99 gi0_268 (ShYard_k0 hS100) hl rfl <| ok_kz0 (pc1 := 18) (pc2 := 7) i99_4 (by decide) rfl rfl <| ok_throw th99_7 (bt rfl) <| kt_x hh148 <| kt_h hn322 hf322_9_12 hr322_17 <| kt_v (pc' := 2917) rfl <| ?_
  refine ok_al hD (fun g hD => ?_)
  have hS448 := HD_o hD
  have hS1 := HD_s hD
  have hS464 := HD_u hD
  have hS465 := HD_ud hD
  refine ok_istore (pc' := 2919) (ls' := [aR 1, aR 100, aR 448, aR 464, aR 465, aI i, aI 1, w7, w8]) i0_2917 (bt rfl) rfl rfl <| ok_aloadn (pc' := 2920) i0_2919 rfl rfl <| ok_aloadn (pc' := 2921) i0_2920 rfl rfl <| ok_iload (pc' := 2923) i0_2921 rfl rfl <| ok_iconst (pc' := 2924) i0_2923 rfl <| ok_iadd (v := (i + 1)) (pc' := 2925) i0_2924 rfl rfl <| ok_iaload (v := v1) (pc' := 2926) i0_2925 (ShScr_k0 hS1) (by decide) (ShScr_l0 hS1) (by omega) hv1 rfl <| ok_aloadn (pc' := 2927) i0_2926 rfl rfl <| ?_
  refine ok_iload (pc' := 2929) i0_2927 rfl rfl <| ok_iconst (pc' := 2930) i0_2929 rfl <| ok_iadd (v := (i + 2)) (pc' := 2931) i0_2930 rfl rfl <| ok_iaload (v := v2) (pc' := 2932) i0_2931 (ShScr_k0 hS1) (by decide) (ShScr_l0 hS1) (by omega) hv2 rfl <| ok_aloadn (pc' := 2933) i0_2932 rfl rfl <| ok_iload (pc' := 2935) i0_2933 rfl rfl <| ok_iconst (pc' := 2936) i0_2935 rfl <| ok_iadd (v := (i + 3)) (pc' := 2937) i0_2936 rfl rfl <| ?_
  refine ok_iaload (v := v3) (pc' := 2938) i0_2937 (ShScr_k0 hS1) (by decide) (ShScr_l0 hS1) (by omega) hv3 rfl <| ok_aloadn (pc' := 2939) i0_2938 rfl rfl <| ok_iload (pc' := 2941) i0_2939 rfl rfl <| ok_iconst (pc' := 2942) i0_2941 rfl <| ok_iadd (v := (i + 4)) (pc' := 2943) i0_2942 rfl rfl <| ok_iaload (v := v4) (pc' := 2944) i0_2943 (ShScr_k0 hS1) (by decide) (ShScr_l0 hS1) (by omega) hv4 rfl <| ok_cc i0_2944 rfl (cl_v o0 m13_344 na272 rfl rfl (bt rfl) (bt rfl) rfl (by rw [ShModel_k0 hS448, o272])) ln272 (pd272 (aR 448) (aI v1) (aI v2) (aI v3) (aI v4)) <| ok_iloadn (pc' := 1) i272_0 rfl rfl <| ?_
  refine ok_iconst (pc' := 2) i272_1 rfl <| ok_sipush (v := 200) (pc' := 5) i272_2 rfl rfl <| ok_cc i272_5 rfl (cl_s o272 m9_140 na164 rfl rfl (bt rfl) (bt rfl) rfl) ln164 (pd164 (aI v1) (aI 1) (aI 200)) <| ok_iloadn (pc' := 1) i164_0 rfl rfl <| ok_iloadn (pc' := 2) i164_1 rfl rfl <| ?_
  refine ok_clt (pc1 := 14) (pc2 := 5) i164_2 (by omega) rfl rfl (fun h501 => ?_) (fun h501 => ?_)
  · refine ok_iconst (pc' := 15) i164_14 rfl <| ok_iretz i164_15 rt164 (by decide) <| kt_v (pc' := 8) rfl <| ok_kz1 (pc1 := 47) (pc2 := 11) i272_8 (by decide) rfl rfl <| ok_iconst (pc' := 48) i272_47 rfl <| ok_istore (pc' := 50) (ls' := [aR 448, aI v1, aI v2, aI v3, aI v4, aI 0, aU]) i272_48 (bt rfl) rfl rfl <| ok_aloadn (pc' := 51) i272_50 rfl rfl <| ok_cc i272_51 rfl (cl_v o272 m9_216 na188 rfl rfl (bt rfl) (bt rfl) rfl (by rw [ShModel_k0 hS448, o188])) ln188 (pd188 (aR 448)) <| ?_
    refine ok_aloadn (pc' := 1) i188_0 rfl rfl <| ok_iconst (pc' := 2) i188_1 rfl <| ok_putfj (kk := 0) (pc' := 5) i188_2 o188 pi188_63 (ShModel_k0 hS448) rfl rfl <| ok_aloadn (pc' := 6) i188_5 rfl rfl <| ok_aloadn (pc' := 7) i188_6 rfl rfl <| ok_getfi (v := 0) (pc' := 10) i188_7 o188 gi9_66 (ShModel_k0 hS448) (rd_ni (by decide) (hld.trans hl)) rfl <| ok_kz0 (pc1 := 17) (pc2 := 13) i188_10 (by decide) rfl rfl <| ok_iconst (pc' := 14) i188_13 rfl <| ?_
    refine ok_goto (pc' := 18) i188_14 rfl <| ok_iconst (pc' := 19) i188_18 rfl <| ok_cc i188_19 rfl (cl_v o188 m9_70 na165 rfl rfl (bt rfl) (bt rfl) rfl (by rw [ShModel_k0 hS448, o165])) ln165 (pd165 (aR 448) (aI 1) (aI 1)) <| ok_aloadn (pc' := 1) i165_0 rfl rfl <| ok_getfi (v := 0) (pc' := 4) i165_1 o165 gi9_63 (ShModel_k0 hS448) rd_eq rfl <| ok_kz0 (pc1 := 16) (pc2 := 7) i165_4 (by decide) rfl rfl <| ok_iloadn (pc' := 8) i165_7 rfl rfl <| ok_kz0 (pc1 := 16) (pc2 := 11) i165_8 (by decide) rfl rfl <| ?_
    refine ok_aloadn (pc' := 12) i165_11 rfl rfl <| ok_iloadn (pc' := 13) i165_12 rfl rfl <| ok_putfj (kk := 0) (pc' := 16) i165_13 o165 pi165_63 (ShModel_k0 hS448) rfl rfl <| ok_aloadn (pc' := 17) i165_16 rfl rfl <| ok_getfi (v := 1) (pc' := 20) i165_17 o165 gi9_63 (ShModel_k0 hS448) rd_eq rfl <| ok_kz0 (pc1 := 27) (pc2 := 23) i165_20 (by decide) rfl rfl <| ok_iconst (pc' := 24) i165_23 rfl <| ok_goto (pc' := 28) i165_24 rfl <| ?_
    refine ok_iretz i165_28 rt165 (by decide) <| kt_v (pc' := 22) rfl <| ok_iretz i188_22 rt188 (by decide) <| kt_v (pc' := 54) rfl <| ok_kz1 (pc1 := 86) (pc2 := 57) i272_54 (by decide) rfl rfl <| ok_iconst (pc' := 87) i272_86 rfl <| ok_ireti i272_87 rt272 <| kt_v (pc' := 2947) rfl <| ?_
    refine ok_istore (pc' := 2949) (ls' := [aR 1, aR 100, aR 448, aR 464, aR 465, aI i, aI 1, aI 0, w8]) i0_2947 (bt rfl) rfl rfl <| ok_aloadn (pc' := 2950) i0_2949 rfl rfl <| ok_cc i0_2950 rfl (cl_v o0 m13_188 na157 rfl rfl (bt rfl) (bt rfl) rfl (by rw [ShModel_k0 hS448, o157])) ln157 (pd157 (aR 448)) <| ok_aloadn (pc' := 1) i157_0 rfl rfl <| ok_getfi (v := 1) (pc' := 4) i157_1 o157 gi9_63 (ShModel_k0 hS448) rd_eq rfl <| ok_ireti i157_4 rt157 <| kt_v (pc' := 2953) rfl <| ok_iload (pc' := 2955) i0_2953 rfl rfl <| ?_
    refine ok_kc1 (pc1 := 2960) (pc2 := 2958) i0_2955 (by decide) rfl rfl <| ok_iload (pc' := 2962) i0_2960 rfl rfl <| ok_kz1 (pc1 := 2977) (pc2 := 2965) i0_2962 (by decide) rfl rfl <| ok_goto (pc' := 3329) i0_2977 rfl <| ?_
    exact K _ _ _ _ _ _ hD (by omega) (Inv_mono (Inv_same hI (Same.thr (Same.thr Same.rfl))) (by omega))
  · refine ok_iloadn (pc' := 6) i164_5 rfl rfl <| ok_iloadn (pc' := 7) i164_6 rfl rfl <| ?_
    refine ok_cgt (pc1 := 14) (pc2 := 10) i164_7 (by omega) rfl rfl (fun h502 => ?_) (fun h502 => ?_)
    · refine ok_iconst (pc' := 15) i164_14 rfl <| ok_iretz i164_15 rt164 (by decide) <| kt_v (pc' := 8) rfl <| ok_kz1 (pc1 := 47) (pc2 := 11) i272_8 (by decide) rfl rfl <| ok_iconst (pc' := 48) i272_47 rfl <| ok_istore (pc' := 50) (ls' := [aR 448, aI v1, aI v2, aI v3, aI v4, aI 0, aU]) i272_48 (bt rfl) rfl rfl <| ok_aloadn (pc' := 51) i272_50 rfl rfl <| ok_cc i272_51 rfl (cl_v o272 m9_216 na188 rfl rfl (bt rfl) (bt rfl) rfl (by rw [ShModel_k0 hS448, o188])) ln188 (pd188 (aR 448)) <| ?_
      refine ok_aloadn (pc' := 1) i188_0 rfl rfl <| ok_iconst (pc' := 2) i188_1 rfl <| ok_putfj (kk := 0) (pc' := 5) i188_2 o188 pi188_63 (ShModel_k0 hS448) rfl rfl <| ok_aloadn (pc' := 6) i188_5 rfl rfl <| ok_aloadn (pc' := 7) i188_6 rfl rfl <| ok_getfi (v := 0) (pc' := 10) i188_7 o188 gi9_66 (ShModel_k0 hS448) (rd_ni (by decide) (hld.trans hl)) rfl <| ok_kz0 (pc1 := 17) (pc2 := 13) i188_10 (by decide) rfl rfl <| ok_iconst (pc' := 14) i188_13 rfl <| ?_
      refine ok_goto (pc' := 18) i188_14 rfl <| ok_iconst (pc' := 19) i188_18 rfl <| ok_cc i188_19 rfl (cl_v o188 m9_70 na165 rfl rfl (bt rfl) (bt rfl) rfl (by rw [ShModel_k0 hS448, o165])) ln165 (pd165 (aR 448) (aI 1) (aI 1)) <| ok_aloadn (pc' := 1) i165_0 rfl rfl <| ok_getfi (v := 0) (pc' := 4) i165_1 o165 gi9_63 (ShModel_k0 hS448) rd_eq rfl <| ok_kz0 (pc1 := 16) (pc2 := 7) i165_4 (by decide) rfl rfl <| ok_iloadn (pc' := 8) i165_7 rfl rfl <| ok_kz0 (pc1 := 16) (pc2 := 11) i165_8 (by decide) rfl rfl <| ?_
      refine ok_aloadn (pc' := 12) i165_11 rfl rfl <| ok_iloadn (pc' := 13) i165_12 rfl rfl <| ok_putfj (kk := 0) (pc' := 16) i165_13 o165 pi165_63 (ShModel_k0 hS448) rfl rfl <| ok_aloadn (pc' := 17) i165_16 rfl rfl <| ok_getfi (v := 1) (pc' := 20) i165_17 o165 gi9_63 (ShModel_k0 hS448) rd_eq rfl <| ok_kz0 (pc1 := 27) (pc2 := 23) i165_20 (by decide) rfl rfl <| ok_iconst (pc' := 24) i165_23 rfl <| ok_goto (pc' := 28) i165_24 rfl <| ?_
      refine ok_iretz i165_28 rt165 (by decide) <| kt_v (pc' := 22) rfl <| ok_iretz i188_22 rt188 (by decide) <| kt_v (pc' := 54) rfl <| ok_kz1 (pc1 := 86) (pc2 := 57) i272_54 (by decide) rfl rfl <| ok_iconst (pc' := 87) i272_86 rfl <| ok_ireti i272_87 rt272 <| kt_v (pc' := 2947) rfl <| ?_
      refine ok_istore (pc' := 2949) (ls' := [aR 1, aR 100, aR 448, aR 464, aR 465, aI i, aI 1, aI 0, w8]) i0_2947 (bt rfl) rfl rfl <| ok_aloadn (pc' := 2950) i0_2949 rfl rfl <| ok_cc i0_2950 rfl (cl_v o0 m13_188 na157 rfl rfl (bt rfl) (bt rfl) rfl (by rw [ShModel_k0 hS448, o157])) ln157 (pd157 (aR 448)) <| ok_aloadn (pc' := 1) i157_0 rfl rfl <| ok_getfi (v := 1) (pc' := 4) i157_1 o157 gi9_63 (ShModel_k0 hS448) rd_eq rfl <| ok_ireti i157_4 rt157 <| kt_v (pc' := 2953) rfl <| ok_iload (pc' := 2955) i0_2953 rfl rfl <| ?_
      refine ok_kc1 (pc1 := 2960) (pc2 := 2958) i0_2955 (by decide) rfl rfl <| ok_iload (pc' := 2962) i0_2960 rfl rfl <| ok_kz1 (pc1 := 2977) (pc2 := 2965) i0_2962 (by decide) rfl rfl <| ok_goto (pc' := 3329) i0_2977 rfl <| ?_
      exact K _ _ _ _ _ _ hD (by omega) (Inv_mono (Inv_same hI (Same.thr (Same.thr Same.rfl))) (by omega))
    · refine ok_iconst (pc' := 11) i164_10 rfl <| ok_goto (pc' := 15) i164_11 rfl <| ok_iretz i164_15 rt164 (by decide) <| kt_v (pc' := 8) rfl <| ok_kz0 (pc1 := 47) (pc2 := 11) i272_8 (by decide) rfl rfl <| ok_iloadn (pc' := 12) i272_11 rfl rfl <| ok_iconst (pc' := 13) i272_12 rfl <| ok_bipush (v := 9) (pc' := 15) i272_13 rfl rfl <| ?_
      refine ok_cc i272_15 rfl (cl_s o272 m9_140 na164 rfl rfl (bt rfl) (bt rfl) rfl) ln164 (pd164 (aI v2) (aI 1) (aI 9)) <| ok_iloadn (pc' := 1) i164_0 rfl rfl <| ok_iloadn (pc' := 2) i164_1 rfl rfl <| ?_
      refine ok_clt (pc1 := 14) (pc2 := 5) i164_2 (by omega) rfl rfl (fun h503 => ?_) (fun h503 => ?_)
      · refine ok_iconst (pc' := 15) i164_14 rfl <| ok_iretz i164_15 rt164 (by decide) <| kt_v (pc' := 18) rfl <| ok_kz1 (pc1 := 47) (pc2 := 21) i272_18 (by decide) rfl rfl <| ok_iconst (pc' := 48) i272_47 rfl <| ok_istore (pc' := 50) (ls' := [aR 448, aI v1, aI v2, aI v3, aI v4, aI 0, aU]) i272_48 (bt rfl) rfl rfl <| ok_aloadn (pc' := 51) i272_50 rfl rfl <| ok_cc i272_51 rfl (cl_v o272 m9_216 na188 rfl rfl (bt rfl) (bt rfl) rfl (by rw [ShModel_k0 hS448, o188])) ln188 (pd188 (aR 448)) <| ?_
        refine ok_aloadn (pc' := 1) i188_0 rfl rfl <| ok_iconst (pc' := 2) i188_1 rfl <| ok_putfj (kk := 0) (pc' := 5) i188_2 o188 pi188_63 (ShModel_k0 hS448) rfl rfl <| ok_aloadn (pc' := 6) i188_5 rfl rfl <| ok_aloadn (pc' := 7) i188_6 rfl rfl <| ok_getfi (v := 0) (pc' := 10) i188_7 o188 gi9_66 (ShModel_k0 hS448) (rd_ni (by decide) (hld.trans hl)) rfl <| ok_kz0 (pc1 := 17) (pc2 := 13) i188_10 (by decide) rfl rfl <| ok_iconst (pc' := 14) i188_13 rfl <| ?_
        refine ok_goto (pc' := 18) i188_14 rfl <| ok_iconst (pc' := 19) i188_18 rfl <| ok_cc i188_19 rfl (cl_v o188 m9_70 na165 rfl rfl (bt rfl) (bt rfl) rfl (by rw [ShModel_k0 hS448, o165])) ln165 (pd165 (aR 448) (aI 1) (aI 1)) <| ok_aloadn (pc' := 1) i165_0 rfl rfl <| ok_getfi (v := 0) (pc' := 4) i165_1 o165 gi9_63 (ShModel_k0 hS448) rd_eq rfl <| ok_kz0 (pc1 := 16) (pc2 := 7) i165_4 (by decide) rfl rfl <| ok_iloadn (pc' := 8) i165_7 rfl rfl <| ok_kz0 (pc1 := 16) (pc2 := 11) i165_8 (by decide) rfl rfl <| ?_
        refine ok_aloadn (pc' := 12) i165_11 rfl rfl <| ok_iloadn (pc' := 13) i165_12 rfl rfl <| ok_putfj (kk := 0) (pc' := 16) i165_13 o165 pi165_63 (ShModel_k0 hS448) rfl rfl <| ok_aloadn (pc' := 17) i165_16 rfl rfl <| ok_getfi (v := 1) (pc' := 20) i165_17 o165 gi9_63 (ShModel_k0 hS448) rd_eq rfl <| ok_kz0 (pc1 := 27) (pc2 := 23) i165_20 (by decide) rfl rfl <| ok_iconst (pc' := 24) i165_23 rfl <| ok_goto (pc' := 28) i165_24 rfl <| ?_
        refine ok_iretz i165_28 rt165 (by decide) <| kt_v (pc' := 22) rfl <| ok_iretz i188_22 rt188 (by decide) <| kt_v (pc' := 54) rfl <| ok_kz1 (pc1 := 86) (pc2 := 57) i272_54 (by decide) rfl rfl <| ok_iconst (pc' := 87) i272_86 rfl <| ok_ireti i272_87 rt272 <| kt_v (pc' := 2947) rfl <| ?_
        refine ok_istore (pc' := 2949) (ls' := [aR 1, aR 100, aR 448, aR 464, aR 465, aI i, aI 1, aI 0, w8]) i0_2947 (bt rfl) rfl rfl <| ok_aloadn (pc' := 2950) i0_2949 rfl rfl <| ok_cc i0_2950 rfl (cl_v o0 m13_188 na157 rfl rfl (bt rfl) (bt rfl) rfl (by rw [ShModel_k0 hS448, o157])) ln157 (pd157 (aR 448)) <| ok_aloadn (pc' := 1) i157_0 rfl rfl <| ok_getfi (v := 1) (pc' := 4) i157_1 o157 gi9_63 (ShModel_k0 hS448) rd_eq rfl <| ok_ireti i157_4 rt157 <| kt_v (pc' := 2953) rfl <| ok_iload (pc' := 2955) i0_2953 rfl rfl <| ?_
        refine ok_kc1 (pc1 := 2960) (pc2 := 2958) i0_2955 (by decide) rfl rfl <| ok_iload (pc' := 2962) i0_2960 rfl rfl <| ok_kz1 (pc1 := 2977) (pc2 := 2965) i0_2962 (by decide) rfl rfl <| ok_goto (pc' := 3329) i0_2977 rfl <| ?_
        exact K _ _ _ _ _ _ hD (by omega) (Inv_mono (Inv_same hI (Same.thr (Same.thr Same.rfl))) (by omega))
      · refine ok_iloadn (pc' := 6) i164_5 rfl rfl <| ok_iloadn (pc' := 7) i164_6 rfl rfl <| ?_
        refine ok_cgt (pc1 := 14) (pc2 := 10) i164_7 (by omega) rfl rfl (fun h504 => ?_) (fun h504 => ?_)
        · refine ok_iconst (pc' := 15) i164_14 rfl <| ok_iretz i164_15 rt164 (by decide) <| kt_v (pc' := 18) rfl <| ok_kz1 (pc1 := 47) (pc2 := 21) i272_18 (by decide) rfl rfl <| ok_iconst (pc' := 48) i272_47 rfl <| ok_istore (pc' := 50) (ls' := [aR 448, aI v1, aI v2, aI v3, aI v4, aI 0, aU]) i272_48 (bt rfl) rfl rfl <| ok_aloadn (pc' := 51) i272_50 rfl rfl <| ok_cc i272_51 rfl (cl_v o272 m9_216 na188 rfl rfl (bt rfl) (bt rfl) rfl (by rw [ShModel_k0 hS448, o188])) ln188 (pd188 (aR 448)) <| ?_
          refine ok_aloadn (pc' := 1) i188_0 rfl rfl <| ok_iconst (pc' := 2) i188_1 rfl <| ok_putfj (kk := 0) (pc' := 5) i188_2 o188 pi188_63 (ShModel_k0 hS448) rfl rfl <| ok_aloadn (pc' := 6) i188_5 rfl rfl <| ok_aloadn (pc' := 7) i188_6 rfl rfl <| ok_getfi (v := 0) (pc' := 10) i188_7 o188 gi9_66 (ShModel_k0 hS448) (rd_ni (by decide) (hld.trans hl)) rfl <| ok_kz0 (pc1 := 17) (pc2 := 13) i188_10 (by decide) rfl rfl <| ok_iconst (pc' := 14) i188_13 rfl <| ?_
          refine ok_goto (pc' := 18) i188_14 rfl <| ok_iconst (pc' := 19) i188_18 rfl <| ok_cc i188_19 rfl (cl_v o188 m9_70 na165 rfl rfl (bt rfl) (bt rfl) rfl (by rw [ShModel_k0 hS448, o165])) ln165 (pd165 (aR 448) (aI 1) (aI 1)) <| ok_aloadn (pc' := 1) i165_0 rfl rfl <| ok_getfi (v := 0) (pc' := 4) i165_1 o165 gi9_63 (ShModel_k0 hS448) rd_eq rfl <| ok_kz0 (pc1 := 16) (pc2 := 7) i165_4 (by decide) rfl rfl <| ok_iloadn (pc' := 8) i165_7 rfl rfl <| ok_kz0 (pc1 := 16) (pc2 := 11) i165_8 (by decide) rfl rfl <| ?_
          refine ok_aloadn (pc' := 12) i165_11 rfl rfl <| ok_iloadn (pc' := 13) i165_12 rfl rfl <| ok_putfj (kk := 0) (pc' := 16) i165_13 o165 pi165_63 (ShModel_k0 hS448) rfl rfl <| ok_aloadn (pc' := 17) i165_16 rfl rfl <| ok_getfi (v := 1) (pc' := 20) i165_17 o165 gi9_63 (ShModel_k0 hS448) rd_eq rfl <| ok_kz0 (pc1 := 27) (pc2 := 23) i165_20 (by decide) rfl rfl <| ok_iconst (pc' := 24) i165_23 rfl <| ok_goto (pc' := 28) i165_24 rfl <| ?_
          refine ok_iretz i165_28 rt165 (by decide) <| kt_v (pc' := 22) rfl <| ok_iretz i188_22 rt188 (by decide) <| kt_v (pc' := 54) rfl <| ok_kz1 (pc1 := 86) (pc2 := 57) i272_54 (by decide) rfl rfl <| ok_iconst (pc' := 87) i272_86 rfl <| ok_ireti i272_87 rt272 <| kt_v (pc' := 2947) rfl <| ?_
          refine ok_istore (pc' := 2949) (ls' := [aR 1, aR 100, aR 448, aR 464, aR 465, aI i, aI 1, aI 0, w8]) i0_2947 (bt rfl) rfl rfl <| ok_aloadn (pc' := 2950) i0_2949 rfl rfl <| ok_cc i0_2950 rfl (cl_v o0 m13_188 na157 rfl rfl (bt rfl) (bt rfl) rfl (by rw [ShModel_k0 hS448, o157])) ln157 (pd157 (aR 448)) <| ok_aloadn (pc' := 1) i157_0 rfl rfl <| ok_getfi (v := 1) (pc' := 4) i157_1 o157 gi9_63 (ShModel_k0 hS448) rd_eq rfl <| ok_ireti i157_4 rt157 <| kt_v (pc' := 2953) rfl <| ok_iload (pc' := 2955) i0_2953 rfl rfl <| ?_
          refine ok_kc1 (pc1 := 2960) (pc2 := 2958) i0_2955 (by decide) rfl rfl <| ok_iload (pc' := 2962) i0_2960 rfl rfl <| ok_kz1 (pc1 := 2977) (pc2 := 2965) i0_2962 (by decide) rfl rfl <| ok_goto (pc' := 3329) i0_2977 rfl <| ?_
          exact K _ _ _ _ _ _ hD (by omega) (Inv_mono (Inv_same hI (Same.thr (Same.thr Same.rfl))) (by omega))
        · refine ok_iconst (pc' := 11) i164_10 rfl <| ok_goto (pc' := 15) i164_11 rfl <| ok_iretz i164_15 rt164 (by decide) <| kt_v (pc' := 18) rfl <| ok_kz0 (pc1 := 47) (pc2 := 21) i272_18 (by decide) rfl rfl <| ok_iloadn (pc' := 22) i272_21 rfl rfl <| ok_iconst (pc' := 23) i272_22 rfl <| ok_bipush (v := 99) (pc' := 25) i272_23 rfl rfl <| ?_
          refine ok_cc i272_25 rfl (cl_s o272 m9_140 na164 rfl rfl (bt rfl) (bt rfl) rfl) ln164 (pd164 (aI v3) (aI 0) (aI 99)) <| ok_iloadn (pc' := 1) i164_0 rfl rfl <| ok_iloadn (pc' := 2) i164_1 rfl rfl <| ?_
          refine ok_clt (pc1 := 14) (pc2 := 5) i164_2 (by omega) rfl rfl (fun h505 => ?_) (fun h505 => ?_)
          · refine ok_iconst (pc' := 15) i164_14 rfl <| ok_iretz i164_15 rt164 (by decide) <| kt_v (pc' := 28) rfl <| ok_kz1 (pc1 := 47) (pc2 := 31) i272_28 (by decide) rfl rfl <| ok_iconst (pc' := 48) i272_47 rfl <| ok_istore (pc' := 50) (ls' := [aR 448, aI v1, aI v2, aI v3, aI v4, aI 0, aU]) i272_48 (bt rfl) rfl rfl <| ok_aloadn (pc' := 51) i272_50 rfl rfl <| ok_cc i272_51 rfl (cl_v o272 m9_216 na188 rfl rfl (bt rfl) (bt rfl) rfl (by rw [ShModel_k0 hS448, o188])) ln188 (pd188 (aR 448)) <| ?_
            refine ok_aloadn (pc' := 1) i188_0 rfl rfl <| ok_iconst (pc' := 2) i188_1 rfl <| ok_putfj (kk := 0) (pc' := 5) i188_2 o188 pi188_63 (ShModel_k0 hS448) rfl rfl <| ok_aloadn (pc' := 6) i188_5 rfl rfl <| ok_aloadn (pc' := 7) i188_6 rfl rfl <| ok_getfi (v := 0) (pc' := 10) i188_7 o188 gi9_66 (ShModel_k0 hS448) (rd_ni (by decide) (hld.trans hl)) rfl <| ok_kz0 (pc1 := 17) (pc2 := 13) i188_10 (by decide) rfl rfl <| ok_iconst (pc' := 14) i188_13 rfl <| ?_
            refine ok_goto (pc' := 18) i188_14 rfl <| ok_iconst (pc' := 19) i188_18 rfl <| ok_cc i188_19 rfl (cl_v o188 m9_70 na165 rfl rfl (bt rfl) (bt rfl) rfl (by rw [ShModel_k0 hS448, o165])) ln165 (pd165 (aR 448) (aI 1) (aI 1)) <| ok_aloadn (pc' := 1) i165_0 rfl rfl <| ok_getfi (v := 0) (pc' := 4) i165_1 o165 gi9_63 (ShModel_k0 hS448) rd_eq rfl <| ok_kz0 (pc1 := 16) (pc2 := 7) i165_4 (by decide) rfl rfl <| ok_iloadn (pc' := 8) i165_7 rfl rfl <| ok_kz0 (pc1 := 16) (pc2 := 11) i165_8 (by decide) rfl rfl <| ?_
            refine ok_aloadn (pc' := 12) i165_11 rfl rfl <| ok_iloadn (pc' := 13) i165_12 rfl rfl <| ok_putfj (kk := 0) (pc' := 16) i165_13 o165 pi165_63 (ShModel_k0 hS448) rfl rfl <| ok_aloadn (pc' := 17) i165_16 rfl rfl <| ok_getfi (v := 1) (pc' := 20) i165_17 o165 gi9_63 (ShModel_k0 hS448) rd_eq rfl <| ok_kz0 (pc1 := 27) (pc2 := 23) i165_20 (by decide) rfl rfl <| ok_iconst (pc' := 24) i165_23 rfl <| ok_goto (pc' := 28) i165_24 rfl <| ?_
            refine ok_iretz i165_28 rt165 (by decide) <| kt_v (pc' := 22) rfl <| ok_iretz i188_22 rt188 (by decide) <| kt_v (pc' := 54) rfl <| ok_kz1 (pc1 := 86) (pc2 := 57) i272_54 (by decide) rfl rfl <| ok_iconst (pc' := 87) i272_86 rfl <| ok_ireti i272_87 rt272 <| kt_v (pc' := 2947) rfl <| ?_
            refine ok_istore (pc' := 2949) (ls' := [aR 1, aR 100, aR 448, aR 464, aR 465, aI i, aI 1, aI 0, w8]) i0_2947 (bt rfl) rfl rfl <| ok_aloadn (pc' := 2950) i0_2949 rfl rfl <| ok_cc i0_2950 rfl (cl_v o0 m13_188 na157 rfl rfl (bt rfl) (bt rfl) rfl (by rw [ShModel_k0 hS448, o157])) ln157 (pd157 (aR 448)) <| ok_aloadn (pc' := 1) i157_0 rfl rfl <| ok_getfi (v := 1) (pc' := 4) i157_1 o157 gi9_63 (ShModel_k0 hS448) rd_eq rfl <| ok_ireti i157_4 rt157 <| kt_v (pc' := 2953) rfl <| ok_iload (pc' := 2955) i0_2953 rfl rfl <| ?_
            refine ok_kc1 (pc1 := 2960) (pc2 := 2958) i0_2955 (by decide) rfl rfl <| ok_iload (pc' := 2962) i0_2960 rfl rfl <| ok_kz1 (pc1 := 2977) (pc2 := 2965) i0_2962 (by decide) rfl rfl <| ok_goto (pc' := 3329) i0_2977 rfl <| ?_
            exact K _ _ _ _ _ _ hD (by omega) (Inv_mono (Inv_same hI (Same.thr (Same.thr Same.rfl))) (by omega))
          · refine ok_iloadn (pc' := 6) i164_5 rfl rfl <| ok_iloadn (pc' := 7) i164_6 rfl rfl <| ?_
            refine ok_cgt (pc1 := 14) (pc2 := 10) i164_7 (by omega) rfl rfl (fun h506 => ?_) (fun h506 => ?_)
            · refine ok_iconst (pc' := 15) i164_14 rfl <| ok_iretz i164_15 rt164 (by decide) <| kt_v (pc' := 28) rfl <| ok_kz1 (pc1 := 47) (pc2 := 31) i272_28 (by decide) rfl rfl <| ok_iconst (pc' := 48) i272_47 rfl <| ok_istore (pc' := 50) (ls' := [aR 448, aI v1, aI v2, aI v3, aI v4, aI 0, aU]) i272_48 (bt rfl) rfl rfl <| ok_aloadn (pc' := 51) i272_50 rfl rfl <| ok_cc i272_51 rfl (cl_v o272 m9_216 na188 rfl rfl (bt rfl) (bt rfl) rfl (by rw [ShModel_k0 hS448, o188])) ln188 (pd188 (aR 448)) <| ?_
              refine ok_aloadn (pc' := 1) i188_0 rfl rfl <| ok_iconst (pc' := 2) i188_1 rfl <| ok_putfj (kk := 0) (pc' := 5) i188_2 o188 pi188_63 (ShModel_k0 hS448) rfl rfl <| ok_aloadn (pc' := 6) i188_5 rfl rfl <| ok_aloadn (pc' := 7) i188_6 rfl rfl <| ok_getfi (v := 0) (pc' := 10) i188_7 o188 gi9_66 (ShModel_k0 hS448) (rd_ni (by decide) (hld.trans hl)) rfl <| ok_kz0 (pc1 := 17) (pc2 := 13) i188_10 (by decide) rfl rfl <| ok_iconst (pc' := 14) i188_13 rfl <| ?_
              refine ok_goto (pc' := 18) i188_14 rfl <| ok_iconst (pc' := 19) i188_18 rfl <| ok_cc i188_19 rfl (cl_v o188 m9_70 na165 rfl rfl (bt rfl) (bt rfl) rfl (by rw [ShModel_k0 hS448, o165])) ln165 (pd165 (aR 448) (aI 1) (aI 1)) <| ok_aloadn (pc' := 1) i165_0 rfl rfl <| ok_getfi (v := 0) (pc' := 4) i165_1 o165 gi9_63 (ShModel_k0 hS448) rd_eq rfl <| ok_kz0 (pc1 := 16) (pc2 := 7) i165_4 (by decide) rfl rfl <| ok_iloadn (pc' := 8) i165_7 rfl rfl <| ok_kz0 (pc1 := 16) (pc2 := 11) i165_8 (by decide) rfl rfl <| ?_
              refine ok_aloadn (pc' := 12) i165_11 rfl rfl <| ok_iloadn (pc' := 13) i165_12 rfl rfl <| ok_putfj (kk := 0) (pc' := 16) i165_13 o165 pi165_63 (ShModel_k0 hS448) rfl rfl <| ok_aloadn (pc' := 17) i165_16 rfl rfl <| ok_getfi (v := 1) (pc' := 20) i165_17 o165 gi9_63 (ShModel_k0 hS448) rd_eq rfl <| ok_kz0 (pc1 := 27) (pc2 := 23) i165_20 (by decide) rfl rfl <| ok_iconst (pc' := 24) i165_23 rfl <| ok_goto (pc' := 28) i165_24 rfl <| ?_
              refine ok_iretz i165_28 rt165 (by decide) <| kt_v (pc' := 22) rfl <| ok_iretz i188_22 rt188 (by decide) <| kt_v (pc' := 54) rfl <| ok_kz1 (pc1 := 86) (pc2 := 57) i272_54 (by decide) rfl rfl <| ok_iconst (pc' := 87) i272_86 rfl <| ok_ireti i272_87 rt272 <| kt_v (pc' := 2947) rfl <| ?_
              refine ok_istore (pc' := 2949) (ls' := [aR 1, aR 100, aR 448, aR 464, aR 465, aI i, aI 1, aI 0, w8]) i0_2947 (bt rfl) rfl rfl <| ok_aloadn (pc' := 2950) i0_2949 rfl rfl <| ok_cc i0_2950 rfl (cl_v o0 m13_188 na157 rfl rfl (bt rfl) (bt rfl) rfl (by rw [ShModel_k0 hS448, o157])) ln157 (pd157 (aR 448)) <| ok_aloadn (pc' := 1) i157_0 rfl rfl <| ok_getfi (v := 1) (pc' := 4) i157_1 o157 gi9_63 (ShModel_k0 hS448) rd_eq rfl <| ok_ireti i157_4 rt157 <| kt_v (pc' := 2953) rfl <| ok_iload (pc' := 2955) i0_2953 rfl rfl <| ?_
              refine ok_kc1 (pc1 := 2960) (pc2 := 2958) i0_2955 (by decide) rfl rfl <| ok_iload (pc' := 2962) i0_2960 rfl rfl <| ok_kz1 (pc1 := 2977) (pc2 := 2965) i0_2962 (by decide) rfl rfl <| ok_goto (pc' := 3329) i0_2977 rfl <| ?_
              exact K _ _ _ _ _ _ hD (by omega) (Inv_mono (Inv_same hI (Same.thr (Same.thr Same.rfl))) (by omega))
            · refine ok_iconst (pc' := 11) i164_10 rfl <| ok_goto (pc' := 15) i164_11 rfl <| ok_iretz i164_15 rt164 (by decide) <| kt_v (pc' := 28) rfl <| ok_kz0 (pc1 := 47) (pc2 := 31) i272_28 (by decide) rfl rfl <| ok_iload (pc' := 33) i272_31 rfl rfl <| ok_iconst (pc' := 34) i272_33 rfl <| ok_sipush (v := 999) (pc' := 37) i272_34 rfl rfl <| ?_
              refine ok_cc i272_37 rfl (cl_s o272 m9_140 na164 rfl rfl (bt rfl) (bt rfl) rfl) ln164 (pd164 (aI v4) (aI 0) (aI 999)) <| ok_iloadn (pc' := 1) i164_0 rfl rfl <| ok_iloadn (pc' := 2) i164_1 rfl rfl <| ?_
              refine ok_clt (pc1 := 14) (pc2 := 5) i164_2 (by omega) rfl rfl (fun h507 => ?_) (fun h507 => ?_)
              · refine ok_iconst (pc' := 15) i164_14 rfl <| ok_iretz i164_15 rt164 (by decide) <| kt_v (pc' := 40) rfl <| ok_kz1 (pc1 := 47) (pc2 := 43) i272_40 (by decide) rfl rfl <| ok_iconst (pc' := 48) i272_47 rfl <| ok_istore (pc' := 50) (ls' := [aR 448, aI v1, aI v2, aI v3, aI v4, aI 0, aU]) i272_48 (bt rfl) rfl rfl <| ok_aloadn (pc' := 51) i272_50 rfl rfl <| ok_cc i272_51 rfl (cl_v o272 m9_216 na188 rfl rfl (bt rfl) (bt rfl) rfl (by rw [ShModel_k0 hS448, o188])) ln188 (pd188 (aR 448)) <| ?_
                refine ok_aloadn (pc' := 1) i188_0 rfl rfl <| ok_iconst (pc' := 2) i188_1 rfl <| ok_putfj (kk := 0) (pc' := 5) i188_2 o188 pi188_63 (ShModel_k0 hS448) rfl rfl <| ok_aloadn (pc' := 6) i188_5 rfl rfl <| ok_aloadn (pc' := 7) i188_6 rfl rfl <| ok_getfi (v := 0) (pc' := 10) i188_7 o188 gi9_66 (ShModel_k0 hS448) (rd_ni (by decide) (hld.trans hl)) rfl <| ok_kz0 (pc1 := 17) (pc2 := 13) i188_10 (by decide) rfl rfl <| ok_iconst (pc' := 14) i188_13 rfl <| ?_
                refine ok_goto (pc' := 18) i188_14 rfl <| ok_iconst (pc' := 19) i188_18 rfl <| ok_cc i188_19 rfl (cl_v o188 m9_70 na165 rfl rfl (bt rfl) (bt rfl) rfl (by rw [ShModel_k0 hS448, o165])) ln165 (pd165 (aR 448) (aI 1) (aI 1)) <| ok_aloadn (pc' := 1) i165_0 rfl rfl <| ok_getfi (v := 0) (pc' := 4) i165_1 o165 gi9_63 (ShModel_k0 hS448) rd_eq rfl <| ok_kz0 (pc1 := 16) (pc2 := 7) i165_4 (by decide) rfl rfl <| ok_iloadn (pc' := 8) i165_7 rfl rfl <| ok_kz0 (pc1 := 16) (pc2 := 11) i165_8 (by decide) rfl rfl <| ?_
                refine ok_aloadn (pc' := 12) i165_11 rfl rfl <| ok_iloadn (pc' := 13) i165_12 rfl rfl <| ok_putfj (kk := 0) (pc' := 16) i165_13 o165 pi165_63 (ShModel_k0 hS448) rfl rfl <| ok_aloadn (pc' := 17) i165_16 rfl rfl <| ok_getfi (v := 1) (pc' := 20) i165_17 o165 gi9_63 (ShModel_k0 hS448) rd_eq rfl <| ok_kz0 (pc1 := 27) (pc2 := 23) i165_20 (by decide) rfl rfl <| ok_iconst (pc' := 24) i165_23 rfl <| ok_goto (pc' := 28) i165_24 rfl <| ?_
                refine ok_iretz i165_28 rt165 (by decide) <| kt_v (pc' := 22) rfl <| ok_iretz i188_22 rt188 (by decide) <| kt_v (pc' := 54) rfl <| ok_kz1 (pc1 := 86) (pc2 := 57) i272_54 (by decide) rfl rfl <| ok_iconst (pc' := 87) i272_86 rfl <| ok_ireti i272_87 rt272 <| kt_v (pc' := 2947) rfl <| ?_
                refine ok_istore (pc' := 2949) (ls' := [aR 1, aR 100, aR 448, aR 464, aR 465, aI i, aI 1, aI 0, w8]) i0_2947 (bt rfl) rfl rfl <| ok_aloadn (pc' := 2950) i0_2949 rfl rfl <| ok_cc i0_2950 rfl (cl_v o0 m13_188 na157 rfl rfl (bt rfl) (bt rfl) rfl (by rw [ShModel_k0 hS448, o157])) ln157 (pd157 (aR 448)) <| ok_aloadn (pc' := 1) i157_0 rfl rfl <| ok_getfi (v := 1) (pc' := 4) i157_1 o157 gi9_63 (ShModel_k0 hS448) rd_eq rfl <| ok_ireti i157_4 rt157 <| kt_v (pc' := 2953) rfl <| ok_iload (pc' := 2955) i0_2953 rfl rfl <| ?_
                refine ok_kc1 (pc1 := 2960) (pc2 := 2958) i0_2955 (by decide) rfl rfl <| ok_iload (pc' := 2962) i0_2960 rfl rfl <| ok_kz1 (pc1 := 2977) (pc2 := 2965) i0_2962 (by decide) rfl rfl <| ok_goto (pc' := 3329) i0_2977 rfl <| ?_
                exact K _ _ _ _ _ _ hD (by omega) (Inv_mono (Inv_same hI (Same.thr (Same.thr Same.rfl))) (by omega))
              · refine ok_iloadn (pc' := 6) i164_5 rfl rfl <| ok_iloadn (pc' := 7) i164_6 rfl rfl <| ?_
                refine ok_cgt (pc1 := 14) (pc2 := 10) i164_7 (by omega) rfl rfl (fun h508 => ?_) (fun h508 => ?_)
                · refine ok_iconst (pc' := 15) i164_14 rfl <| ok_iretz i164_15 rt164 (by decide) <| kt_v (pc' := 40) rfl <| ok_kz1 (pc1 := 47) (pc2 := 43) i272_40 (by decide) rfl rfl <| ok_iconst (pc' := 48) i272_47 rfl <| ok_istore (pc' := 50) (ls' := [aR 448, aI v1, aI v2, aI v3, aI v4, aI 0, aU]) i272_48 (bt rfl) rfl rfl <| ok_aloadn (pc' := 51) i272_50 rfl rfl <| ok_cc i272_51 rfl (cl_v o272 m9_216 na188 rfl rfl (bt rfl) (bt rfl) rfl (by rw [ShModel_k0 hS448, o188])) ln188 (pd188 (aR 448)) <| ?_
                  refine ok_aloadn (pc' := 1) i188_0 rfl rfl <| ok_iconst (pc' := 2) i188_1 rfl <| ok_putfj (kk := 0) (pc' := 5) i188_2 o188 pi188_63 (ShModel_k0 hS448) rfl rfl <| ok_aloadn (pc' := 6) i188_5 rfl rfl <| ok_aloadn (pc' := 7) i188_6 rfl rfl <| ok_getfi (v := 0) (pc' := 10) i188_7 o188 gi9_66 (ShModel_k0 hS448) (rd_ni (by decide) (hld.trans hl)) rfl <| ok_kz0 (pc1 := 17) (pc2 := 13) i188_10 (by decide) rfl rfl <| ok_iconst (pc' := 14) i188_13 rfl <| ?_
                  refine ok_goto (pc' := 18) i188_14 rfl <| ok_iconst (pc' := 19) i188_18 rfl <| ok_cc i188_19 rfl (cl_v o188 m9_70 na165 rfl rfl (bt rfl) (bt rfl) rfl (by rw [ShModel_k0 hS448, o165])) ln165 (pd165 (aR 448) (aI 1) (aI 1)) <| ok_aloadn (pc' := 1) i165_0 rfl rfl <| ok_getfi (v := 0) (pc' := 4) i165_1 o165 gi9_63 (ShModel_k0 hS448) rd_eq rfl <| ok_kz0 (pc1 := 16) (pc2 := 7) i165_4 (by decide) rfl rfl <| ok_iloadn (pc' := 8) i165_7 rfl rfl <| ok_kz0 (pc1 := 16) (pc2 := 11) i165_8 (by decide) rfl rfl <| ?_
                  refine ok_aloadn (pc' := 12) i165_11 rfl rfl <| ok_iloadn (pc' := 13) i165_12 rfl rfl <| ok_putfj (kk := 0) (pc' := 16) i165_13 o165 pi165_63 (ShModel_k0 hS448) rfl rfl <| ok_aloadn (pc' := 17) i165_16 rfl rfl <| ok_getfi (v := 1) (pc' := 20) i165_17 o165 gi9_63 (ShModel_k0 hS448) rd_eq rfl <| ok_kz0 (pc1 := 27) (pc2 := 23) i165_20 (by decide) rfl rfl <| ok_iconst (pc' := 24) i165_23 rfl <| ok_goto (pc' := 28) i165_24 rfl <| ?_
                  refine ok_iretz i165_28 rt165 (by decide) <| kt_v (pc' := 22) rfl <| ok_iretz i188_22 rt188 (by decide) <| kt_v (pc' := 54) rfl <| ok_kz1 (pc1 := 86) (pc2 := 57) i272_54 (by decide) rfl rfl <| ok_iconst (pc' := 87) i272_86 rfl <| ok_ireti i272_87 rt272 <| kt_v (pc' := 2947) rfl <| ?_
                  refine ok_istore (pc' := 2949) (ls' := [aR 1, aR 100, aR 448, aR 464, aR 465, aI i, aI 1, aI 0, w8]) i0_2947 (bt rfl) rfl rfl <| ok_aloadn (pc' := 2950) i0_2949 rfl rfl <| ok_cc i0_2950 rfl (cl_v o0 m13_188 na157 rfl rfl (bt rfl) (bt rfl) rfl (by rw [ShModel_k0 hS448, o157])) ln157 (pd157 (aR 448)) <| ok_aloadn (pc' := 1) i157_0 rfl rfl <| ok_getfi (v := 1) (pc' := 4) i157_1 o157 gi9_63 (ShModel_k0 hS448) rd_eq rfl <| ok_ireti i157_4 rt157 <| kt_v (pc' := 2953) rfl <| ok_iload (pc' := 2955) i0_2953 rfl rfl <| ?_
                  refine ok_kc1 (pc1 := 2960) (pc2 := 2958) i0_2955 (by decide) rfl rfl <| ok_iload (pc' := 2962) i0_2960 rfl rfl <| ok_kz1 (pc1 := 2977) (pc2 := 2965) i0_2962 (by decide) rfl rfl <| ok_goto (pc' := 3329) i0_2977 rfl <| ?_
                  exact K _ _ _ _ _ _ hD (by omega) (Inv_mono (Inv_same hI (Same.thr (Same.thr Same.rfl))) (by omega))
                · refine ok_iconst (pc' := 11) i164_10 rfl <| ok_goto (pc' := 15) i164_11 rfl <| ok_iretz i164_15 rt164 (by decide) <| kt_v (pc' := 40) rfl <| ok_kz0 (pc1 := 47) (pc2 := 43) i272_40 (by decide) rfl rfl <| ok_iconst (pc' := 44) i272_43 rfl <| ok_goto (pc' := 48) i272_44 rfl <| ok_istore (pc' := 50) (ls' := [aR 448, aI v1, aI v2, aI v3, aI v4, aI 1, aU]) i272_48 (bt rfl) rfl rfl <| ?_
                  refine ok_aloadn (pc' := 51) i272_50 rfl rfl <| ok_cc i272_51 rfl (cl_v o272 m9_216 na188 rfl rfl (bt rfl) (bt rfl) rfl (by rw [ShModel_k0 hS448, o188])) ln188 (pd188 (aR 448)) <| ok_aloadn (pc' := 1) i188_0 rfl rfl <| ok_iconst (pc' := 2) i188_1 rfl <| ok_putfj (kk := 0) (pc' := 5) i188_2 o188 pi188_63 (ShModel_k0 hS448) rfl rfl <| ok_aloadn (pc' := 6) i188_5 rfl rfl <| ok_aloadn (pc' := 7) i188_6 rfl rfl <| ok_getfi (v := 0) (pc' := 10) i188_7 o188 gi9_66 (ShModel_k0 hS448) (rd_ni (by decide) (hld.trans hl)) rfl <| ?_
                  refine ok_kz0 (pc1 := 17) (pc2 := 13) i188_10 (by decide) rfl rfl <| ok_iconst (pc' := 14) i188_13 rfl <| ok_goto (pc' := 18) i188_14 rfl <| ok_iconst (pc' := 19) i188_18 rfl <| ok_cc i188_19 rfl (cl_v o188 m9_70 na165 rfl rfl (bt rfl) (bt rfl) rfl (by rw [ShModel_k0 hS448, o165])) ln165 (pd165 (aR 448) (aI 1) (aI 1)) <| ok_aloadn (pc' := 1) i165_0 rfl rfl <| ok_getfi (v := 0) (pc' := 4) i165_1 o165 gi9_63 (ShModel_k0 hS448) rd_eq rfl <| ok_kz0 (pc1 := 16) (pc2 := 7) i165_4 (by decide) rfl rfl <| ?_
                  refine ok_iloadn (pc' := 8) i165_7 rfl rfl <| ok_kz0 (pc1 := 16) (pc2 := 11) i165_8 (by decide) rfl rfl <| ok_aloadn (pc' := 12) i165_11 rfl rfl <| ok_iloadn (pc' := 13) i165_12 rfl rfl <| ok_putfj (kk := 0) (pc' := 16) i165_13 o165 pi165_63 (ShModel_k0 hS448) rfl rfl <| ok_aloadn (pc' := 17) i165_16 rfl rfl <| ok_getfi (v := 1) (pc' := 20) i165_17 o165 gi9_63 (ShModel_k0 hS448) rd_eq rfl <| ok_kz0 (pc1 := 27) (pc2 := 23) i165_20 (by decide) rfl rfl <| ?_
                  refine ok_iconst (pc' := 24) i165_23 rfl <| ok_goto (pc' := 28) i165_24 rfl <| ok_iretz i165_28 rt165 (by decide) <| kt_v (pc' := 22) rfl <| ok_iretz i188_22 rt188 (by decide) <| kt_v (pc' := 54) rfl <| ok_kz1 (pc1 := 86) (pc2 := 57) i272_54 (by decide) rfl rfl <| ok_iconst (pc' := 87) i272_86 rfl <| ?_
                  refine ok_ireti i272_87 rt272 <| kt_v (pc' := 2947) rfl <| ok_istore (pc' := 2949) (ls' := [aR 1, aR 100, aR 448, aR 464, aR 465, aI i, aI 1, aI 0, w8]) i0_2947 (bt rfl) rfl rfl <| ok_aloadn (pc' := 2950) i0_2949 rfl rfl <| ok_cc i0_2950 rfl (cl_v o0 m13_188 na157 rfl rfl (bt rfl) (bt rfl) rfl (by rw [ShModel_k0 hS448, o157])) ln157 (pd157 (aR 448)) <| ok_aloadn (pc' := 1) i157_0 rfl rfl <| ok_getfi (v := 1) (pc' := 4) i157_1 o157 gi9_63 (ShModel_k0 hS448) rd_eq rfl <| ok_ireti i157_4 rt157 <| ?_
                  refine kt_v (pc' := 2953) rfl <| ok_iload (pc' := 2955) i0_2953 rfl rfl <| ok_kc1 (pc1 := 2960) (pc2 := 2958) i0_2955 (by decide) rfl rfl <| ok_iload (pc' := 2962) i0_2960 rfl rfl <| ok_kz1 (pc1 := 2977) (pc2 := 2965) i0_2962 (by decide) rfl rfl <| ok_goto (pc' := 3329) i0_2977 rfl <| ?_
                  exact K _ _ _ _ _ _ hD (by omega) (Inv_mono (Inv_same hI (Same.thr (Same.thr Same.rfl))) (by omega))
theorem c50_0 {L n : Nat} {g : AG} {M : AM} {xs : Nat → Int32} {b i : Int} {w6 w7 w8 : AV} {Q : AO → AG → AM → Prop} (hD : HD L n g) (hI : Inv xs b M) (hi : 0 ≤ i ∧ i + 6 ≤ L) (hb : 0 ≤ b ∧ b ≤ 900000) (hl : M 100 6 = 0) (K : KK L n i b xs Q) :
    Ok 10 0 2980 [aR 1, aR 100, aR 448, aR 464, aR 465, aI i, w6, w7, w8] [] g M Q := by
  have hI0 := hI
  obtain ⟨hA, hld, hl01, q, hc, ⟨nx, sz, hH, hsz⟩, hS⟩ := hI0
  have hH0 := hH
  obtain ⟨⟨hn1, hn0⟩, ⟨hz2, hz0⟩, h10, hHj⟩ := hH0
  obtain ⟨hw0, ⟨bu, by_, hb1, hb13, hbu, hZ, hU⟩, he3, he4, he5, hId, tx, hT, hUt, htl, htr⟩ := hA
  obtain ⟨v1, hv1⟩ : ∃ u9 : Int, M 1 (i + 1) = u9 := ⟨_, rfl⟩
  have hr1 : -2147483648 ≤ v1 ∧ v1 < 2147483648 := hv1 ▸ scr_rg hw0 (i + 1)
  have hS1 := HD_s hD
  have hS100 := HD_y hD
  have hS448 := HD_o hD
  have hS464 := HD_u hD
  have hS465 := HD_ud hD
  refine ok_aloadn (pc' := 2981) i0_2980 rfl rfl <| ok_aloadn (pc' := 2982) i0_2981 rfl rfl <| ok_iload (pc' := 2984) i0_2982 rfl rfl <| ok_iconst (pc' := 2985) i0_2984 rfl <| ok_iadd (v := (i + 1)) (pc' := 2986) i0_2985 rfl rfl <| ok_iaload (v := v1) (pc' := 2987) i0_2986 (ShScr_k0 hS1) (by decide) (ShScr_l0 hS1) (by omega) hv1 rfl <| ok_aloadn (pc' := 2988) i0_2987 rfl rfl <| ok_cc i0_2988 rfl (cl_s o0 m13_345 na323 rfl rfl (bt rfl) (bt rfl) rfl) ln323 (pd323 (aR 100) (aI v1) (aR 464)) <| ?_
  refine ok_aloadn (pc' := 1) i323_0 rfl rfl <| ok_iconst (pc' := 2) i323_1 rfl <| ok_aloadn (pc' := 3) i323_2 rfl rfl <| ok_iloadn (pc' := 4) i323_3 rfl rfl <| ok_cc i323_4 rfl (cl_v o323 m13_155 na149 rfl rfl (bt rfl) (bt rfl) rfl (by rw [ShYard_k0 hS100, o149])) ln149 (pd149 (aR 100) (aI v1)) <| ok_aloadn (pc' := 1) i149_0 rfl rfl <| ok_cc i149_1 rfl (cl_v o149 m0_132 na99 rfl rfl (bt rfl) (bt rfl) rfl (by rw [ShYard_k0 hS100, o99])) ln99 (pd99 (aR 100)) <| ok_aloadn (pc' := 1) i99_0 rfl rfl <| ?_
  refine ok_getfi (v := 0) (pc' := 4) i99_1 o99 gi0_268 (ShYard_k0 hS100) hl rfl <| ok_kz0 (pc1 := 18) (pc2 := 7) i99_4 (by decide) rfl rfl <| ok_throw th99_7 (bt rfl) <| kt_x hh149 <| kt_h hn323 hf323_4_12 hr323_12 <| kt_v (pc' := 2991) rfl <| ?_
  refine ok_al hD (fun g hD => ?_)
  have hS448 := HD_o hD
  have hS1 := HD_s hD
  have hS464 := HD_u hD
  have hS465 := HD_ud hD
  refine ok_istore (pc' := 2993) (ls' := [aR 1, aR 100, aR 448, aR 464, aR 465, aI i, aI 1, w7, w8]) i0_2991 (bt rfl) rfl rfl <| ok_aloadn (pc' := 2994) i0_2993 rfl rfl <| ok_aloadn (pc' := 2995) i0_2994 rfl rfl <| ok_iload (pc' := 2997) i0_2995 rfl rfl <| ok_iconst (pc' := 2998) i0_2997 rfl <| ok_iadd (v := (i + 1)) (pc' := 2999) i0_2998 rfl rfl <| ok_iaload (v := v1) (pc' := 3000) i0_2999 (ShScr_k0 hS1) (by decide) (ShScr_l0 hS1) (by omega) hv1 rfl <| ok_cc i0_3000 rfl (cl_v o0 m13_347 na273 rfl rfl (bt rfl) (bt rfl) rfl (by rw [ShModel_k0 hS448, o273])) ln273 (pd273 (aR 448) (aI v1)) <| ?_
  refine ok_aloadn (pc' := 1) i273_0 rfl rfl <| ok_iloadn (pc' := 2) i273_1 rfl rfl <| ok_cc i273_2 rfl (cl_v o273 m9_244 na199 rfl rfl (bt rfl) (bt rfl) rfl (by rw [ShModel_k0 hS448, o199])) ln199 (pd199 (aR 448) (aI v1)) <| ok_aloadn (pc' := 1) i199_0 rfl rfl <| ok_cc i199_1 rfl (cl_v o199 m9_216 na188 rfl rfl (bt rfl) (bt rfl) rfl (by rw [ShModel_k0 hS448, o188])) ln188 (pd188 (aR 448)) <| ok_aloadn (pc' := 1) i188_0 rfl rfl <| ok_iconst (pc' := 2) i188_1 rfl <| ok_putfj (kk := 0) (pc' := 5) i188_2 o188 pi188_63 (ShModel_k0 hS448) rfl rfl <| ?_
  refine ok_aloadn (pc' := 6) i188_5 rfl rfl <| ok_aloadn (pc' := 7) i188_6 rfl rfl <| ok_getfi (v := 0) (pc' := 10) i188_7 o188 gi9_66 (ShModel_k0 hS448) (rd_ni (by decide) (hld.trans hl)) rfl <| ok_kz0 (pc1 := 17) (pc2 := 13) i188_10 (by decide) rfl rfl <| ok_iconst (pc' := 14) i188_13 rfl <| ok_goto (pc' := 18) i188_14 rfl <| ok_iconst (pc' := 19) i188_18 rfl <| ok_cc i188_19 rfl (cl_v o188 m9_70 na165 rfl rfl (bt rfl) (bt rfl) rfl (by rw [ShModel_k0 hS448, o165])) ln165 (pd165 (aR 448) (aI 1) (aI 1)) <| ?_
  refine ok_aloadn (pc' := 1) i165_0 rfl rfl <| ok_getfi (v := 0) (pc' := 4) i165_1 o165 gi9_63 (ShModel_k0 hS448) rd_eq rfl <| ok_kz0 (pc1 := 16) (pc2 := 7) i165_4 (by decide) rfl rfl <| ok_iloadn (pc' := 8) i165_7 rfl rfl <| ok_kz0 (pc1 := 16) (pc2 := 11) i165_8 (by decide) rfl rfl <| ok_aloadn (pc' := 12) i165_11 rfl rfl <| ok_iloadn (pc' := 13) i165_12 rfl rfl <| ok_putfj (kk := 0) (pc' := 16) i165_13 o165 pi165_63 (ShModel_k0 hS448) rfl rfl <| ?_
  refine ok_aloadn (pc' := 17) i165_16 rfl rfl <| ok_getfi (v := 1) (pc' := 20) i165_17 o165 gi9_63 (ShModel_k0 hS448) rd_eq rfl <| ok_kz0 (pc1 := 27) (pc2 := 23) i165_20 (by decide) rfl rfl <| ok_iconst (pc' := 24) i165_23 rfl <| ok_goto (pc' := 28) i165_24 rfl <| ok_iretz i165_28 rt165 (by decide) <| kt_v (pc' := 22) rfl <| ok_iretz i188_22 rt188 (by decide) <| ?_
  refine kt_v (pc' := 4) rfl <| ok_kz1 (pc1 := 36) (pc2 := 7) i199_4 (by decide) rfl rfl <| ok_iconst (pc' := 37) i199_36 rfl <| ok_goto (pc' := 41) i199_37 rfl <| ok_iretz i199_41 rt199 (by decide) <| kt_v (pc' := 5) rfl <| ok_kz1 (pc1 := 29) (pc2 := 8) i273_5 (by decide) rfl rfl <| ok_iconst (pc' := 30) i273_29 rfl <| ?_
  refine ok_ireti i273_30 rt273 <| kt_v (pc' := 3003) rfl <| ok_istore (pc' := 3005) (ls' := [aR 1, aR 100, aR 448, aR 464, aR 465, aI i, aI 1, aI 0, w8]) i0_3003 (bt rfl) rfl rfl <| ok_aloadn (pc' := 3006) i0_3005 rfl rfl <| ok_cc i0_3006 rfl (cl_v o0 m13_188 na157 rfl rfl (bt rfl) (bt rfl) rfl (by rw [ShModel_k0 hS448, o157])) ln157 (pd157 (aR 448)) <| ok_aloadn (pc' := 1) i157_0 rfl rfl <| ok_getfi (v := 1) (pc' := 4) i157_1 o157 gi9_63 (ShModel_k0 hS448) rd_eq rfl <| ok_ireti i157_4 rt157 <| ?_
  refine kt_v (pc' := 3009) rfl <| ok_iload (pc' := 3011) i0_3009 rfl rfl <| ok_kc1 (pc1 := 3016) (pc2 := 3014) i0_3011 (by decide) rfl rfl <| ok_iload (pc' := 3018) i0_3016 rfl rfl <| ok_kz1 (pc1 := 3033) (pc2 := 3021) i0_3018 (by decide) rfl rfl <| ok_goto (pc' := 3329) i0_3033 rfl <| ?_
  exact K _ _ _ _ _ _ hD (by omega) (Inv_mono (Inv_same hI (Same.thr (Same.thr Same.rfl))) (by omega))
theorem c51_0 {L n : Nat} {g : AG} {M : AM} {xs : Nat → Int32} {b i : Int} {w6 w7 w8 : AV} {Q : AO → AG → AM → Prop} (hD : HD L n g) (hI : Inv xs b M) (hi : 0 ≤ i ∧ i + 6 ≤ L) (hb : 0 ≤ b ∧ b ≤ 900000) (hl : M 100 6 = 0) (K : KK L n i b xs Q) :
    Ok 10 0 3036 [aR 1, aR 100, aR 448, aR 464, aR 465, aI i, w6, w7, w8] [] g M Q := by
  have hI0 := hI
  obtain ⟨hA, hld, hl01, q, hc, ⟨nx, sz, hH, hsz⟩, hS⟩ := hI0
  have hH0 := hH
  obtain ⟨⟨hn1, hn0⟩, ⟨hz2, hz0⟩, h10, hHj⟩ := hH0
  obtain ⟨hw0, ⟨bu, by_, hb1, hb13, hbu, hZ, hU⟩, he3, he4, he5, hId, tx, hT, hUt, htl, htr⟩ := hA
  obtain ⟨v1, hv1⟩ : ∃ u9 : Int, M 1 (i + 1) = u9 := ⟨_, rfl⟩
  have hr1 : -2147483648 ≤ v1 ∧ v1 < 2147483648 := hv1 ▸ scr_rg hw0 (i + 1)
  have hS1 := HD_s hD
  have hS100 := HD_y hD
  have hS448 := HD_o hD
  have hS464 := HD_u hD
  have hS465 := HD_ud hD
  refine ok_aloadn (pc' := 3037) i0_3036 rfl rfl <| ok_aloadn (pc' := 3038) i0_3037 rfl rfl <| ok_iload (pc' := 3040) i0_3038 rfl rfl <| ok_iconst (pc' := 3041) i0_3040 rfl <| ok_iadd (v := (i + 1)) (pc' := 3042) i0_3041 rfl rfl <| ok_iaload (v := v1) (pc' := 3043) i0_3042 (ShScr_k0 hS1) (by decide) (ShScr_l0 hS1) (by omega) hv1 rfl <| ok_aloadn (pc' := 3044) i0_3043 rfl rfl <| ok_cc i0_3044 rfl (cl_s o0 m13_348 na324 rfl rfl (bt rfl) (bt rfl) rfl) ln324 (pd324 (aR 100) (aI v1) (aR 464)) <| ?_
  refine ok_aloadn (pc' := 1) i324_0 rfl rfl <| ok_iconst (pc' := 2) i324_1 rfl <| ok_aloadn (pc' := 3) i324_2 rfl rfl <| ok_iloadn (pc' := 4) i324_3 rfl rfl <| ok_cc i324_4 rfl (cl_v o324 m13_158 na150 rfl rfl (bt rfl) (bt rfl) rfl (by rw [ShYard_k0 hS100, o150])) ln150 (pd150 (aR 100) (aI v1)) <| ok_aloadn (pc' := 1) i150_0 rfl rfl <| ok_cc i150_1 rfl (cl_v o150 m0_132 na99 rfl rfl (bt rfl) (bt rfl) rfl (by rw [ShYard_k0 hS100, o99])) ln99 (pd99 (aR 100)) <| ok_aloadn (pc' := 1) i99_0 rfl rfl <| ?_
  refine ok_getfi (v := 0) (pc' := 4) i99_1 o99 gi0_268 (ShYard_k0 hS100) hl rfl <| ok_kz0 (pc1 := 18) (pc2 := 7) i99_4 (by decide) rfl rfl <| ok_throw th99_7 (bt rfl) <| kt_x hh150 <| kt_h hn324 hf324_4_12 hr324_12 <| kt_v (pc' := 3047) rfl <| ?_
  refine ok_al hD (fun g hD => ?_)
  have hS448 := HD_o hD
  have hS1 := HD_s hD
  have hS464 := HD_u hD
  have hS465 := HD_ud hD
  refine ok_istore (pc' := 3049) (ls' := [aR 1, aR 100, aR 448, aR 464, aR 465, aI i, aI 1, w7, w8]) i0_3047 (bt rfl) rfl rfl <| ok_aloadn (pc' := 3050) i0_3049 rfl rfl <| ok_aloadn (pc' := 3051) i0_3050 rfl rfl <| ok_iload (pc' := 3053) i0_3051 rfl rfl <| ok_iconst (pc' := 3054) i0_3053 rfl <| ok_iadd (v := (i + 1)) (pc' := 3055) i0_3054 rfl rfl <| ok_iaload (v := v1) (pc' := 3056) i0_3055 (ShScr_k0 hS1) (by decide) (ShScr_l0 hS1) (by omega) hv1 rfl <| ok_cc i0_3056 rfl (cl_v o0 m13_350 na274 rfl rfl (bt rfl) (bt rfl) rfl (by rw [ShModel_k0 hS448, o274])) ln274 (pd274 (aR 448) (aI v1)) <| ?_
  refine ok_aloadn (pc' := 1) i274_0 rfl rfl <| ok_iloadn (pc' := 2) i274_1 rfl rfl <| ok_cc i274_2 rfl (cl_v o274 m9_241 na196 rfl rfl (bt rfl) (bt rfl) rfl (by rw [ShModel_k0 hS448, o196])) ln196 (pd196 (aR 448) (aI v1)) <| ok_aloadn (pc' := 1) i196_0 rfl rfl <| ok_cc i196_1 rfl (cl_v o196 m9_216 na188 rfl rfl (bt rfl) (bt rfl) rfl (by rw [ShModel_k0 hS448, o188])) ln188 (pd188 (aR 448)) <| ok_aloadn (pc' := 1) i188_0 rfl rfl <| ok_iconst (pc' := 2) i188_1 rfl <| ok_putfj (kk := 0) (pc' := 5) i188_2 o188 pi188_63 (ShModel_k0 hS448) rfl rfl <| ?_
  refine ok_aloadn (pc' := 6) i188_5 rfl rfl <| ok_aloadn (pc' := 7) i188_6 rfl rfl <| ok_getfi (v := 0) (pc' := 10) i188_7 o188 gi9_66 (ShModel_k0 hS448) (rd_ni (by decide) (hld.trans hl)) rfl <| ok_kz0 (pc1 := 17) (pc2 := 13) i188_10 (by decide) rfl rfl <| ok_iconst (pc' := 14) i188_13 rfl <| ok_goto (pc' := 18) i188_14 rfl <| ok_iconst (pc' := 19) i188_18 rfl <| ok_cc i188_19 rfl (cl_v o188 m9_70 na165 rfl rfl (bt rfl) (bt rfl) rfl (by rw [ShModel_k0 hS448, o165])) ln165 (pd165 (aR 448) (aI 1) (aI 1)) <| ?_
  refine ok_aloadn (pc' := 1) i165_0 rfl rfl <| ok_getfi (v := 0) (pc' := 4) i165_1 o165 gi9_63 (ShModel_k0 hS448) rd_eq rfl <| ok_kz0 (pc1 := 16) (pc2 := 7) i165_4 (by decide) rfl rfl <| ok_iloadn (pc' := 8) i165_7 rfl rfl <| ok_kz0 (pc1 := 16) (pc2 := 11) i165_8 (by decide) rfl rfl <| ok_aloadn (pc' := 12) i165_11 rfl rfl <| ok_iloadn (pc' := 13) i165_12 rfl rfl <| ok_putfj (kk := 0) (pc' := 16) i165_13 o165 pi165_63 (ShModel_k0 hS448) rfl rfl <| ?_
  refine ok_aloadn (pc' := 17) i165_16 rfl rfl <| ok_getfi (v := 1) (pc' := 20) i165_17 o165 gi9_63 (ShModel_k0 hS448) rd_eq rfl <| ok_kz0 (pc1 := 27) (pc2 := 23) i165_20 (by decide) rfl rfl <| ok_iconst (pc' := 24) i165_23 rfl <| ok_goto (pc' := 28) i165_24 rfl <| ok_iretz i165_28 rt165 (by decide) <| kt_v (pc' := 22) rfl <| ok_iretz i188_22 rt188 (by decide) <| ?_
  refine kt_v (pc' := 4) rfl <| ok_kz1 (pc1 := 28) (pc2 := 7) i196_4 (by decide) rfl rfl <| ok_iconst (pc' := 29) i196_28 rfl <| ok_goto (pc' := 33) i196_29 rfl <| ok_iretz i196_33 rt196 (by decide) <| kt_v (pc' := 5) rfl <| ok_kz1 (pc1 := 29) (pc2 := 8) i274_5 (by decide) rfl rfl <| ok_iconst (pc' := 30) i274_29 rfl <| ?_
  refine ok_ireti i274_30 rt274 <| kt_v (pc' := 3059) rfl <| ok_istore (pc' := 3061) (ls' := [aR 1, aR 100, aR 448, aR 464, aR 465, aI i, aI 1, aI 0, w8]) i0_3059 (bt rfl) rfl rfl <| ok_aloadn (pc' := 3062) i0_3061 rfl rfl <| ok_cc i0_3062 rfl (cl_v o0 m13_188 na157 rfl rfl (bt rfl) (bt rfl) rfl (by rw [ShModel_k0 hS448, o157])) ln157 (pd157 (aR 448)) <| ok_aloadn (pc' := 1) i157_0 rfl rfl <| ok_getfi (v := 1) (pc' := 4) i157_1 o157 gi9_63 (ShModel_k0 hS448) rd_eq rfl <| ok_ireti i157_4 rt157 <| ?_
  refine kt_v (pc' := 3065) rfl <| ok_iload (pc' := 3067) i0_3065 rfl rfl <| ok_kc1 (pc1 := 3072) (pc2 := 3070) i0_3067 (by decide) rfl rfl <| ok_iload (pc' := 3074) i0_3072 rfl rfl <| ok_kz1 (pc1 := 3089) (pc2 := 3077) i0_3074 (by decide) rfl rfl <| ok_goto (pc' := 3329) i0_3089 rfl <| ?_
  exact K _ _ _ _ _ _ hD (by omega) (Inv_mono (Inv_same hI (Same.thr (Same.thr Same.rfl))) (by omega))
theorem c52_0 {L n : Nat} {g : AG} {M : AM} {xs : Nat → Int32} {b i : Int} {w6 w7 w8 : AV} {Q : AO → AG → AM → Prop} (hD : HD L n g) (hI : Inv xs b M) (hi : 0 ≤ i ∧ i + 6 ≤ L) (hb : 0 ≤ b ∧ b ≤ 900000) (hl : M 100 6 = 0) (K : KK L n i b xs Q) :
    Ok 10 0 3092 [aR 1, aR 100, aR 448, aR 464, aR 465, aI i, w6, w7, w8] [] g M Q := by
  have hI0 := hI
  obtain ⟨hA, hld, hl01, q, hc, ⟨nx, sz, hH, hsz⟩, hS⟩ := hI0
  have hH0 := hH
  obtain ⟨⟨hn1, hn0⟩, ⟨hz2, hz0⟩, h10, hHj⟩ := hH0
  obtain ⟨hw0, ⟨bu, by_, hb1, hb13, hbu, hZ, hU⟩, he3, he4, he5, hId, tx, hT, hUt, htl, htr⟩ := hA
  obtain ⟨v1, hv1⟩ : ∃ u9 : Int, M 1 (i + 1) = u9 := ⟨_, rfl⟩
  have hr1 : -2147483648 ≤ v1 ∧ v1 < 2147483648 := hv1 ▸ scr_rg hw0 (i + 1)
  obtain ⟨v2, hv2⟩ : ∃ u9 : Int, M 1 (i + 2) = u9 := ⟨_, rfl⟩
  have hr2 : -2147483648 ≤ v2 ∧ v2 < 2147483648 := hv2 ▸ scr_rg hw0 (i + 2)
  have hS1 := HD_s hD
  have hS100 := HD_y hD
  have hS448 := HD_o hD
  have hS464 := HD_u hD
  have hS465 := HD_ud hD
  refine ok_aloadn (pc' := 3093) i0_3092 rfl rfl <| ok_aloadn (pc' := 3094) i0_3093 rfl rfl <| ok_iload (pc' := 3096) i0_3094 rfl rfl <| ok_iconst (pc' := 3097) i0_3096 rfl <| ok_iadd (v := (i + 1)) (pc' := 3098) i0_3097 rfl rfl <| ok_iaload (v := v1) (pc' := 3099) i0_3098 (ShScr_k0 hS1) (by decide) (ShScr_l0 hS1) (by omega) hv1 rfl <| ok_aloadn (pc' := 3100) i0_3099 rfl rfl <| ok_iload (pc' := 3102) i0_3100 rfl rfl <| ?_
  refine ok_iconst (pc' := 3103) i0_3102 rfl <| ok_iadd (v := (i + 2)) (pc' := 3104) i0_3103 rfl rfl <| ok_iaload (v := v2) (pc' := 3105) i0_3104 (ShScr_k0 hS1) (by decide) (ShScr_l0 hS1) (by omega) hv2 rfl <| ok_aloadn (pc' := 3106) i0_3105 rfl rfl <| ok_cc i0_3106 rfl (cl_s o0 m13_351 na325 rfl rfl (bt rfl) (bt rfl) rfl) ln325 (pd325 (aR 100) (aI v1) (aI v2) (aR 464)) <| ok_aloadn (pc' := 1) i325_0 rfl rfl <| ok_iconst (pc' := 2) i325_1 rfl <| ok_aloadn (pc' := 3) i325_2 rfl rfl <| ?_
  refine ok_iloadn (pc' := 4) i325_3 rfl rfl <| ok_iloadn (pc' := 5) i325_4 rfl rfl <| ok_cc i325_5 rfl (cl_v o325 m13_161 na151 rfl rfl (bt rfl) (bt rfl) rfl (by rw [ShYard_k0 hS100, o151])) ln151 (pd151 (aR 100) (aI v1) (aI v2)) <| ok_aloadn (pc' := 1) i151_0 rfl rfl <| ok_cc i151_1 rfl (cl_v o151 m0_132 na99 rfl rfl (bt rfl) (bt rfl) rfl (by rw [ShYard_k0 hS100, o99])) ln99 (pd99 (aR 100)) <| ok_aloadn (pc' := 1) i99_0 rfl rfl <| ok_getfi (v := 0) (pc' := 4) i99_1 o99 gi0_268 (ShYard_k0 hS100) hl rfl <| ok_kz0 (pc1 := 18) (pc2 := 7) i99_4 (by decide) rfl rfl <| ?_
  refine ok_throw th99_7 (bt rfl) <| kt_x hh151 <| kt_h hn325 hf325_5_12 hr325_13 <| kt_v (pc' := 3109) rfl <| ?_
  refine ok_al hD (fun g hD => ?_)
  have hS448 := HD_o hD
  have hS1 := HD_s hD
  have hS464 := HD_u hD
  have hS465 := HD_ud hD
  refine ok_istore (pc' := 3111) (ls' := [aR 1, aR 100, aR 448, aR 464, aR 465, aI i, aI 1, w7, w8]) i0_3109 (bt rfl) rfl rfl <| ok_aloadn (pc' := 3112) i0_3111 rfl rfl <| ok_aloadn (pc' := 3113) i0_3112 rfl rfl <| ok_iload (pc' := 3115) i0_3113 rfl rfl <| ok_iconst (pc' := 3116) i0_3115 rfl <| ok_iadd (v := (i + 1)) (pc' := 3117) i0_3116 rfl rfl <| ok_iaload (v := v1) (pc' := 3118) i0_3117 (ShScr_k0 hS1) (by decide) (ShScr_l0 hS1) (by omega) hv1 rfl <| ok_aloadn (pc' := 3119) i0_3118 rfl rfl <| ?_
  refine ok_iload (pc' := 3121) i0_3119 rfl rfl <| ok_iconst (pc' := 3122) i0_3121 rfl <| ok_iadd (v := (i + 2)) (pc' := 3123) i0_3122 rfl rfl <| ok_iaload (v := v2) (pc' := 3124) i0_3123 (ShScr_k0 hS1) (by decide) (ShScr_l0 hS1) (by omega) hv2 rfl <| ok_cc i0_3124 rfl (cl_v o0 m13_353 na275 rfl rfl (bt rfl) (bt rfl) rfl (by rw [ShModel_k0 hS448, o275])) ln275 (pd275 (aR 448) (aI v1) (aI v2)) <| ok_aloadn (pc' := 1) i275_0 rfl rfl <| ok_cc i275_1 rfl (cl_v o275 m9_216 na188 rfl rfl (bt rfl) (bt rfl) rfl (by rw [ShModel_k0 hS448, o188])) ln188 (pd188 (aR 448)) <| ok_aloadn (pc' := 1) i188_0 rfl rfl <| ?_
  refine ok_iconst (pc' := 2) i188_1 rfl <| ok_putfj (kk := 0) (pc' := 5) i188_2 o188 pi188_63 (ShModel_k0 hS448) rfl rfl <| ok_aloadn (pc' := 6) i188_5 rfl rfl <| ok_aloadn (pc' := 7) i188_6 rfl rfl <| ok_getfi (v := 0) (pc' := 10) i188_7 o188 gi9_66 (ShModel_k0 hS448) (rd_ni (by decide) (hld.trans hl)) rfl <| ok_kz0 (pc1 := 17) (pc2 := 13) i188_10 (by decide) rfl rfl <| ok_iconst (pc' := 14) i188_13 rfl <| ok_goto (pc' := 18) i188_14 rfl <| ?_
  refine ok_iconst (pc' := 19) i188_18 rfl <| ok_cc i188_19 rfl (cl_v o188 m9_70 na165 rfl rfl (bt rfl) (bt rfl) rfl (by rw [ShModel_k0 hS448, o165])) ln165 (pd165 (aR 448) (aI 1) (aI 1)) <| ok_aloadn (pc' := 1) i165_0 rfl rfl <| ok_getfi (v := 0) (pc' := 4) i165_1 o165 gi9_63 (ShModel_k0 hS448) rd_eq rfl <| ok_kz0 (pc1 := 16) (pc2 := 7) i165_4 (by decide) rfl rfl <| ok_iloadn (pc' := 8) i165_7 rfl rfl <| ok_kz0 (pc1 := 16) (pc2 := 11) i165_8 (by decide) rfl rfl <| ok_aloadn (pc' := 12) i165_11 rfl rfl <| ?_
  refine ok_iloadn (pc' := 13) i165_12 rfl rfl <| ok_putfj (kk := 0) (pc' := 16) i165_13 o165 pi165_63 (ShModel_k0 hS448) rfl rfl <| ok_aloadn (pc' := 17) i165_16 rfl rfl <| ok_getfi (v := 1) (pc' := 20) i165_17 o165 gi9_63 (ShModel_k0 hS448) rd_eq rfl <| ok_kz0 (pc1 := 27) (pc2 := 23) i165_20 (by decide) rfl rfl <| ok_iconst (pc' := 24) i165_23 rfl <| ok_goto (pc' := 28) i165_24 rfl <| ok_iretz i165_28 rt165 (by decide) <| ?_
  refine kt_v (pc' := 22) rfl <| ok_iretz i188_22 rt188 (by decide) <| kt_v (pc' := 4) rfl <| ok_kz1 (pc1 := 49) (pc2 := 7) i275_4 (by decide) rfl rfl <| ok_iconst (pc' := 50) i275_49 rfl <| ok_ireti i275_50 rt275 <| kt_v (pc' := 3127) rfl <| ok_istore (pc' := 3129) (ls' := [aR 1, aR 100, aR 448, aR 464, aR 465, aI i, aI 1, aI 0, w8]) i0_3127 (bt rfl) rfl rfl <| ?_
  refine ok_aloadn (pc' := 3130) i0_3129 rfl rfl <| ok_cc i0_3130 rfl (cl_v o0 m13_188 na157 rfl rfl (bt rfl) (bt rfl) rfl (by rw [ShModel_k0 hS448, o157])) ln157 (pd157 (aR 448)) <| ok_aloadn (pc' := 1) i157_0 rfl rfl <| ok_getfi (v := 1) (pc' := 4) i157_1 o157 gi9_63 (ShModel_k0 hS448) rd_eq rfl <| ok_ireti i157_4 rt157 <| kt_v (pc' := 3133) rfl <| ok_iload (pc' := 3135) i0_3133 rfl rfl <| ok_kc1 (pc1 := 3140) (pc2 := 3138) i0_3135 (by decide) rfl rfl <| ?_
  refine ok_iload (pc' := 3142) i0_3140 rfl rfl <| ok_kz1 (pc1 := 3157) (pc2 := 3145) i0_3142 (by decide) rfl rfl <| ok_goto (pc' := 3329) i0_3157 rfl <| ?_
  exact K _ _ _ _ _ _ hD (by omega) (Inv_mono (Inv_same hI (Same.thr (Same.thr Same.rfl))) (by omega))
theorem c55_0 {L n : Nat} {g : AG} {M : AM} {xs : Nat → Int32} {b i : Int} {w6 w7 w8 : AV} {Q : AO → AG → AM → Prop} (hD : HD L n g) (hI : Inv xs b M) (hi : 0 ≤ i ∧ i + 6 ≤ L) (hb : 0 ≤ b ∧ b ≤ 900000) (hl : M 100 6 = 0) (K : KK L n i b xs Q) :
    Ok 10 0 3217 [aR 1, aR 100, aR 448, aR 464, aR 465, aI i, w6, w7, w8] [] g M Q := by
  have hI0 := hI
  obtain ⟨hA, hld, hl01, q, hc, ⟨nx, sz, hH, hsz⟩, hS⟩ := hI0
  have hH0 := hH
  obtain ⟨⟨hn1, hn0⟩, ⟨hz2, hz0⟩, h10, hHj⟩ := hH0
  obtain ⟨hw0, ⟨bu, by_, hb1, hb13, hbu, hZ, hU⟩, he3, he4, he5, hId, tx, hT, hUt, htl, htr⟩ := hA
  obtain ⟨v1, hv1⟩ : ∃ u9 : Int, M 1 (i + 1) = u9 := ⟨_, rfl⟩
  have hr1 : -2147483648 ≤ v1 ∧ v1 < 2147483648 := hv1 ▸ scr_rg hw0 (i + 1)
  have hS1 := HD_s hD
  have hS100 := HD_y hD
  have hS448 := HD_o hD
  have hS464 := HD_u hD
  have hS465 := HD_ud hD
  refine ok_aloadn (pc' := 3218) i0_3217 rfl rfl <| ok_aloadn (pc' := 3219) i0_3218 rfl rfl <| ok_iload (pc' := 3221) i0_3219 rfl rfl <| ok_iconst (pc' := 3222) i0_3221 rfl <| ok_iadd (v := (i + 1)) (pc' := 3223) i0_3222 rfl rfl <| ok_iaload (v := v1) (pc' := 3224) i0_3223 (ShScr_k0 hS1) (by decide) (ShScr_l0 hS1) (by omega) hv1 rfl <| ok_aloadn (pc' := 3225) i0_3224 rfl rfl <| ok_cc i0_3225 rfl (cl_s o0 m13_361 na327 rfl rfl (bt rfl) (bt rfl) rfl) ln327 (pd327 (aR 100) (aI v1) (aR 464)) <| ?_
  refine ok_aloadn (pc' := 1) i327_0 rfl rfl <| ok_iconst (pc' := 2) i327_1 rfl <| ok_aloadn (pc' := 3) i327_2 rfl rfl <| ok_iloadn (pc' := 4) i327_3 rfl rfl <| ok_cc i327_4 rfl (cl_v o327 m13_167 na153 rfl rfl (bt rfl) (bt rfl) rfl (by rw [ShYard_k0 hS100, o153])) ln153 (pd153 (aR 100) (aI v1)) <| ok_aloadn (pc' := 1) i153_0 rfl rfl <| ok_cc i153_1 rfl (cl_v o153 m0_132 na99 rfl rfl (bt rfl) (bt rfl) rfl (by rw [ShYard_k0 hS100, o99])) ln99 (pd99 (aR 100)) <| ok_aloadn (pc' := 1) i99_0 rfl rfl <| ?_
  refine ok_getfi (v := 0) (pc' := 4) i99_1 o99 gi0_268 (ShYard_k0 hS100) hl rfl <| ok_kz0 (pc1 := 18) (pc2 := 7) i99_4 (by decide) rfl rfl <| ok_throw th99_7 (bt rfl) <| kt_x hh153 <| kt_h hn327 hf327_4_12 hr327_12 <| kt_v (pc' := 3228) rfl <| ?_
  refine ok_al hD (fun g hD => ?_)
  have hS448 := HD_o hD
  have hS1 := HD_s hD
  have hS464 := HD_u hD
  have hS465 := HD_ud hD
  refine ok_istore (pc' := 3230) (ls' := [aR 1, aR 100, aR 448, aR 464, aR 465, aI i, aI 1, w7, w8]) i0_3228 (bt rfl) rfl rfl <| ok_aloadn (pc' := 3231) i0_3230 rfl rfl <| ok_aloadn (pc' := 3232) i0_3231 rfl rfl <| ok_iload (pc' := 3234) i0_3232 rfl rfl <| ok_iconst (pc' := 3235) i0_3234 rfl <| ok_iadd (v := (i + 1)) (pc' := 3236) i0_3235 rfl rfl <| ok_iaload (v := v1) (pc' := 3237) i0_3236 (ShScr_k0 hS1) (by decide) (ShScr_l0 hS1) (by omega) hv1 rfl <| ok_cc i0_3237 rfl (cl_v o0 m13_363 na277 rfl rfl (bt rfl) (bt rfl) rfl (by rw [ShModel_k0 hS448, o277])) ln277 (pd277 (aR 448) (aI v1)) <| ?_
  refine ok_aloadn (pc' := 1) i277_0 rfl rfl <| ok_cc i277_1 rfl (cl_v o277 m9_216 na188 rfl rfl (bt rfl) (bt rfl) rfl (by rw [ShModel_k0 hS448, o188])) ln188 (pd188 (aR 448)) <| ok_aloadn (pc' := 1) i188_0 rfl rfl <| ok_iconst (pc' := 2) i188_1 rfl <| ok_putfj (kk := 0) (pc' := 5) i188_2 o188 pi188_63 (ShModel_k0 hS448) rfl rfl <| ok_aloadn (pc' := 6) i188_5 rfl rfl <| ok_aloadn (pc' := 7) i188_6 rfl rfl <| ok_getfi (v := 0) (pc' := 10) i188_7 o188 gi9_66 (ShModel_k0 hS448) (rd_ni (by decide) (hld.trans hl)) rfl <| ?_
  refine ok_kz0 (pc1 := 17) (pc2 := 13) i188_10 (by decide) rfl rfl <| ok_iconst (pc' := 14) i188_13 rfl <| ok_goto (pc' := 18) i188_14 rfl <| ok_iconst (pc' := 19) i188_18 rfl <| ok_cc i188_19 rfl (cl_v o188 m9_70 na165 rfl rfl (bt rfl) (bt rfl) rfl (by rw [ShModel_k0 hS448, o165])) ln165 (pd165 (aR 448) (aI 1) (aI 1)) <| ok_aloadn (pc' := 1) i165_0 rfl rfl <| ok_getfi (v := 0) (pc' := 4) i165_1 o165 gi9_63 (ShModel_k0 hS448) rd_eq rfl <| ok_kz0 (pc1 := 16) (pc2 := 7) i165_4 (by decide) rfl rfl <| ?_
  refine ok_iloadn (pc' := 8) i165_7 rfl rfl <| ok_kz0 (pc1 := 16) (pc2 := 11) i165_8 (by decide) rfl rfl <| ok_aloadn (pc' := 12) i165_11 rfl rfl <| ok_iloadn (pc' := 13) i165_12 rfl rfl <| ok_putfj (kk := 0) (pc' := 16) i165_13 o165 pi165_63 (ShModel_k0 hS448) rfl rfl <| ok_aloadn (pc' := 17) i165_16 rfl rfl <| ok_getfi (v := 1) (pc' := 20) i165_17 o165 gi9_63 (ShModel_k0 hS448) rd_eq rfl <| ok_kz0 (pc1 := 27) (pc2 := 23) i165_20 (by decide) rfl rfl <| ?_
  refine ok_iconst (pc' := 24) i165_23 rfl <| ok_goto (pc' := 28) i165_24 rfl <| ok_iretz i165_28 rt165 (by decide) <| kt_v (pc' := 22) rfl <| ok_iretz i188_22 rt188 (by decide) <| kt_v (pc' := 4) rfl <| ok_kz1 (pc1 := 29) (pc2 := 7) i277_4 (by decide) rfl rfl <| ok_iconst (pc' := 30) i277_29 rfl <| ?_
  refine ok_ireti i277_30 rt277 <| kt_v (pc' := 3240) rfl <| ok_istore (pc' := 3242) (ls' := [aR 1, aR 100, aR 448, aR 464, aR 465, aI i, aI 1, aI 0, w8]) i0_3240 (bt rfl) rfl rfl <| ok_aloadn (pc' := 3243) i0_3242 rfl rfl <| ok_cc i0_3243 rfl (cl_v o0 m13_188 na157 rfl rfl (bt rfl) (bt rfl) rfl (by rw [ShModel_k0 hS448, o157])) ln157 (pd157 (aR 448)) <| ok_aloadn (pc' := 1) i157_0 rfl rfl <| ok_getfi (v := 1) (pc' := 4) i157_1 o157 gi9_63 (ShModel_k0 hS448) rd_eq rfl <| ok_ireti i157_4 rt157 <| ?_
  refine kt_v (pc' := 3246) rfl <| ok_iload (pc' := 3248) i0_3246 rfl rfl <| ok_kc1 (pc1 := 3253) (pc2 := 3251) i0_3248 (by decide) rfl rfl <| ok_iload (pc' := 3255) i0_3253 rfl rfl <| ok_kz1 (pc1 := 3270) (pc2 := 3258) i0_3255 (by decide) rfl rfl <| ok_goto (pc' := 3329) i0_3270 rfl <| ?_
  exact K _ _ _ _ _ _ hD (by omega) (Inv_mono (Inv_same hI (Same.thr (Same.thr Same.rfl))) (by omega))
