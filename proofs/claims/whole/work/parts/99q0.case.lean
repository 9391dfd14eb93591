-- the law's cases
def CX (X : CT) (nm : String) (b L : Nat) (xs : Nat → Int32) : Prop := Fx X (mWl nm) ∧ Rm X 30 600128 7301097 ∧ Scr X b L xs ∧ (∀ q, cA X q ↔ (cS X).heap.size ≤ q) ∧ L ≤ 384
def crd (kn : Bool) : Nat := if kn then 0 else 95000
def PX (V : Nat → Nat → Int) (σ : Shp) (ow : Nat → Nat) (y : Dy) (l : Nat) (S : PS) (kn : Bool) (k n c : Nat) (i : Int) (L : Nat) : Prop := LW V σ ow y l S kn ∧ k ≤ 70 + 30 * c ∧ n + crd kn ≤ 355000 + 96000 * c ∧ c < 64 ∧ 0 ≤ i ∧ i + 6 ≤ (L : Int)
def NX (X : CT) (i : Int) (c : Nat) : Prop := ∀ (V : Nat → Nat → Int) (σ : Shp) (ow : Nat → Nat) (y : Dy) (l : Nat) (S : PS) (kn : Bool) (k n : Nat), LW V σ ow y l S kn → k ≤ 70 + 30 * (c + 1) → n + crd kn ≤ 355000 + 96000 * (c + 1) → AW X 1652 [some (vR (BG + 39)), some (vR 1), some (vR 53), some (vR 64), some (vI i), none, none] [] (V, σ) k n
theorem crd_le (kn : Bool) : crd kn ≤ 95000 := by cases kn <;> decide
theorem crd_kn (w : Int) (kn : Bool) : crd (knW w kn) ≤ crd kn := by
  unfold knW
  split
  · exact Nat.zero_le _
  · exact Nat.le_refl _
theorem kn5 (kn : Bool) : (if kn = true then 0 else 5) ≤ 5 := by cases kn <;> decide
theorem kn19 (kn : Bool) : (if kn = true then 0 else 190000) = 2 * crd kn := by cases kn <;> rfl
theorem bz_01 (x : Bool) : bz x = 0 ∨ bz x = 1 := by cases x; exact Or.inl rfl; exact Or.inr rfl
theorem mxQ_le (Q A : Nat) : A ≤ mxQ Q A := by unfold mxQ; split <;> omega
theorem dW_law_240 : decode code 240 = .ok (.aload_n 1, 1) := by decide +kernel
theorem dW_law_241 : decode code 241 = .ok (.aload_n 0, 1) := by decide +kernel
theorem dW_law_242 : decode code 242 = .ok (.iload 4, 2) := by decide +kernel
theorem dW_law_244 : decode code 244 = .ok (.iconst 1, 1) := by decide +kernel
theorem dW_law_245 : decode code 245 = .ok (.iadd, 1) := by decide +kernel
theorem dW_law_246 : decode code 246 = .ok (.iaload, 1) := by decide +kernel
theorem dW_law_247 : decode code 247 = .ok (.aload_n 0, 1) := by decide +kernel
theorem dW_law_248 : decode code 248 = .ok (.iload 4, 2) := by decide +kernel
theorem dW_law_250 : decode code 250 = .ok (.iconst 2, 1) := by decide +kernel
theorem dW_law_251 : decode code 251 = .ok (.iadd, 1) := by decide +kernel
theorem dW_law_252 : decode code 252 = .ok (.iaload, 1) := by decide +kernel
theorem dW_law_253 : decode code 253 = .ok (.aload_n 0, 1) := by decide +kernel
theorem dW_law_254 : decode code 254 = .ok (.iload 4, 2) := by decide +kernel
theorem dW_law_256 : decode code 256 = .ok (.iconst 3, 1) := by decide +kernel
theorem dW_law_257 : decode code 257 = .ok (.iadd, 1) := by decide +kernel
theorem dW_law_258 : decode code 258 = .ok (.iaload, 1) := by decide +kernel
theorem dW_law_259 : decode code 259 = .ok (.aload_n 0, 1) := by decide +kernel
theorem dW_law_260 : decode code 260 = .ok (.iload 4, 2) := by decide +kernel
theorem dW_law_262 : decode code 262 = .ok (.iconst 4, 1) := by decide +kernel
theorem dW_law_263 : decode code 263 = .ok (.iadd, 1) := by decide +kernel
theorem dW_law_264 : decode code 264 = .ok (.iaload, 1) := by decide +kernel
theorem dW_law_265 : decode code 265 = .ok (.aload_n 0, 1) := by decide +kernel
theorem dW_law_266 : decode code 266 = .ok (.iload 4, 2) := by decide +kernel
theorem dW_law_268 : decode code 268 = .ok (.iconst 5, 1) := by decide +kernel
theorem dW_law_269 : decode code 269 = .ok (.iadd, 1) := by decide +kernel
theorem dW_law_270 : decode code 270 = .ok (.iaload, 1) := by decide +kernel
theorem dW_law_271 : decode code 271 = .ok (.invokevirtual 19, 3) := by decide +kernel
theorem dW_law_274 : decode code 274 = .ok (.aload_n 2, 1) := by decide +kernel
theorem dW_law_275 : decode code 275 = .ok (.aload_n 0, 1) := by decide +kernel
theorem dW_law_276 : decode code 276 = .ok (.iload 4, 2) := by decide +kernel
theorem dW_law_278 : decode code 278 = .ok (.iconst 1, 1) := by decide +kernel
theorem dW_law_279 : decode code 279 = .ok (.iadd, 1) := by decide +kernel
theorem dW_law_280 : decode code 280 = .ok (.iaload, 1) := by decide +kernel
theorem dW_law_281 : decode code 281 = .ok (.aload_n 0, 1) := by decide +kernel
theorem dW_law_282 : decode code 282 = .ok (.iload 4, 2) := by decide +kernel
theorem dW_law_284 : decode code 284 = .ok (.iconst 2, 1) := by decide +kernel
theorem dW_law_285 : decode code 285 = .ok (.iadd, 1) := by decide +kernel
theorem dW_law_286 : decode code 286 = .ok (.iaload, 1) := by decide +kernel
theorem dW_law_287 : decode code 287 = .ok (.aload_n 0, 1) := by decide +kernel
theorem dW_law_288 : decode code 288 = .ok (.iload 4, 2) := by decide +kernel
theorem dW_law_290 : decode code 290 = .ok (.iconst 3, 1) := by decide +kernel
theorem dW_law_291 : decode code 291 = .ok (.iadd, 1) := by decide +kernel
theorem dW_law_292 : decode code 292 = .ok (.iaload, 1) := by decide +kernel
theorem dW_law_293 : decode code 293 = .ok (.aload_n 0, 1) := by decide +kernel
theorem dW_law_294 : decode code 294 = .ok (.iload 4, 2) := by decide +kernel
theorem dW_law_296 : decode code 296 = .ok (.iconst 4, 1) := by decide +kernel
theorem dW_law_297 : decode code 297 = .ok (.iadd, 1) := by decide +kernel
theorem dW_law_298 : decode code 298 = .ok (.iaload, 1) := by decide +kernel
theorem dW_law_299 : decode code 299 = .ok (.aload_n 0, 1) := by decide +kernel
theorem dW_law_300 : decode code 300 = .ok (.iload 4, 2) := by decide +kernel
theorem dW_law_302 : decode code 302 = .ok (.iconst 5, 1) := by decide +kernel
theorem dW_law_303 : decode code 303 = .ok (.iadd, 1) := by decide +kernel
theorem dW_law_304 : decode code 304 = .ok (.iaload, 1) := by decide +kernel
theorem dW_law_305 : decode code 305 = .ok (.invokevirtual 23, 3) := by decide +kernel
theorem dW_law_308 : decode code 308 = .ok (.if_icmp .eq 1344, 3) := by decide +kernel
theorem dW_law_311 : decode code 311 = .ok (.iconst 0, 1) := by decide +kernel
theorem dW_law_312 : decode code 312 = .ok (.ireturn, 1) := by decide +kernel
theorem dW_law_313 : decode code 313 = .ok (.aload_n 1, 1) := by decide +kernel
theorem dW_law_314 : decode code 314 = .ok (.aload_n 0, 1) := by decide +kernel
theorem dW_law_315 : decode code 315 = .ok (.iload 4, 2) := by decide +kernel
theorem dW_law_317 : decode code 317 = .ok (.iconst 1, 1) := by decide +kernel
theorem dW_law_318 : decode code 318 = .ok (.iadd, 1) := by decide +kernel
theorem dW_law_319 : decode code 319 = .ok (.iaload, 1) := by decide +kernel
theorem dW_law_320 : decode code 320 = .ok (.invokevirtual 24, 3) := by decide +kernel
theorem dW_law_323 : decode code 323 = .ok (.aload_n 2, 1) := by decide +kernel
theorem dW_law_324 : decode code 324 = .ok (.aload_n 0, 1) := by decide +kernel
theorem dW_law_325 : decode code 325 = .ok (.iload 4, 2) := by decide +kernel
theorem dW_law_327 : decode code 327 = .ok (.iconst 1, 1) := by decide +kernel
theorem dW_law_328 : decode code 328 = .ok (.iadd, 1) := by decide +kernel
theorem dW_law_329 : decode code 329 = .ok (.iaload, 1) := by decide +kernel
theorem dW_law_330 : decode code 330 = .ok (.invokevirtual 27, 3) := by decide +kernel
theorem dW_law_333 : decode code 333 = .ok (.if_icmp .eq 1319, 3) := by decide +kernel
theorem dW_law_336 : decode code 336 = .ok (.iconst 0, 1) := by decide +kernel
theorem dW_law_337 : decode code 337 = .ok (.ireturn, 1) := by decide +kernel
section Caseq
variable {X : CT} {b L : Nat} {xs : Nat → Int32} {V : Nat → Nat → Int} {σ : Shp} {ow : Nat → Nat} {y : Dy} {l : Nat} {S : PS} {kn : Bool} {k n c : Nat} {i : Int}
theorem ca_feed {nm : String} (hX : CX X nm b L xs) (hP : PX V σ ow y l S kn k n c i L) (nx : NX X i c) : AW X 240 [some (vR (BG + 39)), some (vR 1), some (vR 53), some (vR 64), some (vI i), none, none] [] (V, σ) k n := by
  obtain ⟨F, hm, HS, hA, hL⟩ := hX
  obtain ⟨h, hk, hn, hc, h0, hi⟩ := hP
  have hBG : BG = 1000000000 := rfl
  have hcr : crd kn ≤ 95000 := crd_le kn
  have h1 := h.o1
  refine aw_sz hA (fun hz => ?_)
  have hz : sX σ ≤ k + 1 := hz
  refine aw_aload_1 (q := 241) F dW_law_240 rfl ?_
  refine aw_aload_0 (q := 242) F dW_law_241 rfl ?_
  refine aw_iload_4 (q := 244) F dW_law_242 rfl ?_
  refine aw_iconst (q := 245) F dW_law_244 rfl (by decide) ?_
  refine aw_iadd (q := 246) F dW_law_245 rfl (by constructor <;> omega) ?_
  refine aw_sld (q := 247) F HS dW_law_246 rfl (by omega) (by omega) ?_
  refine aw_aload_0 (q := 248) F dW_law_247 rfl ?_
  refine aw_iload_4 (q := 250) F dW_law_248 rfl ?_
  refine aw_iconst (q := 251) F dW_law_250 rfl (by decide) ?_
  refine aw_iadd (q := 252) F dW_law_251 rfl (by constructor <;> omega) ?_
  refine aw_sld (q := 253) F HS dW_law_252 rfl (by omega) (by omega) ?_
  refine aw_aload_0 (q := 254) F dW_law_253 rfl ?_
  refine aw_iload_4 (q := 256) F dW_law_254 rfl ?_
  refine aw_iconst (q := 257) F dW_law_256 rfl (by decide) ?_
  refine aw_iadd (q := 258) F dW_law_257 rfl (by constructor <;> omega) ?_
  refine aw_sld (q := 259) F HS dW_law_258 rfl (by omega) (by omega) ?_
  refine aw_aload_0 (q := 260) F dW_law_259 rfl ?_
  refine aw_iload_4 (q := 262) F dW_law_260 rfl ?_
  refine aw_iconst (q := 263) F dW_law_262 rfl (by decide) ?_
  refine aw_iadd (q := 264) F dW_law_263 rfl (by constructor <;> omega) ?_
  refine aw_sld (q := 265) F HS dW_law_264 rfl (by omega) (by omega) ?_
  refine aw_aload_0 (q := 266) F dW_law_265 rfl ?_
  refine aw_iload_4 (q := 268) F dW_law_266 rfl ?_
  refine aw_iconst (q := 269) F dW_law_268 rfl (by decide) ?_
  refine aw_iadd (q := 270) F dW_law_269 rfl (by constructor <;> omega) ?_
  refine aw_sld (q := 271) F HS dW_law_270 rfl (by omega) (by omega) ?_
  refine av_callV5 (q := 274) (ci := 7) F hm mL_feed_i mL_feed_n lW_19 dW_law_271 rfl rfl rfl (by first | exact h1 | exact hM.mo.o) (by decide) (by omega) (by omega) (Nat.le_of_ble_eq_true rfl) (wL_feed h.cw (fun v271 sg271 w271 y271 d271 f271 => ?_))
  have hM := h.m1 f271
  refine aw_aload_2 (q := 275) F dW_law_274 rfl ?_
  refine aw_aload_0 (q := 276) F dW_law_275 rfl ?_
  refine aw_iload_4 (q := 278) F dW_law_276 rfl ?_
  refine aw_iconst (q := 279) F dW_law_278 rfl (by decide) ?_
  refine aw_iadd (q := 280) F dW_law_279 rfl (by constructor <;> omega) ?_
  refine aw_sld (q := 281) F HS dW_law_280 rfl (by omega) (by omega) ?_
  refine aw_aload_0 (q := 282) F dW_law_281 rfl ?_
  refine aw_iload_4 (q := 284) F dW_law_282 rfl ?_
  refine aw_iconst (q := 285) F dW_law_284 rfl (by decide) ?_
  refine aw_iadd (q := 286) F dW_law_285 rfl (by constructor <;> omega) ?_
  refine aw_sld (q := 287) F HS dW_law_286 rfl (by omega) (by omega) ?_
  refine aw_aload_0 (q := 288) F dW_law_287 rfl ?_
  refine aw_iload_4 (q := 290) F dW_law_288 rfl ?_
  refine aw_iconst (q := 291) F dW_law_290 rfl (by decide) ?_
  refine aw_iadd (q := 292) F dW_law_291 rfl (by constructor <;> omega) ?_
  refine aw_sld (q := 293) F HS dW_law_292 rfl (by omega) (by omega) ?_
  refine aw_aload_0 (q := 294) F dW_law_293 rfl ?_
  refine aw_iload_4 (q := 296) F dW_law_294 rfl ?_
  refine aw_iconst (q := 297) F dW_law_296 rfl (by decide) ?_
  refine aw_iadd (q := 298) F dW_law_297 rfl (by constructor <;> omega) ?_
  refine aw_sld (q := 299) F HS dW_law_298 rfl (by omega) (by omega) ?_
  refine aw_aload_0 (q := 300) F dW_law_299 rfl ?_
  refine aw_iload_4 (q := 302) F dW_law_300 rfl ?_
  refine aw_iconst (q := 303) F dW_law_302 rfl (by decide) ?_
  refine aw_iadd (q := 304) F dW_law_303 rfl (by constructor <;> omega) ?_
  refine aw_sld (q := 305) F HS dW_law_304 rfl (by omega) (by omega) ?_
  refine av_callV5 (q := 308) (ci := 9) F hm mM_feed_i mM_feed_n lW_23 dW_law_305 rfl rfl rfl (by first | exact h1 | exact hM.mo.o) (by decide) (by omega) (by omega) (Nat.le_of_ble_eq_true rfl) (wM_feed hM d271.ok (fun v305 m305 r305 => ?_))
  refine aw_icmp_eq (q := 311) (t := 1652) F dW_law_308 rfl (by decide) (fun c308 => ?_) (fun c308 => by exact absurd rfl c308)
  exact nx _ _ _ _ _ _ _ _ _ (h.st d271 f271 m305 r305) (by omega) (by omega)
theorem ca_lane {nm : String} (hX : CX X nm b L xs) (hP : PX V σ ow y l S kn k n c i L) (nx : NX X i c) : AW X 313 [some (vR (BG + 39)), some (vR 1), some (vR 53), some (vR 64), some (vI i), none, none] [] (V, σ) k n := by
  obtain ⟨F, hm, HS, hA, hL⟩ := hX
  obtain ⟨h, hk, hn, hc, h0, hi⟩ := hP
  have hBG : BG = 1000000000 := rfl
  have hcr : crd kn ≤ 95000 := crd_le kn
  have h1 := h.o1
  refine aw_sz hA (fun hz => ?_)
  have hz : sX σ ≤ k + 1 := hz
  have hcf : crd false = 95000 := rfl
  refine aw_aload_1 (q := 314) F dW_law_313 rfl ?_
  refine aw_aload_0 (q := 315) F dW_law_314 rfl ?_
  refine aw_iload_4 (q := 317) F dW_law_315 rfl ?_
  refine aw_iconst (q := 318) F dW_law_317 rfl (by decide) ?_
  refine aw_iadd (q := 319) F dW_law_318 rfl (by constructor <;> omega) ?_
  refine aw_sld (q := 320) F HS dW_law_319 rfl (by omega) (by omega) ?_
  refine av_callV1 (q := 323) (ci := 7) F hm mL_lane_i mL_lane_n lW_24 dW_law_320 rfl rfl rfl (by first | exact h1 | exact hM.mo.o) (by decide) (by omega) (by omega) (Nat.le_of_ble_eq_true rfl) (wL_lane (by omega) h.cw (fun q320 v320 sg320 w320 y320 d320 f320 => ?_) (fun u320 z320 q320 e320 v320 sg320 w320 y320 d320 f320 => ?_) (fun t320 q320 e320 v320 sg320 w320 y320 d320 f320 => ?_))
  · have hM := h.m1 f320
    have hx1 : sX σ ≤ sX sg320 := f320.1
    have hx2 := h.x64
    refine aw_sz hA (fun hz2 => ?_)
    have hz2 : sX sg320 ≤ k + 9 + 1 := hz2
    refine aw_aload_2 (q := 324) F dW_law_323 rfl ?_
    refine aw_aload_0 (q := 325) F dW_law_324 rfl ?_
    refine aw_iload_4 (q := 327) F dW_law_325 rfl ?_
    refine aw_iconst (q := 328) F dW_law_327 rfl (by decide) ?_
    refine aw_iadd (q := 329) F dW_law_328 rfl (by constructor <;> omega) ?_
    refine aw_sld (q := 330) F HS dW_law_329 rfl (by omega) (by omega) ?_
    refine av_callV1 (q := 333) (ci := 9) F hm mM_lane_i mM_lane_n lW_27 dW_law_330 rfl rfl rfl (by first | exact h1 | exact hM.mo.o) (by decide) (by omega) (by omega) (Nat.le_of_ble_eq_true rfl) (wM_lane (by omega) (by omega) hM (fun q330 v330 m330 r330 => ?_) (fun _ _ z => absurd z q320) (fun _ z => absurd z q320))
    skip
    refine aw_icmp_eq (q := 336) (t := 1652) F dW_law_333 rfl (by decide) (fun c333 => ?_) (fun c333 => absurd c333 (by decide))
    exact nx _ _ _ _ _ _ _ _ _ (h.st d320 f320 m330 r330) (by omega) (by omega)
  · have hM := h.m1 f320
    have hx1 : sX σ ≤ sX sg320 := f320.1
    have hx2 := h.x64
    refine aw_sz hA (fun hz2 => ?_)
    have hz2 : sX sg320 ≤ k + 9 + 1 := hz2
    refine aw_aload_2 (q := 324) F dW_law_323 rfl ?_
    refine aw_aload_0 (q := 325) F dW_law_324 rfl ?_
    refine aw_iload_4 (q := 327) F dW_law_325 rfl ?_
    refine aw_iconst (q := 328) F dW_law_327 rfl (by decide) ?_
    refine aw_iadd (q := 329) F dW_law_328 rfl (by constructor <;> omega) ?_
    refine aw_sld (q := 330) F HS dW_law_329 rfl (by omega) (by omega) ?_
    refine av_callV1 (q := 333) (ci := 9) F hm mM_lane_i mM_lane_n lW_27 dW_law_330 rfl rfl rfl (by first | exact h1 | exact hM.mo.o) (by decide) (by omega) (by omega) (Nat.le_of_ble_eq_true rfl) (wM_lane (by omega) (by omega) hM (fun z => absurd q320 z) (fun u330 z330 q330 e330 v330 sg330 m330 r330 => ?_) (fun _ _ z => absurd (z.symm.trans e320) (fun z => by cases z)))
    have hq := Sum.inr.inj (e320.symm.trans e330)
    cases hq
    refine aw_icmp_eq (q := 336) (t := 1652) F dW_law_333 rfl (by decide) (fun c333 => ?_) (fun c333 => absurd c333 (by decide))
    exact nx _ _ _ _ _ _ _ _ _ (h.lf d320 f320 m330 r330) (by omega) (by omega)
  · have hM := h.m1 f320
    have hx1 : sX σ ≤ sX sg320 := f320.1
    have hx2 := h.x64
    refine aw_sz hA (fun hz2 => ?_)
    have hz2 : sX sg320 ≤ k + 9 + 1 := hz2
    refine aw_aload_2 (q := 324) F dW_law_323 rfl ?_
    refine aw_aload_0 (q := 325) F dW_law_324 rfl ?_
    refine aw_iload_4 (q := 327) F dW_law_325 rfl ?_
    refine aw_iconst (q := 328) F dW_law_327 rfl (by decide) ?_
    refine aw_iadd (q := 329) F dW_law_328 rfl (by constructor <;> omega) ?_
    refine aw_sld (q := 330) F HS dW_law_329 rfl (by omega) (by omega) ?_
    refine av_callV1 (q := 333) (ci := 9) F hm mM_lane_i mM_lane_n lW_27 dW_law_330 rfl rfl rfl (by first | exact h1 | exact hM.mo.o) (by decide) (by omega) (by omega) (Nat.le_of_ble_eq_true rfl) (wM_lane (by omega) (by omega) hM (fun z => absurd q320 z) (fun _ _ _ z => absurd (z.symm.trans e320) (fun z => by cases z)) (fun t330 q330 e330 v330 sg330 m330 z330 r330 => ?_))
    have hq := Sum.inl.inj (e320.symm.trans e330)
    subst hq
    refine aw_icmp_eq (q := 336) (t := 1652) F dW_law_333 rfl (by decide) (fun c333 => ?_) (fun c333 => by exact absurd rfl c333)
    exact nx _ _ _ _ _ _ _ _ _ (h.lg d320 f320 m330 r330) (by omega) (by omega)
end Caseq
