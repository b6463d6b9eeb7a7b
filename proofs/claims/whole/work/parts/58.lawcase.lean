/-! ===== the law, call by call ===== -/
theorem pos_set (k w z : Int) : pos (rv 0 :: [iv k, iv w, iv z]) := by
  intro q h
  simp only [List.mem_cons, List.not_mem_nil, or_false] at h
  rcases h with h | h | h | h
  · cases h
    decide
  · cases h
  · cases h
  · cases h
theorem s_icmp_same {v : Ev} {cc : ByteArray} {nL d pc : Nat} {own : String} {as : List Nat} {sh : List Sh} {ls : List (Option Vv)} {st : List Vv} {M : Mm} {mc ms : Nat} (E : Cx v cc nL own d) {a off : Int} (tgt : Nat) (hd : decode cc pc = .ok (.if_icmp .eq off, 3)) (ht : (pc : Int) + off = (tgt : Int)) (kt : Ws v as sh mc ms tgt ls st M) : Ws v as sh mc ms pc ls (iv a :: iv a :: st) M := by
  obtain ⟨p, l, e, R, s, m, args, below, meth, c, Q, A, D, cA, x⟩ := v
  obtain ⟨hx, hb, hml, hown, hts, hK, hA, hfr, hlo, hNs⟩ := E
  intro H locs lsA hW hS hl
  exact lv_icmp_eq hx hb hd ht (fun _ => kt H locs lsA hW hS hl) (fun q => absurd rfl q)
set_option maxRecDepth 100000 in
set_option maxHeartbeats 4000000 in
theorem lw_wipe {v : Ev} {as : List Nat} {mc ms L d : Nat} {xs : Nat → Int32} {yy : Nat} (E : Cx v cL_law 4 yL_law.cls d) (hd : 18 ≤ d) (hRM : RMk mc ms v) (hX : SX L xs v) (hL : L ≤ 2048) (hSF : SFy yy v) (M : Mm) (i : Int) (hi : 0 ≤ i ∧ i + 3 < (L : Int)) (hR : Rel M) (k : ∀ M', Rel M' → Ws v as SH mc ms 702 [some (rv (-1)), some (rv 0), some (rv 79), some (iv i)] [] M') : Ws v as SH mc ms 235 [some (rv (-1)), some (rv 0), some (rv 79), some (iv i)] [] M := by
  refine s_aload_n E dL_law_235 rfl ?_
  refine s_callVim E hRM (c_X7_wipe M) dL_law_236 mf_X7_wipe ml_L_28 rfl (by omega) (Nat.le_of_ble_eq_true rfl) (by decide) sh0 rfl rfl (fun r236 M236 h236 => ?_)
  refine s_aload_n E dL_law_239 rfl ?_
  refine s_callVim E hRM (c_X8_wipe M236) dL_law_240 mf_X8_wipe ml_L_32 rfl (by omega) (Nat.le_of_ble_eq_true rfl) (by decide) sh79 rfl rfl (fun r240 M240 h240 => ?_)
  obtain ⟨er, hR2⟩ := o_wipe hR h236 h240
  rw [er]
  exact s_icmp_same E 702 dL_law_243 (by decide) (k _ hR2)
set_option maxRecDepth 100000 in
set_option maxHeartbeats 4000000 in
theorem lw_set {v : Ev} {as : List Nat} {mc ms L d : Nat} {xs : Nat → Int32} {yy : Nat} (E : Cx v cL_law 4 yL_law.cls d) (hd : 18 ≤ d) (hRM : RMk mc ms v) (hX : SX L xs v) (hL : L ≤ 2048) (hSF : SFy yy v) (M : Mm) (i : Int) (hi : 0 ≤ i ∧ i + 3 < (L : Int)) (hR : Rel M) (k : ∀ M', Rel M' → Ws v as SH mc ms 702 [some (rv (-1)), some (rv 0), some (rv 79), some (iv i)] [] M') : Ws v as SH mc ms 136 [some (rv (-1)), some (rv 0), some (rv 79), some (iv i)] [] M := by
  refine s_aload_n E dL_law_136 rfl ?_
  refine s_aload_n E dL_law_137 rfl ?_
  refine s_iload_n E dL_law_138 rfl ?_
  refine s_iconst E dL_law_139 ?_
  refine s_iadd E dL_law_140 ?_
  refine s_sld E hX hL dL_law_141 (by omega) ?_
  refine s_aload_n E dL_law_142 rfl ?_
  refine s_iload_n E dL_law_143 rfl ?_
  refine s_iconst E dL_law_144 ?_
  refine s_iadd E dL_law_145 ?_
  refine s_sld E hX hL dL_law_146 (by omega) ?_
  refine s_aload_n E dL_law_147 rfl ?_
  refine s_iload_n E dL_law_148 rfl ?_
  refine s_iconst E dL_law_149 ?_
  refine s_iadd E dL_law_150 ?_
  refine s_sld E hX hL dL_law_151 (by omega) ?_
  refine s_callVisym E hRM hSF (pos_set _ _ _) (c_X7_set M _ _ _ (xz_in _ _) (xz_in _ _) (xz_in _ _)) dL_law_152 mf_X7_set ml_L_13 rfl (by omega) (Nat.le_of_ble_eq_true rfl) (by decide) sh0 rfl rfl (fun r152 M152 h152 => ?_)
  refine s_aload_n E dL_law_155 rfl ?_
  refine s_aload_n E dL_law_156 rfl ?_
  refine s_iload_n E dL_law_157 rfl ?_
  refine s_iconst E dL_law_158 ?_
  refine s_iadd E dL_law_159 ?_
  refine s_sld E hX hL dL_law_160 (by omega) ?_
  refine s_aload_n E dL_law_161 rfl ?_
  refine s_iload_n E dL_law_162 rfl ?_
  refine s_iconst E dL_law_163 ?_
  refine s_iadd E dL_law_164 ?_
  refine s_sld E hX hL dL_law_165 (by omega) ?_
  refine s_aload_n E dL_law_166 rfl ?_
  refine s_iload_n E dL_law_167 rfl ?_
  refine s_iconst E dL_law_168 ?_
  refine s_iadd E dL_law_169 ?_
  refine s_sld E hX hL dL_law_170 (by omega) ?_
  refine s_callVim E hRM (c_X8_set M152 _ _ _ (xz_in _ _) (xz_in _ _) (xz_in _ _)) dL_law_171 mf_X8_set ml_L_17 rfl (by omega) (Nat.le_of_ble_eq_true rfl) (by decide) sh79 rfl rfl (fun r171 M171 h171 => ?_)
  obtain ⟨er, hR2⟩ := o_set hR h152 h171
  rw [er]
  exact s_icmp_same E 702 dL_law_174 (by decide) (k _ hR2)
set_option maxRecDepth 100000 in
set_option maxHeartbeats 4000000 in
theorem lw_law {v : Ev} {as : List Nat} {mc ms L d : Nat} {xs : Nat → Int32} {yy : Nat} (E : Cx v cL_law 4 yL_law.cls d) (hd : 18 ≤ d) (hRM : RMk mc ms v) (hX : SX L xs v) (hL : L ≤ 2048) (hSF : SFy yy v) (M : Mm) (i : Int) (hi : 0 ≤ i ∧ i + 3 < (L : Int)) (hR : Rel M) (k : ∀ M', Rel M' → Ws v as SH mc ms 702 [some (rv (-1)), some (rv 0), some (rv 79), some (iv i)] [] M') : Ws v as SH mc ms 179 [some (rv (-1)), some (rv 0), some (rv 79), some (iv i)] [] M := by
  refine s_aload_n E dL_law_179 rfl ?_
  refine s_aload_n E dL_law_180 rfl ?_
  refine s_iload_n E dL_law_181 rfl ?_
  refine s_iconst E dL_law_182 ?_
  refine s_iadd E dL_law_183 ?_
  refine s_sld E hX hL dL_law_184 (by omega) ?_
  refine s_aload_n E dL_law_185 rfl ?_
  refine s_iload_n E dL_law_186 rfl ?_
  refine s_iconst E dL_law_187 ?_
  refine s_iadd E dL_law_188 ?_
  refine s_sld E hX hL dL_law_189 (by omega) ?_
  refine s_callVim E hRM (c_X7_law M _ _ (xz_in _ _) (xz_in _ _)) dL_law_190 mf_X7_law ml_L_18 rfl (by omega) (Nat.le_of_ble_eq_true rfl) (by decide) sh0 rfl rfl (fun r190 M190 h190 => ?_)
  refine s_aload_n E dL_law_193 rfl ?_
  refine s_aload_n E dL_law_194 rfl ?_
  refine s_iload_n E dL_law_195 rfl ?_
  refine s_iconst E dL_law_196 ?_
  refine s_iadd E dL_law_197 ?_
  refine s_sld E hX hL dL_law_198 (by omega) ?_
  refine s_aload_n E dL_law_199 rfl ?_
  refine s_iload_n E dL_law_200 rfl ?_
  refine s_iconst E dL_law_201 ?_
  refine s_iadd E dL_law_202 ?_
  refine s_sld E hX hL dL_law_203 (by omega) ?_
  refine s_callVim E hRM (c_X8_law M190 _ _ (xz_in _ _) (xz_in _ _)) dL_law_204 mf_X8_law ml_L_22 rfl (by omega) (Nat.le_of_ble_eq_true rfl) (by decide) sh79 rfl rfl (fun r204 M204 h204 => ?_)
  obtain ⟨er, hR2⟩ := o_law hR h190 h204
  rw [er]
  exact s_icmp_same E 702 dL_law_207 (by decide) (k _ hR2)
set_option maxRecDepth 100000 in
set_option maxHeartbeats 4000000 in
theorem lw_clear {v : Ev} {as : List Nat} {mc ms L d : Nat} {xs : Nat → Int32} {yy : Nat} (E : Cx v cL_law 4 yL_law.cls d) (hd : 18 ≤ d) (hRM : RMk mc ms v) (hX : SX L xs v) (hL : L ≤ 2048) (hSF : SFy yy v) (M : Mm) (i : Int) (hi : 0 ≤ i ∧ i + 3 < (L : Int)) (hR : Rel M) (k : ∀ M', Rel M' → Ws v as SH mc ms 702 [some (rv (-1)), some (rv 0), some (rv 79), some (iv i)] [] M') : Ws v as SH mc ms 383 [some (rv (-1)), some (rv 0), some (rv 79), some (iv i)] [] M := by
  refine s_aload_n E dL_law_383 rfl ?_
  refine s_callVim E hRM (c_X7_clear M) dL_law_384 mf_X7_clear ml_L_53 rfl (by omega) (Nat.le_of_ble_eq_true rfl) (by decide) sh0 rfl rfl (fun r384 M384 h384 => ?_)
  refine s_aload_n E dL_law_387 rfl ?_
  refine s_callVim E hRM (c_X8_clear M384) dL_law_388 mf_X8_clear ml_L_56 rfl (by omega) (Nat.le_of_ble_eq_true rfl) (by decide) sh79 rfl rfl (fun r388 M388 h388 => ?_)
  obtain ⟨er, hR2⟩ := o_clear hR h384 h388
  rw [er]
  exact s_icmp_same E 702 dL_law_391 (by decide) (k _ hR2)
set_option maxRecDepth 100000 in
set_option maxHeartbeats 4000000 in
theorem lw_lend {v : Ev} {as : List Nat} {mc ms L d : Nat} {xs : Nat → Int32} {yy : Nat} (E : Cx v cL_law 4 yL_law.cls d) (hd : 18 ≤ d) (hRM : RMk mc ms v) (hX : SX L xs v) (hL : L ≤ 2048) (hSF : SFy yy v) (M : Mm) (i : Int) (hi : 0 ≤ i ∧ i + 3 < (L : Int)) (hR : Rel M) (k : ∀ M', Rel M' → Ws v as SH mc ms 702 [some (rv (-1)), some (rv 0), some (rv 79), some (iv i)] [] M') : Ws v as SH mc ms 452 [some (rv (-1)), some (rv 0), some (rv 79), some (iv i)] [] M := by
  refine s_aload_n E dL_law_452 rfl ?_
  refine s_aload_n E dL_law_453 rfl ?_
  refine s_iload_n E dL_law_454 rfl ?_
  refine s_iconst E dL_law_455 ?_
  refine s_iadd E dL_law_456 ?_
  refine s_sld E hX hL dL_law_457 (by omega) ?_
  refine s_aload_n E dL_law_458 rfl ?_
  refine s_iload_n E dL_law_459 rfl ?_
  refine s_iconst E dL_law_460 ?_
  refine s_iadd E dL_law_461 ?_
  refine s_sld E hX hL dL_law_462 (by omega) ?_
  refine s_aload_n E dL_law_463 rfl ?_
  refine s_iload_n E dL_law_464 rfl ?_
  refine s_iconst E dL_law_465 ?_
  refine s_iadd E dL_law_466 ?_
  refine s_sld E hX hL dL_law_467 (by omega) ?_
  refine s_callVim E hRM (c_X7_lend M _ _ _ (xz_in _ _) (xz_in _ _) (xz_in _ _)) dL_law_468 mf_X7_lend ml_L_65 rfl (by omega) (Nat.le_of_ble_eq_true rfl) (by decide) sh0 rfl rfl (fun r468 M468 h468 => ?_)
  refine s_aload_n E dL_law_471 rfl ?_
  refine s_aload_n E dL_law_472 rfl ?_
  refine s_iload_n E dL_law_473 rfl ?_
  refine s_iconst E dL_law_474 ?_
  refine s_iadd E dL_law_475 ?_
  refine s_sld E hX hL dL_law_476 (by omega) ?_
  refine s_aload_n E dL_law_477 rfl ?_
  refine s_iload_n E dL_law_478 rfl ?_
  refine s_iconst E dL_law_479 ?_
  refine s_iadd E dL_law_480 ?_
  refine s_sld E hX hL dL_law_481 (by omega) ?_
  refine s_aload_n E dL_law_482 rfl ?_
  refine s_iload_n E dL_law_483 rfl ?_
  refine s_iconst E dL_law_484 ?_
  refine s_iadd E dL_law_485 ?_
  refine s_sld E hX hL dL_law_486 (by omega) ?_
  refine s_callVim E hRM (c_X8_lend M468 _ _ _ (xz_in _ _) (xz_in _ _) (xz_in _ _)) dL_law_487 mf_X8_lend ml_L_68 rfl (by omega) (Nat.le_of_ble_eq_true rfl) (by decide) sh79 rfl rfl (fun r487 M487 h487 => ?_)
  obtain ⟨er, hR2⟩ := o_lend hR h468 h487
  rw [er]
  exact s_icmp_same E 702 dL_law_490 (by decide) (k _ hR2)
set_option maxRecDepth 100000 in
set_option maxHeartbeats 4000000 in
theorem lw_sits {v : Ev} {as : List Nat} {mc ms L d : Nat} {xs : Nat → Int32} {yy : Nat} (E : Cx v cL_law 4 yL_law.cls d) (hd : 18 ≤ d) (hRM : RMk mc ms v) (hX : SX L xs v) (hL : L ≤ 2048) (hSF : SFy yy v) (M : Mm) (i : Int) (hi : 0 ≤ i ∧ i + 3 < (L : Int)) (hR : Rel M) (k : ∀ M', Rel M' → Ws v as SH mc ms 702 [some (rv (-1)), some (rv 0), some (rv 79), some (iv i)] [] M') : Ws v as SH mc ms 271 [some (rv (-1)), some (rv 0), some (rv 79), some (iv i)] [] M := by
  refine s_aload_n E dL_law_271 rfl ?_
  refine s_aload_n E dL_law_272 rfl ?_
  refine s_iload_n E dL_law_273 rfl ?_
  refine s_iconst E dL_law_274 ?_
  refine s_iadd E dL_law_275 ?_
  refine s_sld E hX hL dL_law_276 (by omega) ?_
  refine s_callVim E hRM (c_X7_sits M _ (xz_in _ _) hR.pad hR.1.2.2.1 hR.1.2.2.2.1 hR.seat4) dL_law_277 mf_X7_sits ml_L_37 rfl (by omega) (Nat.le_of_ble_eq_true rfl) (by decide) sh0 rfl rfl (fun r277 M277 h277 => ?_)
  have hR1 := hR.keep h277.2.sm
  refine s_aload_n E dL_law_280 rfl ?_
  refine s_aload_n E dL_law_281 rfl ?_
  refine s_iload_n E dL_law_282 rfl ?_
  refine s_iconst E dL_law_283 ?_
  refine s_iadd E dL_law_284 ?_
  refine s_sld E hX hL dL_law_285 (by omega) ?_
  refine s_callVim E hRM (c_X8_sits M277 _ (xz_in _ _) hR1.padM (by rw [← hR1.2.2.2.1.2.1.1]; exact hR1.1.2.2.1) (by rw [← hR1.2.2.2.1.2.1.2]; exact hR1.1.2.2.2.1) hR1.seat4M) dL_law_286 mf_X8_sits ml_L_40 rfl (by omega) (Nat.le_of_ble_eq_true rfl) (by decide) sh79 rfl rfl (fun r286 M286 h286 => ?_)
  obtain ⟨er, hR2⟩ := o_sits hR h277 h286
  rw [er]
  exact s_icmp_same E 702 dL_law_289 (by decide) (k _ hR2)
set_option maxRecDepth 100000 in
set_option maxHeartbeats 4000000 in
theorem lw_dealt {v : Ev} {as : List Nat} {mc ms L d : Nat} {xs : Nat → Int32} {yy : Nat} (E : Cx v cL_law 4 yL_law.cls d) (hd : 18 ≤ d) (hRM : RMk mc ms v) (hX : SX L xs v) (hL : L ≤ 2048) (hSF : SFy yy v) (M : Mm) (i : Int) (hi : 0 ≤ i ∧ i + 3 < (L : Int)) (hR : Rel M) (k : ∀ M', Rel M' → Ws v as SH mc ms 702 [some (rv (-1)), some (rv 0), some (rv 79), some (iv i)] [] M') : Ws v as SH mc ms 419 [some (rv (-1)), some (rv 0), some (rv 79), some (iv i)] [] M := by
  refine s_aload_n E dL_law_419 rfl ?_
  refine s_aload_n E dL_law_420 rfl ?_
  refine s_iload_n E dL_law_421 rfl ?_
  refine s_iconst E dL_law_422 ?_
  refine s_iadd E dL_law_423 ?_
  refine s_sld E hX hL dL_law_424 (by omega) ?_
  refine s_aload_n E dL_law_425 rfl ?_
  refine s_iload_n E dL_law_426 rfl ?_
  refine s_iconst E dL_law_427 ?_
  refine s_iadd E dL_law_428 ?_
  refine s_sld E hX hL dL_law_429 (by omega) ?_
  refine s_callVim E hRM (c_X7_dealt M _ _ (xz_in _ _) (xz_in _ _) hR.mok) dL_law_430 mf_X7_dealt ml_L_61 rfl (by omega) (Nat.le_of_ble_eq_true rfl) (by decide) sh0 rfl rfl (fun r430 M430 h430 => ?_)
  have hR1 := hR.keep h430.1.sm
  refine s_aload_n E dL_law_433 rfl ?_
  refine s_aload_n E dL_law_434 rfl ?_
  refine s_iload_n E dL_law_435 rfl ?_
  refine s_iconst E dL_law_436 ?_
  refine s_iadd E dL_law_437 ?_
  refine s_sld E hX hL dL_law_438 (by omega) ?_
  refine s_aload_n E dL_law_439 rfl ?_
  refine s_iload_n E dL_law_440 rfl ?_
  refine s_iconst E dL_law_441 ?_
  refine s_iadd E dL_law_442 ?_
  refine s_sld E hX hL dL_law_443 (by omega) ?_
  refine s_callVim E hRM (c_X8_dealt M430 _ _ (xz_in _ _) (xz_in _ _) hR1.mokM) dL_law_444 mf_X8_dealt ml_L_64 rfl (by omega) (Nat.le_of_ble_eq_true rfl) (by decide) sh79 rfl rfl (fun r444 M444 h444 => ?_)
  obtain ⟨er, hR2⟩ := o_dealt hR h430 h444
  rw [er]
  exact s_icmp_same E 702 dL_law_447 (by decide) (k _ hR2)
set_option maxRecDepth 100000 in
set_option maxHeartbeats 4000000 in
theorem lw_gifts {v : Ev} {as : List Nat} {mc ms L d : Nat} {xs : Nat → Int32} {yy : Nat} (E : Cx v cL_law 4 yL_law.cls d) (hd : 18 ≤ d) (hRM : RMk mc ms v) (hX : SX L xs v) (hL : L ≤ 2048) (hSF : SFy yy v) (M : Mm) (i : Int) (hi : 0 ≤ i ∧ i + 3 < (L : Int)) (hR : Rel M) (k : ∀ M', Rel M' → Ws v as SH mc ms 702 [some (rv (-1)), some (rv 0), some (rv 79), some (iv i)] [] M') : Ws v as SH mc ms 518 [some (rv (-1)), some (rv 0), some (rv 79), some (iv i)] [] M := by
  refine s_aload_n E dL_law_518 rfl ?_
  refine s_callVim E hRM (c_X7_gifts M hR.netR hR.2.2.2.2.2.2.2.2.2) dL_law_519 mf_X7_gifts ml_L_73 rfl (by omega) (Nat.le_of_ble_eq_true rfl) (by decide) sh0 rfl rfl (fun r519 M519 h519 => ?_)
  have hR1 := hR.keep h519.2.sm
  refine s_aload_n E dL_law_522 rfl ?_
  refine s_callVim E hRM (c_X8_gifts M519 (fun k h1 h2 => by rw [hR1.enet ⟨h1, h2⟩]; exact hR1.netR k h1 h2)) dL_law_523 mf_X8_gifts ml_L_76 rfl (by omega) (Nat.le_of_ble_eq_true rfl) (by decide) sh79 rfl rfl (fun r523 M523 h523 => ?_)
  obtain ⟨er, hR2⟩ := o_gifts hR h519 h523
  rw [er]
  exact s_icmp_same E 702 dL_law_526 (by decide) (k _ hR2)
set_option maxRecDepth 100000 in
set_option maxHeartbeats 4000000 in
theorem lw_filled {v : Ev} {as : List Nat} {mc ms L d : Nat} {xs : Nat → Int32} {yy : Nat} (E : Cx v cL_law 4 yL_law.cls d) (hd : 18 ≤ d) (hRM : RMk mc ms v) (hX : SX L xs v) (hL : L ≤ 2048) (hSF : SFy yy v) (M : Mm) (i : Int) (hi : 0 ≤ i ∧ i + 3 < (L : Int)) (hR : Rel M) (k : ∀ M', Rel M' → Ws v as SH mc ms 702 [some (rv (-1)), some (rv 0), some (rv 79), some (iv i)] [] M') : Ws v as SH mc ms 531 [some (rv (-1)), some (rv 0), some (rv 79), some (iv i)] [] M := by
  refine s_aload_n E dL_law_531 rfl ?_
  refine s_aload_n E dL_law_532 rfl ?_
  refine s_iload_n E dL_law_533 rfl ?_
  refine s_iconst E dL_law_534 ?_
  refine s_iadd E dL_law_535 ?_
  refine s_sld E hX hL dL_law_536 (by omega) ?_
  refine s_aload_n E dL_law_537 rfl ?_
  refine s_iload_n E dL_law_538 rfl ?_
  refine s_iconst E dL_law_539 ?_
  refine s_iadd E dL_law_540 ?_
  refine s_sld E hX hL dL_law_541 (by omega) ?_
  refine s_callVim E hRM (c_X7_filled M hR.pad hR.sv _ _ (xz_in _ _) (xz_in _ _)) dL_law_542 mf_X7_filled ml_L_77 rfl (by omega) (Nat.le_of_ble_eq_true rfl) (by decide) sh0 rfl rfl (fun r542 M542 h542 => ?_)
  have hR1 := hR.keep h542.2.2.sm
  refine s_aload_n E dL_law_545 rfl ?_
  refine s_aload_n E dL_law_546 rfl ?_
  refine s_iload_n E dL_law_547 rfl ?_
  refine s_iconst E dL_law_548 ?_
  refine s_iadd E dL_law_549 ?_
  refine s_sld E hX hL dL_law_550 (by omega) ?_
  refine s_aload_n E dL_law_551 rfl ?_
  refine s_iload_n E dL_law_552 rfl ?_
  refine s_iconst E dL_law_553 ?_
  refine s_iadd E dL_law_554 ?_
  refine s_sld E hX hL dL_law_555 (by omega) ?_
  refine s_callVim E hRM (c_X8_filled M542 hR1.padM hR1.svM _ _ (xz_in _ _) (xz_in _ _)) dL_law_556 mf_X8_filled ml_L_80 rfl (by omega) (Nat.le_of_ble_eq_true rfl) (by decide) sh79 rfl rfl (fun r556 M556 h556 => ?_)
  obtain ⟨er, hR2⟩ := o_filled hR h542 h556
  rw [er]
  exact s_icmp_same E 702 dL_law_559 (by decide) (k _ hR2)
set_option maxRecDepth 100000 in
set_option maxHeartbeats 4000000 in
theorem lw_lie {v : Ev} {as : List Nat} {mc ms L d : Nat} {xs : Nat → Int32} {yy : Nat} (E : Cx v cL_law 4 yL_law.cls d) (hd : 18 ≤ d) (hRM : RMk mc ms v) (hX : SX L xs v) (hL : L ≤ 2048) (hSF : SFy yy v) (M : Mm) (i : Int) (hi : 0 ≤ i ∧ i + 3 < (L : Int)) (hR : Rel M) (k : ∀ M', Rel M' → Ws v as SH mc ms 702 [some (rv (-1)), some (rv 0), some (rv 79), some (iv i)] [] M') : Ws v as SH mc ms 564 [some (rv (-1)), some (rv 0), some (rv 79), some (iv i)] [] M := by
  refine s_aload_n E dL_law_564 rfl ?_
  refine s_callVim E hRM (c_X7_lie M hR.pad hR.sv) dL_law_565 mf_X7_lie ml_L_81 rfl (by omega) (Nat.le_of_ble_eq_true rfl) (by decide) sh0 rfl rfl (fun r565 M565 h565 => ?_)
  have hR1 := hR.keep h565.2.2.sm
  refine s_aload_n E dL_law_568 rfl ?_
  refine s_callVim E hRM (c_X8_lie M565 hR1.padM hR1.svM) dL_law_569 mf_X8_lie ml_L_84 rfl (by omega) (Nat.le_of_ble_eq_true rfl) (by decide) sh79 rfl rfl (fun r569 M569 h569 => ?_)
  obtain ⟨er, hR2⟩ := o_lie hR h565 h569
  rw [er]
  exact s_icmp_same E 702 dL_law_572 (by decide) (k _ hR2)
set_option maxRecDepth 100000 in
set_option maxHeartbeats 4000000 in
theorem lw_fault {v : Ev} {as : List Nat} {mc ms L d : Nat} {xs : Nat → Int32} {yy : Nat} (E : Cx v cL_law 4 yL_law.cls d) (hd : 18 ≤ d) (hRM : RMk mc ms v) (hX : SX L xs v) (hL : L ≤ 2048) (hSF : SFy yy v) (M : Mm) (i : Int) (hi : 0 ≤ i ∧ i + 3 < (L : Int)) (hR : Rel M) (k : ∀ M', Rel M' → Ws v as SH mc ms 702 [some (rv (-1)), some (rv 0), some (rv 79), some (iv i)] [] M') : Ws v as SH mc ms 248 [some (rv (-1)), some (rv 0), some (rv 79), some (iv i)] [] M := by
  refine s_aload_n E dL_law_248 rfl ?_
  refine s_aload_n E dL_law_249 rfl ?_
  refine s_iload_n E dL_law_250 rfl ?_
  refine s_iconst E dL_law_251 ?_
  refine s_iadd E dL_law_252 ?_
  refine s_sld E hX hL dL_law_253 (by omega) ?_
  refine s_callVim E hRM (c_X7_fault M _ (xz_in _ _) hR.pad) dL_law_254 mf_X7_fault ml_L_33 rfl (by omega) (Nat.le_of_ble_eq_true rfl) (by decide) sh0 rfl rfl (fun r254 M254 h254 => ?_)
  obtain ⟨e254, f254⟩ := h254; subst M254
  refine s_aload_n E dL_law_257 rfl ?_
  refine s_aload_n E dL_law_258 rfl ?_
  refine s_iload_n E dL_law_259 rfl ?_
  refine s_iconst E dL_law_260 ?_
  refine s_iadd E dL_law_261 ?_
  refine s_sld E hX hL dL_law_262 (by omega) ?_
  refine s_callVim E hRM (c_X8_fault M _ (xz_in _ _) hR.padM) dL_law_263 mf_X8_fault ml_L_36 rfl (by omega) (Nat.le_of_ble_eq_true rfl) (by decide) sh79 rfl rfl (fun r263 M263 h263 => ?_)
  obtain ⟨er, hR2⟩ := (⟨by rw [e254, h263.1]; exact a_fault hR _, rel_same hR rfl h263.2⟩ : r254 = r263 ∧ Rel M263)
  rw [er]
  exact s_icmp_same E 702 dL_law_266 (by decide) (k _ hR2)
set_option maxRecDepth 100000 in
set_option maxHeartbeats 4000000 in
theorem lw_about {v : Ev} {as : List Nat} {mc ms L d : Nat} {xs : Nat → Int32} {yy : Nat} (E : Cx v cL_law 4 yL_law.cls d) (hd : 18 ≤ d) (hRM : RMk mc ms v) (hX : SX L xs v) (hL : L ≤ 2048) (hSF : SFy yy v) (M : Mm) (i : Int) (hi : 0 ≤ i ∧ i + 3 < (L : Int)) (hR : Rel M) (k : ∀ M', Rel M' → Ws v as SH mc ms 702 [some (rv (-1)), some (rv 0), some (rv 79), some (iv i)] [] M') : Ws v as SH mc ms 350 [some (rv (-1)), some (rv 0), some (rv 79), some (iv i)] [] M := by
  refine s_aload_n E dL_law_350 rfl ?_
  refine s_aload_n E dL_law_351 rfl ?_
  refine s_iload_n E dL_law_352 rfl ?_
  refine s_iconst E dL_law_353 ?_
  refine s_iadd E dL_law_354 ?_
  refine s_sld E hX hL dL_law_355 (by omega) ?_
  refine s_aload_n E dL_law_356 rfl ?_
  refine s_iload_n E dL_law_357 rfl ?_
  refine s_iconst E dL_law_358 ?_
  refine s_iadd E dL_law_359 ?_
  refine s_sld E hX hL dL_law_360 (by omega) ?_
  refine s_callVim E hRM (c_X7_about M _ _ (xz_in _ _) (xz_in _ _) ⟨hR.mok.1, hR.mok.2.1⟩) dL_law_361 mf_X7_about ml_L_49 rfl (by omega) (Nat.le_of_ble_eq_true rfl) (by decide) sh0 rfl rfl (fun r361 M361 h361 => ?_)
  obtain ⟨e361, f361⟩ := h361; subst M361
  refine s_aload_n E dL_law_364 rfl ?_
  refine s_aload_n E dL_law_365 rfl ?_
  refine s_iload_n E dL_law_366 rfl ?_
  refine s_iconst E dL_law_367 ?_
  refine s_iadd E dL_law_368 ?_
  refine s_sld E hX hL dL_law_369 (by omega) ?_
  refine s_aload_n E dL_law_370 rfl ?_
  refine s_iload_n E dL_law_371 rfl ?_
  refine s_iconst E dL_law_372 ?_
  refine s_iadd E dL_law_373 ?_
  refine s_sld E hX hL dL_law_374 (by omega) ?_
  refine s_callVim E hRM (c_X8_about M _ _ (xz_in _ _) (xz_in _ _) ⟨hR.mokM.1, hR.mokM.2.1⟩) dL_law_375 mf_X8_about ml_L_52 rfl (by omega) (Nat.le_of_ble_eq_true rfl) (by decide) sh79 rfl rfl (fun r375 M375 h375 => ?_)
  obtain ⟨er, hR2⟩ := (⟨by rw [e361, h375.1]; exact a_about hR _ _, rel_same hR rfl h375.2⟩ : r361 = r375 ∧ Rel M375)
  rw [er]
  exact s_icmp_same E 702 dL_law_378 (by decide) (k _ hR2)
set_option maxRecDepth 100000 in
set_option maxHeartbeats 4000000 in
theorem lw_net {v : Ev} {as : List Nat} {mc ms L d : Nat} {xs : Nat → Int32} {yy : Nat} (E : Cx v cL_law 4 yL_law.cls d) (hd : 18 ≤ d) (hRM : RMk mc ms v) (hX : SX L xs v) (hL : L ≤ 2048) (hSF : SFy yy v) (M : Mm) (i : Int) (hi : 0 ≤ i ∧ i + 3 < (L : Int)) (hR : Rel M) (k : ∀ M', Rel M' → Ws v as SH mc ms 702 [some (rv (-1)), some (rv 0), some (rv 79), some (iv i)] [] M') : Ws v as SH mc ms 495 [some (rv (-1)), some (rv 0), some (rv 79), some (iv i)] [] M := by
  refine s_aload_n E dL_law_495 rfl ?_
  refine s_aload_n E dL_law_496 rfl ?_
  refine s_iload_n E dL_law_497 rfl ?_
  refine s_iconst E dL_law_498 ?_
  refine s_iadd E dL_law_499 ?_
  refine s_sld E hX hL dL_law_500 (by omega) ?_
  refine s_callVim E hRM (c_X7_net M _ (xz_in _ _)) dL_law_501 mf_X7_net ml_L_69 rfl (by omega) (Nat.le_of_ble_eq_true rfl) (by decide) sh0 rfl rfl (fun r501 M501 h501 => ?_)
  obtain ⟨e501, f501⟩ := h501; subst M501
  refine s_aload_n E dL_law_504 rfl ?_
  refine s_aload_n E dL_law_505 rfl ?_
  refine s_iload_n E dL_law_506 rfl ?_
  refine s_iconst E dL_law_507 ?_
  refine s_iadd E dL_law_508 ?_
  refine s_sld E hX hL dL_law_509 (by omega) ?_
  refine s_callVim E hRM (c_X8_net M _ (xz_in _ _)) dL_law_510 mf_X8_net ml_L_72 rfl (by omega) (Nat.le_of_ble_eq_true rfl) (by decide) sh79 rfl rfl (fun r510 M510 h510 => ?_)
  obtain ⟨er, hR2⟩ := (⟨by rw [e501, h510.1]; exact a_net hR _, rel_same hR rfl h510.2⟩ : r501 = r510 ∧ Rel M510)
  rw [er]
  exact s_icmp_same E 702 dL_law_513 (by decide) (k _ hR2)
set_option maxRecDepth 100000 in
set_option maxHeartbeats 4000000 in
theorem lw_floor {v : Ev} {as : List Nat} {mc ms L d : Nat} {xs : Nat → Int32} {yy : Nat} (E : Cx v cL_law 4 yL_law.cls d) (hd : 18 ≤ d) (hRM : RMk mc ms v) (hX : SX L xs v) (hL : L ≤ 2048) (hSF : SFy yy v) (M : Mm) (i : Int) (hi : 0 ≤ i ∧ i + 3 < (L : Int)) (hR : Rel M) (k : ∀ M', Rel M' → Ws v as SH mc ms 702 [some (rv (-1)), some (rv 0), some (rv 79), some (iv i)] [] M') : Ws v as SH mc ms 577 [some (rv (-1)), some (rv 0), some (rv 79), some (iv i)] [] M := by
  refine s_aload_n E dL_law_577 rfl ?_
  refine s_aload_n E dL_law_578 rfl ?_
  refine s_iload_n E dL_law_579 rfl ?_
  refine s_iconst E dL_law_580 ?_
  refine s_iadd E dL_law_581 ?_
  refine s_sld E hX hL dL_law_582 (by omega) ?_
  refine s_callVim E hRM (c_X7_floor M _ (xz_in _ _) hR.sv) dL_law_583 mf_X7_floor ml_L_85 rfl (by omega) (Nat.le_of_ble_eq_true rfl) (by decide) sh0 rfl rfl (fun r583 M583 h583 => ?_)
  obtain ⟨e583, f583⟩ := h583; subst M583
  refine s_aload_n E dL_law_586 rfl ?_
  refine s_aload_n E dL_law_587 rfl ?_
  refine s_iload_n E dL_law_588 rfl ?_
  refine s_iconst E dL_law_589 ?_
  refine s_iadd E dL_law_590 ?_
  refine s_sld E hX hL dL_law_591 (by omega) ?_
  refine s_callVim E hRM (c_X8_floor M _ (xz_in _ _) hR.svM) dL_law_592 mf_X8_floor ml_L_88 rfl (by omega) (Nat.le_of_ble_eq_true rfl) (by decide) sh79 rfl rfl (fun r592 M592 h592 => ?_)
  obtain ⟨er, hR2⟩ := (⟨by rw [e583, h592.1]; exact a_floor hR _, rel_same hR rfl h592.2⟩ : r583 = r592 ∧ Rel M592)
  rw [er]
  exact s_icmp_same E 702 dL_law_595 (by decide) (k _ hR2)
set_option maxRecDepth 100000 in
set_option maxHeartbeats 4000000 in
theorem lw_friends {v : Ev} {as : List Nat} {mc ms L d : Nat} {xs : Nat → Int32} {yy : Nat} (E : Cx v cL_law 4 yL_law.cls d) (hd : 18 ≤ d) (hRM : RMk mc ms v) (hX : SX L xs v) (hL : L ≤ 2048) (hSF : SFy yy v) (M : Mm) (i : Int) (hi : 0 ≤ i ∧ i + 3 < (L : Int)) (hR : Rel M) (k : ∀ M', Rel M' → Ws v as SH mc ms 702 [some (rv (-1)), some (rv 0), some (rv 79), some (iv i)] [] M') : Ws v as SH mc ms 600 [some (rv (-1)), some (rv 0), some (rv 79), some (iv i)] [] M := by
  refine s_aload_n E dL_law_600 rfl ?_
  refine s_aload_n E dL_law_601 rfl ?_
  refine s_iload_n E dL_law_602 rfl ?_
  refine s_iconst E dL_law_603 ?_
  refine s_iadd E dL_law_604 ?_
  refine s_sld E hX hL dL_law_605 (by omega) ?_
  refine s_aload_n E dL_law_606 rfl ?_
  refine s_iload_n E dL_law_607 rfl ?_
  refine s_iconst E dL_law_608 ?_
  refine s_iadd E dL_law_609 ?_
  refine s_sld E hX hL dL_law_610 (by omega) ?_
  refine s_callVim E hRM (c_X7_friends M _ _ (xz_in _ _) (xz_in _ _) hR.sv) dL_law_611 mf_X7_friends ml_L_89 rfl (by omega) (Nat.le_of_ble_eq_true rfl) (by decide) sh0 rfl rfl (fun r611 M611 h611 => ?_)
  obtain ⟨e611, f611⟩ := h611; subst M611
  refine s_aload_n E dL_law_614 rfl ?_
  refine s_aload_n E dL_law_615 rfl ?_
  refine s_iload_n E dL_law_616 rfl ?_
  refine s_iconst E dL_law_617 ?_
  refine s_iadd E dL_law_618 ?_
  refine s_sld E hX hL dL_law_619 (by omega) ?_
  refine s_aload_n E dL_law_620 rfl ?_
  refine s_iload_n E dL_law_621 rfl ?_
  refine s_iconst E dL_law_622 ?_
  refine s_iadd E dL_law_623 ?_
  refine s_sld E hX hL dL_law_624 (by omega) ?_
  refine s_callVim E hRM (c_X8_friends M _ _ (xz_in _ _) (xz_in _ _) hR.svM) dL_law_625 mf_X8_friends ml_L_92 rfl (by omega) (Nat.le_of_ble_eq_true rfl) (by decide) sh79 rfl rfl (fun r625 M625 h625 => ?_)
  obtain ⟨er, hR2⟩ := (⟨by rw [e611, h625.1]; exact a_friends hR _ _, rel_same hR rfl h625.2⟩ : r611 = r625 ∧ Rel M625)
  rw [er]
  exact s_icmp_same E 702 dL_law_628 (by decide) (k _ hR2)
set_option maxRecDepth 100000 in
set_option maxHeartbeats 4000000 in
theorem lw_told {v : Ev} {as : List Nat} {mc ms L d : Nat} {xs : Nat → Int32} {yy : Nat} (E : Cx v cL_law 4 yL_law.cls d) (hd : 18 ≤ d) (hRM : RMk mc ms v) (hX : SX L xs v) (hL : L ≤ 2048) (hSF : SFy yy v) (M : Mm) (i : Int) (hi : 0 ≤ i ∧ i + 3 < (L : Int)) (hR : Rel M) (k : ∀ M', Rel M' → Ws v as SH mc ms 702 [some (rv (-1)), some (rv 0), some (rv 79), some (iv i)] [] M') : Ws v as SH mc ms 679 [some (rv (-1)), some (rv 0), some (rv 79), some (iv i)] [] M := by
  refine s_aload_n E dL_law_679 rfl ?_
  refine s_aload_n E dL_law_680 rfl ?_
  refine s_iload_n E dL_law_681 rfl ?_
  refine s_iconst E dL_law_682 ?_
  refine s_iadd E dL_law_683 ?_
  refine s_sld E hX hL dL_law_684 (by omega) ?_
  refine s_callVim E hRM (c_X7_told M _ (xz_in _ _)) dL_law_685 mf_X7_told ml_L_101 rfl (by omega) (Nat.le_of_ble_eq_true rfl) (by decide) sh0 rfl rfl (fun r685 M685 h685 => ?_)
  obtain ⟨e685, f685⟩ := h685; subst M685
  refine s_aload_n E dL_law_688 rfl ?_
  refine s_aload_n E dL_law_689 rfl ?_
  refine s_iload_n E dL_law_690 rfl ?_
  refine s_iconst E dL_law_691 ?_
  refine s_iadd E dL_law_692 ?_
  refine s_sld E hX hL dL_law_693 (by omega) ?_
  refine s_callVim E hRM (c_X8_told M _ (xz_in _ _)) dL_law_694 mf_X8_told ml_L_104 rfl (by omega) (Nat.le_of_ble_eq_true rfl) (by decide) sh79 rfl rfl (fun r694 M694 h694 => ?_)
  obtain ⟨er, hR2⟩ := (⟨by rw [e685, h694.1]; exact a_told hR _, rel_same hR rfl h694.2⟩ : r685 = r694 ∧ Rel M694)
  rw [er]
  exact s_icmp_same E 702 dL_law_697 (by decide) (k _ hR2)
set_option maxRecDepth 100000 in
set_option maxHeartbeats 4000000 in
theorem lw_least {v : Ev} {as : List Nat} {mc ms L d : Nat} {xs : Nat → Int32} {yy : Nat} (E : Cx v cL_law 4 yL_law.cls d) (hd : 18 ≤ d) (hRM : RMk mc ms v) (hX : SX L xs v) (hL : L ≤ 2048) (hSF : SFy yy v) (M : Mm) (i : Int) (hi : 0 ≤ i ∧ i + 3 < (L : Int)) (hR : Rel M) (k : ∀ M', Rel M' → Ws v as SH mc ms 702 [some (rv (-1)), some (rv 0), some (rv 79), some (iv i)] [] M') : Ws v as SH mc ms 396 [some (rv (-1)), some (rv 0), some (rv 79), some (iv i)] [] M := by
  refine s_aload_n E dL_law_396 rfl ?_
  refine s_aload_n E dL_law_397 rfl ?_
  refine s_iload_n E dL_law_398 rfl ?_
  refine s_iconst E dL_law_399 ?_
  refine s_iadd E dL_law_400 ?_
  refine s_sld E hX hL dL_law_401 (by omega) ?_
  refine s_callVim E hRM (c_X7_least M _ (xz_in _ _) hR.mok hR.sv) dL_law_402 mf_X7_least ml_L_57 rfl (by omega) (Nat.le_of_ble_eq_true rfl) (by decide) sh0 rfl rfl (fun r402 M402 h402 => ?_)
  have hkp : Kp M M402 := Classical.byCases (fun q => (h402.1 q).2) (fun q => (h402.2 q).choose_spec.2.2.2.2)
  have hR1 := hR.keep hkp.sm
  refine s_aload_n E dL_law_405 rfl ?_
  refine s_aload_n E dL_law_406 rfl ?_
  refine s_iload_n E dL_law_407 rfl ?_
  refine s_iconst E dL_law_408 ?_
  refine s_iadd E dL_law_409 ?_
  refine s_sld E hX hL dL_law_410 (by omega) ?_
  refine s_callVim E hRM (c_X8_least M402 _ (xz_in _ _) hR1.mokM hR1.svM) dL_law_411 mf_X8_least ml_L_60 rfl (by omega) (Nat.le_of_ble_eq_true rfl) (by decide) sh79 rfl rfl (fun r411 M411 h411 => ?_)
  obtain ⟨er, hR2⟩ := o_least hR h402 h411
  rw [er]
  exact s_icmp_same E 702 dL_law_414 (by decide) (k _ hR2)
set_option maxRecDepth 100000 in
set_option maxHeartbeats 4000000 in
theorem lw_say {v : Ev} {as : List Nat} {mc ms L d : Nat} {xs : Nat → Int32} {yy : Nat} (E : Cx v cL_law 4 yL_law.cls d) (hd : 18 ≤ d) (hRM : RMk mc ms v) (hX : SX L xs v) (hL : L ≤ 2048) (hSF : SFy yy v) (M : Mm) (i : Int) (hi : 0 ≤ i ∧ i + 3 < (L : Int)) (hR : Rel M) (k : ∀ M', Rel M' → Ws v as SH mc ms 702 [some (rv (-1)), some (rv 0), some (rv 79), some (iv i)] [] M') : Ws v as SH mc ms 212 [some (rv (-1)), some (rv 0), some (rv 79), some (iv i)] [] M := by
  refine s_aload_n E dL_law_212 rfl ?_
  refine s_aload_n E dL_law_213 rfl ?_
  refine s_iload_n E dL_law_214 rfl ?_
  refine s_iconst E dL_law_215 ?_
  refine s_iadd E dL_law_216 ?_
  refine s_sld E hX hL dL_law_217 (by omega) ?_
  refine s_callVim E hRM (c_X7_say M _ (xz_in _ _) ⟨hR.pad.1, hR.pad.2.1⟩) dL_law_218 mf_X7_say ml_L_23 rfl (by omega) (Nat.le_of_ble_eq_true rfl) (by decide) sh0 rfl rfl (fun r218 M218 h218 => ?_)
  have nm : ∀ a, 79 ≤ a → M218 a = M a := fun a ha => by
    rw [h218.2]
    (repeat' split) <;> first | rfl | rw [upm_row (by omega), upm_row (by omega)]
  refine s_aload_n E dL_law_221 rfl ?_
  refine s_aload_n E dL_law_222 rfl ?_
  refine s_iload_n E dL_law_223 rfl ?_
  refine s_iconst E dL_law_224 ?_
  refine s_iadd E dL_law_225 ?_
  refine s_sld E hX hL dL_law_226 (by omega) ?_
  refine s_callVim E hRM (c_X8_say M218 _ (xz_in _ _) (by rw [nm 79 (by decide)]; exact ⟨hR.padM.1, hR.padM.2.1⟩)) dL_law_227 mf_X8_say ml_L_27 rfl (by omega) (Nat.le_of_ble_eq_true rfl) (by decide) sh79 rfl rfl (fun r227 M227 h227 => ?_)
  obtain ⟨er, hR2⟩ := o_say hR h218 h227
  rw [er]
  exact s_icmp_same E 702 dL_law_230 (by decide) (k _ hR2)
set_option maxRecDepth 100000 in
set_option maxHeartbeats 4000000 in
theorem lw_matter {v : Ev} {as : List Nat} {mc ms L d : Nat} {xs : Nat → Int32} {yy : Nat} (E : Cx v cL_law 4 yL_law.cls d) (hd : 18 ≤ d) (hRM : RMk mc ms v) (hX : SX L xs v) (hL : L ≤ 2048) (hSF : SFy yy v) (M : Mm) (i : Int) (hi : 0 ≤ i ∧ i + 3 < (L : Int)) (hR : Rel M) (k : ∀ M', Rel M' → Ws v as SH mc ms 702 [some (rv (-1)), some (rv 0), some (rv 79), some (iv i)] [] M') : Ws v as SH mc ms 307 [some (rv (-1)), some (rv 0), some (rv 79), some (iv i)] [] M := by
  refine s_aload_n E dL_law_307 rfl ?_
  refine s_aload_n E dL_law_308 rfl ?_
  refine s_iload_n E dL_law_309 rfl ?_
  refine s_iconst E dL_law_310 ?_
  refine s_iadd E dL_law_311 ?_
  refine s_sld E hX hL dL_law_312 (by omega) ?_
  refine s_aload_n E dL_law_313 rfl ?_
  refine s_iload_n E dL_law_314 rfl ?_
  refine s_iconst E dL_law_315 ?_
  refine s_iadd E dL_law_316 ?_
  refine s_sld E hX hL dL_law_317 (by omega) ?_
  refine s_aload_n E dL_law_318 rfl ?_
  refine s_iload_n E dL_law_319 rfl ?_
  refine s_iconst E dL_law_320 ?_
  refine s_iadd E dL_law_321 ?_
  refine s_sld E hX hL dL_law_322 (by omega) ?_
  refine s_callVim E hRM (c_X7_matter M _ _ _ (xz_in _ _) (xz_in _ _) (xz_in _ _) ⟨hR.mok.1, hR.mok.2.1⟩) dL_law_323 mf_X7_matter ml_L_45 rfl (by omega) (Nat.le_of_ble_eq_true rfl) (by decide) sh0 rfl rfl (fun r323 M323 h323 => ?_)
  have nm : ∀ a, 79 ≤ a → M323 a = M a := fun a ha => by
    rw [h323.2]
    (repeat' split) <;> first | rfl | rw [upm_row (by omega), upm_row (by omega), upm_row (by omega), upm_row (by omega)]
  refine s_aload_n E dL_law_326 rfl ?_
  refine s_aload_n E dL_law_327 rfl ?_
  refine s_iload_n E dL_law_328 rfl ?_
  refine s_iconst E dL_law_329 ?_
  refine s_iadd E dL_law_330 ?_
  refine s_sld E hX hL dL_law_331 (by omega) ?_
  refine s_aload_n E dL_law_332 rfl ?_
  refine s_iload_n E dL_law_333 rfl ?_
  refine s_iconst E dL_law_334 ?_
  refine s_iadd E dL_law_335 ?_
  refine s_sld E hX hL dL_law_336 (by omega) ?_
  refine s_aload_n E dL_law_337 rfl ?_
  refine s_iload_n E dL_law_338 rfl ?_
  refine s_iconst E dL_law_339 ?_
  refine s_iadd E dL_law_340 ?_
  refine s_sld E hX hL dL_law_341 (by omega) ?_
  refine s_callVim E hRM (c_X8_matter M323 _ _ _ (xz_in _ _) (xz_in _ _) (xz_in _ _) (by rw [nm 79 (by decide)]; exact ⟨hR.mokM.1, hR.mokM.2.1⟩)) dL_law_342 mf_X8_matter ml_L_48 rfl (by omega) (Nat.le_of_ble_eq_true rfl) (by decide) sh79 rfl rfl (fun r342 M342 h342 => ?_)
  obtain ⟨er, hR2⟩ := o_matter hR h323 h342
  rw [er]
  exact s_icmp_same E 702 dL_law_345 (by decide) (k _ hR2)
set_option maxRecDepth 100000 in
set_option maxHeartbeats 4000000 in
theorem lw_sit {v : Ev} {as : List Nat} {mc ms L d : Nat} {xs : Nat → Int32} {yy : Nat} (E : Cx v cL_law 4 yL_law.cls d) (hd : 18 ≤ d) (hRM : RMk mc ms v) (hX : SX L xs v) (hL : L ≤ 2048) (hSF : SFy yy v) (M : Mm) (i : Int) (hi : 0 ≤ i ∧ i + 3 < (L : Int)) (hR : Rel M) (k : ∀ M', Rel M' → Ws v as SH mc ms 702 [some (rv (-1)), some (rv 0), some (rv 79), some (iv i)] [] M') : Ws v as SH mc ms 294 [some (rv (-1)), some (rv 0), some (rv 79), some (iv i)] [] M := by
  refine s_aload_n E dL_law_294 rfl ?_
  refine s_callVim E hRM (c_X7_sit M hR.pad hR.1.2.2.1 hR.1.2.2.2.1 hR.seat4) dL_law_295 mf_X7_sit ml_L_41 rfl (by omega) (Nat.le_of_ble_eq_true rfl) (by decide) sh0 rfl rfl (fun r295 M295 h295 => ?_)
  have nm : ∀ a, 79 ≤ a → M295 a = M a := fun a ha => funext fun b => Classical.byCases (fun q => by rw [(h295.2 q).2.1 a b (by omega), if_neg (by omega), if_neg (by omega)]) (fun q => (h295.1 q).2 a b (by omega))
  refine s_aload_n E dL_law_298 rfl ?_
  refine s_callVim E hRM (c_X8_sit M295 (by rw [nm 81 (by decide), nm 79 (by decide)]; exact hR.padM) (by rw [nm 79 (by decide), ← hR.2.2.2.1.2.1.1]; exact hR.1.2.2.1) (by rw [nm 79 (by decide), ← hR.2.2.2.1.2.1.2]; exact hR.1.2.2.2.1) (by rw [nm 80 (by decide)]; exact hR.seat4M)) dL_law_299 mf_X8_sit ml_L_44 rfl (by omega) (Nat.le_of_ble_eq_true rfl) (by decide) sh79 rfl rfl (fun r299 M299 h299 => ?_)
  obtain ⟨er, hR2⟩ := o_sit hR h295 h299
  rw [er]
  exact s_icmp_same E 702 dL_law_302 (by decide) (k _ hR2)
set_option maxRecDepth 100000 in
set_option maxHeartbeats 4000000 in
theorem lw_image_0 {v : Ev} {as : List Nat} {mc ms L d : Nat} {xs : Nat → Int32} {yy : Nat} (E : Cx v cL_law 4 yL_law.cls d) (hd : 18 ≤ d) (hRM : RMk mc ms v) (hX : SX L xs v) (hL : L ≤ 2048) (hSF : SFy yy v) (M : Mm) (i : Int) (hi : 0 ≤ i ∧ i + 3 < (L : Int)) (hR : Rel M) (e0 : xz xs (i + 1) = 0) (k : ∀ M', Rel M' → Ws v as SH mc ms 702 [some (rv (-1)), some (rv 0), some (rv 79), some (iv i)] [] M') : Ws v as SH mc ms 633 [some (rv (-1)), some (rv 0), some (rv 79), some (iv i)] [] M := by
  refine s_aload_n E dL_law_633 rfl ?_
  refine s_aload_n E dL_law_634 rfl ?_
  refine s_iload_n E dL_law_635 rfl ?_
  refine s_iconst E dL_law_636 ?_
  refine s_iadd E dL_law_637 ?_
  refine s_sld E hX hL dL_law_638 (by omega) ?_
  rw [e0]
  refine s_callVim E hRM (c_X7_image_0 M) dL_law_639 mf_X7_image ml_L_93 rfl (by omega) (Nat.le_of_ble_eq_true rfl) (by decide) sh0 rfl rfl (fun r639 M639 h639 => ?_)
  refine s_aload_n E dL_law_642 rfl ?_
  refine s_aload_n E dL_law_643 rfl ?_
  refine s_iload_n E dL_law_644 rfl ?_
  refine s_iconst E dL_law_645 ?_
  refine s_iadd E dL_law_646 ?_
  refine s_sld E hX hL dL_law_647 (by omega) ?_
  refine s_callVim E hRM (c_X8_image M639 _ (xz_in _ _)) dL_law_648 mf_X8_image ml_L_96 rfl (by omega) (Nat.le_of_ble_eq_true rfl) (by decide) sh79 rfl rfl (fun r648 M648 h648 => ?_)
  obtain ⟨er, hR2⟩ := o_image (n := 0) (b := 45) (t := 0) (Or.inl ⟨rfl, rfl, rfl⟩) hR h639 (by rw [e0] at h648; exact ⟨h648.1.trans (if_pos (by decide)), h648.2.trans (if_pos (by decide))⟩)
  rw [er]
  exact s_icmp_same E 702 dL_law_651 (by decide) (k _ hR2)
set_option maxRecDepth 100000 in
set_option maxHeartbeats 4000000 in
theorem lw_restore_0 {v : Ev} {as : List Nat} {mc ms L d : Nat} {xs : Nat → Int32} {yy : Nat} (E : Cx v cL_law 4 yL_law.cls d) (hd : 18 ≤ d) (hRM : RMk mc ms v) (hX : SX L xs v) (hL : L ≤ 2048) (hSF : SFy yy v) (M : Mm) (i : Int) (hi : 0 ≤ i ∧ i + 3 < (L : Int)) (hR : Rel M) (e0 : xz xs (i + 1) = 0) (k : ∀ M', Rel M' → Ws v as SH mc ms 702 [some (rv (-1)), some (rv 0), some (rv 79), some (iv i)] [] M') : Ws v as SH mc ms 656 [some (rv (-1)), some (rv 0), some (rv 79), some (iv i)] [] M := by
  refine s_aload_n E dL_law_656 rfl ?_
  refine s_aload_n E dL_law_657 rfl ?_
  refine s_iload_n E dL_law_658 rfl ?_
  refine s_iconst E dL_law_659 ?_
  refine s_iadd E dL_law_660 ?_
  refine s_sld E hX hL dL_law_661 (by omega) ?_
  rw [e0]
  refine s_callVim E hRM (c_X7_restore_0 M hR.2.2.2.2.2.2.2.1.1) dL_law_662 mf_X7_restore ml_L_97 rfl (by omega) (Nat.le_of_ble_eq_true rfl) (by decide) sh0 rfl rfl (fun r662 M662 h662 => ?_)
  have nm : M662 94 = M 94 := by
    rw [h662.2]
    split
    · rfl
    · exact funext fun j => ktk_no (by unfold CK; omega)
  refine s_aload_n E dL_law_665 rfl ?_
  refine s_aload_n E dL_law_666 rfl ?_
  refine s_iload_n E dL_law_667 rfl ?_
  refine s_iconst E dL_law_668 ?_
  refine s_iadd E dL_law_669 ?_
  refine s_sld E hX hL dL_law_670 (by omega) ?_
  refine s_callVim E hRM (c_X8_restore M662 _ (xz_in _ _) (fun _ _ => by rw [e0, nm, ← hR.2.2.2.2.2.2.2.1.2]; exact hR.2.2.2.2.2.2.2.1.1)) dL_law_671 mf_X8_restore ml_L_100 rfl (by omega) (Nat.le_of_ble_eq_true rfl) (by decide) sh79 rfl rfl (fun r671 M671 h671 => ?_)
  obtain ⟨er, hR2⟩ := o_restore (n := 0) (b := 45) (t := 0) (Or.inl ⟨rfl, rfl, rfl⟩) hR h662 (by rw [e0] at h671; exact ⟨h671.1.trans (if_pos (by decide)), h671.2.trans (if_pos (by decide))⟩)
  rw [er]
  exact s_icmp_same E 702 dL_law_674 (by decide) (k _ hR2)
set_option maxRecDepth 100000 in
set_option maxHeartbeats 4000000 in
theorem lw_image_1 {v : Ev} {as : List Nat} {mc ms L d : Nat} {xs : Nat → Int32} {yy : Nat} (E : Cx v cL_law 4 yL_law.cls d) (hd : 18 ≤ d) (hRM : RMk mc ms v) (hX : SX L xs v) (hL : L ≤ 2048) (hSF : SFy yy v) (M : Mm) (i : Int) (hi : 0 ≤ i ∧ i + 3 < (L : Int)) (hR : Rel M) (e0 : xz xs (i + 1) = 1) (k : ∀ M', Rel M' → Ws v as SH mc ms 702 [some (rv (-1)), some (rv 0), some (rv 79), some (iv i)] [] M') : Ws v as SH mc ms 633 [some (rv (-1)), some (rv 0), some (rv 79), some (iv i)] [] M := by
  refine s_aload_n E dL_law_633 rfl ?_
  refine s_aload_n E dL_law_634 rfl ?_
  refine s_iload_n E dL_law_635 rfl ?_
  refine s_iconst E dL_law_636 ?_
  refine s_iadd E dL_law_637 ?_
  refine s_sld E hX hL dL_law_638 (by omega) ?_
  rw [e0]
  refine s_callVim E hRM (c_X7_image_1 M) dL_law_639 mf_X7_image ml_L_93 rfl (by omega) (Nat.le_of_ble_eq_true rfl) (by decide) sh0 rfl rfl (fun r639 M639 h639 => ?_)
  refine s_aload_n E dL_law_642 rfl ?_
  refine s_aload_n E dL_law_643 rfl ?_
  refine s_iload_n E dL_law_644 rfl ?_
  refine s_iconst E dL_law_645 ?_
  refine s_iadd E dL_law_646 ?_
  refine s_sld E hX hL dL_law_647 (by omega) ?_
  refine s_callVim E hRM (c_X8_image M639 _ (xz_in _ _)) dL_law_648 mf_X8_image ml_L_96 rfl (by omega) (Nat.le_of_ble_eq_true rfl) (by decide) sh79 rfl rfl (fun r648 M648 h648 => ?_)
  obtain ⟨er, hR2⟩ := o_image (n := 1) (b := 62) (t := 88) (Or.inr ⟨rfl, rfl, rfl⟩) hR h639 (by rw [e0] at h648; exact ⟨h648.1.trans (if_pos (by decide)), h648.2.trans (if_pos (by decide))⟩)
  rw [er]
  exact s_icmp_same E 702 dL_law_651 (by decide) (k _ hR2)
set_option maxRecDepth 100000 in
set_option maxHeartbeats 4000000 in
theorem lw_restore_1 {v : Ev} {as : List Nat} {mc ms L d : Nat} {xs : Nat → Int32} {yy : Nat} (E : Cx v cL_law 4 yL_law.cls d) (hd : 18 ≤ d) (hRM : RMk mc ms v) (hX : SX L xs v) (hL : L ≤ 2048) (hSF : SFy yy v) (M : Mm) (i : Int) (hi : 0 ≤ i ∧ i + 3 < (L : Int)) (hR : Rel M) (e0 : xz xs (i + 1) = 1) (k : ∀ M', Rel M' → Ws v as SH mc ms 702 [some (rv (-1)), some (rv 0), some (rv 79), some (iv i)] [] M') : Ws v as SH mc ms 656 [some (rv (-1)), some (rv 0), some (rv 79), some (iv i)] [] M := by
  refine s_aload_n E dL_law_656 rfl ?_
  refine s_aload_n E dL_law_657 rfl ?_
  refine s_iload_n E dL_law_658 rfl ?_
  refine s_iconst E dL_law_659 ?_
  refine s_iadd E dL_law_660 ?_
  refine s_sld E hX hL dL_law_661 (by omega) ?_
  rw [e0]
  refine s_callVim E hRM (c_X7_restore_1 M hR.2.2.2.2.2.2.2.2.1.1) dL_law_662 mf_X7_restore ml_L_97 rfl (by omega) (Nat.le_of_ble_eq_true rfl) (by decide) sh0 rfl rfl (fun r662 M662 h662 => ?_)
  have nm : M662 94 = M 94 := by
    rw [h662.2]
    split
    · rfl
    · exact funext fun j => ktk_no (by unfold CK; omega)
  refine s_aload_n E dL_law_665 rfl ?_
  refine s_aload_n E dL_law_666 rfl ?_
  refine s_iload_n E dL_law_667 rfl ?_
  refine s_iconst E dL_law_668 ?_
  refine s_iadd E dL_law_669 ?_
  refine s_sld E hX hL dL_law_670 (by omega) ?_
  refine s_callVim E hRM (c_X8_restore M662 _ (xz_in _ _) (fun _ _ => by rw [e0, nm, ← hR.2.2.2.2.2.2.2.2.1.2]; exact hR.2.2.2.2.2.2.2.2.1.1)) dL_law_671 mf_X8_restore ml_L_100 rfl (by omega) (Nat.le_of_ble_eq_true rfl) (by decide) sh79 rfl rfl (fun r671 M671 h671 => ?_)
  obtain ⟨er, hR2⟩ := o_restore (n := 1) (b := 62) (t := 88) (Or.inr ⟨rfl, rfl, rfl⟩) hR h662 (by rw [e0] at h671; exact ⟨h671.1.trans (if_pos (by decide)), h671.2.trans (if_pos (by decide))⟩)
  rw [er]
  exact s_icmp_same E 702 dL_law_674 (by decide) (k _ hR2)
set_option maxRecDepth 100000 in
set_option maxHeartbeats 4000000 in
theorem lw_image_x {v : Ev} {as : List Nat} {mc ms L d : Nat} {xs : Nat → Int32} {yy : Nat} (E : Cx v cL_law 4 yL_law.cls d) (hd : 18 ≤ d) (hRM : RMk mc ms v) (hX : SX L xs v) (hL : L ≤ 2048) (hSF : SFy yy v) (M : Mm) (i : Int) (hi : 0 ≤ i ∧ i + 3 < (L : Int)) (hR : Rel M) (hx : ¬ (0 ≤ xz xs (i + 1) ∧ xz xs (i + 1) < 2)) (k : ∀ M', Rel M' → Ws v as SH mc ms 702 [some (rv (-1)), some (rv 0), some (rv 79), some (iv i)] [] M') : Ws v as SH mc ms 633 [some (rv (-1)), some (rv 0), some (rv 79), some (iv i)] [] M := by
  refine s_aload_n E dL_law_633 rfl ?_
  refine s_aload_n E dL_law_634 rfl ?_
  refine s_iload_n E dL_law_635 rfl ?_
  refine s_iconst E dL_law_636 ?_
  refine s_iadd E dL_law_637 ?_
  refine s_sld E hX hL dL_law_638 (by omega) ?_
  refine s_callVim E hRM (c_X7_image_x M _ (xz_in _ _) hx) dL_law_639 mf_X7_image ml_L_93 rfl (by omega) (Nat.le_of_ble_eq_true rfl) (by decide) sh0 rfl rfl (fun r639 M639 h639 => ?_)
  obtain ⟨e639, f639⟩ := h639; subst M639
  refine s_aload_n E dL_law_642 rfl ?_
  refine s_aload_n E dL_law_643 rfl ?_
  refine s_iload_n E dL_law_644 rfl ?_
  refine s_iconst E dL_law_645 ?_
  refine s_iadd E dL_law_646 ?_
  refine s_sld E hX hL dL_law_647 (by omega) ?_
  refine s_callVim E hRM (c_X8_image M _ (xz_in _ _)) dL_law_648 mf_X8_image ml_L_96 rfl (by omega) (Nat.le_of_ble_eq_true rfl) (by decide) sh79 rfl rfl (fun r648 M648 h648 => ?_)
  obtain ⟨er, hR2⟩ := (⟨by rw [e639, h648.1, if_neg hx], rel_same hR rfl (by rw [h648.2, if_neg hx])⟩ : r639 = r648 ∧ Rel M648)
  rw [er]
  exact s_icmp_same E 702 dL_law_651 (by decide) (k _ hR2)
set_option maxRecDepth 100000 in
set_option maxHeartbeats 4000000 in
theorem lw_restore_x {v : Ev} {as : List Nat} {mc ms L d : Nat} {xs : Nat → Int32} {yy : Nat} (E : Cx v cL_law 4 yL_law.cls d) (hd : 18 ≤ d) (hRM : RMk mc ms v) (hX : SX L xs v) (hL : L ≤ 2048) (hSF : SFy yy v) (M : Mm) (i : Int) (hi : 0 ≤ i ∧ i + 3 < (L : Int)) (hR : Rel M) (hx : ¬ (0 ≤ xz xs (i + 1) ∧ xz xs (i + 1) < 2)) (k : ∀ M', Rel M' → Ws v as SH mc ms 702 [some (rv (-1)), some (rv 0), some (rv 79), some (iv i)] [] M') : Ws v as SH mc ms 656 [some (rv (-1)), some (rv 0), some (rv 79), some (iv i)] [] M := by
  refine s_aload_n E dL_law_656 rfl ?_
  refine s_aload_n E dL_law_657 rfl ?_
  refine s_iload_n E dL_law_658 rfl ?_
  refine s_iconst E dL_law_659 ?_
  refine s_iadd E dL_law_660 ?_
  refine s_sld E hX hL dL_law_661 (by omega) ?_
  refine s_callVim E hRM (c_X7_restore_x M _ (xz_in _ _) hx) dL_law_662 mf_X7_restore ml_L_97 rfl (by omega) (Nat.le_of_ble_eq_true rfl) (by decide) sh0 rfl rfl (fun r662 M662 h662 => ?_)
  obtain ⟨e662, f662⟩ := h662; subst M662
  refine s_aload_n E dL_law_665 rfl ?_
  refine s_aload_n E dL_law_666 rfl ?_
  refine s_iload_n E dL_law_667 rfl ?_
  refine s_iconst E dL_law_668 ?_
  refine s_iadd E dL_law_669 ?_
  refine s_sld E hX hL dL_law_670 (by omega) ?_
  refine s_callVim E hRM (c_X8_restore M _ (xz_in _ _) (fun h1 h2 => absurd ⟨h1, h2⟩ hx)) dL_law_671 mf_X8_restore ml_L_100 rfl (by omega) (Nat.le_of_ble_eq_true rfl) (by decide) sh79 rfl rfl (fun r671 M671 h671 => ?_)
  obtain ⟨er, hR2⟩ := (⟨by rw [e662, h671.1, if_neg hx], rel_same hR rfl (by rw [h671.2, if_neg hx])⟩ : r662 = r671 ∧ Rel M671)
  rw [er]
  exact s_icmp_same E 702 dL_law_674 (by decide) (k _ hR2)