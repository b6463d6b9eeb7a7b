/-! ===== the law, call by call ===== -/
theorem pos_set (k w z : Int) : pos (rv 0 :: [iv k, iv w, iv z]) := by
  intro q h
  simp only [List.mem_cons, List.not_mem_nil, or_false] at h
  rcases h with h | h | h | h
  · cases h
    decide
  · cases h
  · cases h
  · cases h
theorem s_icmp_same {v : Ev} {cc : ByteArray} {nL d pc : Nat} {own : String} {as : List Nat} {sh : List Sh} {ls : List (Option Vv)} {st : List Vv} {M : Mm} {mc ms : Nat} (E : Cx v cc nL own d) {a off : Int} (tgt : Nat) (hd : decode cc pc = .ok (.if_icmp .eq off, 3)) (ht : (pc : Int) + off = (tgt : Int)) (kt : Ws v as sh mc ms tgt ls st M) : Ws v as sh mc ms pc ls (iv a :: iv a :: st) M := by
  obtain ⟨p, l, e, R, s, m, args, below, meth, c, Q, A, D, cA, x⟩ := v
  obtain ⟨hx, hb, hml, hown, hts, hK, hA, hfr, hlo, hNs⟩ := E
  intro H locs lsA hW hS hl
  exact lv_icmp_eq hx hb hd ht (fun _ => kt H locs lsA hW hS hl) (fun q => absurd rfl q)
set_option maxRecDepth 100000 in
set_option maxHeartbeats 4000000 in
theorem lw_wipe {v : Ev} {as : List Nat} {mc ms L d : Nat} {xs : Nat → Int32} {yy : Nat} (E : Cx v cL_law 4 yL_law.cls d) (hd : 18 ≤ d) (hRM : RMk mc ms v) (hX : SX L xs v) (hL : L ≤ 2048) (hSF : SFy yy v) (M : Mm) (i : Int) (hi : 0 ≤ i ∧ i + 3 < (L : Int)) (hR : Rel M) (k : ∀ M', Rel M' → Ws v as SH mc ms 702 [some (rv (-1)), some (rv 0), some (rv 79), some (iv i)] [] M') : Ws v as SH mc ms 235 [some (rv (-1)), some (rv 0), some (rv 79), some (iv i)] [] M := by
  refine s_aload_n E dL_law_235 rfl ?_
  refine s_callVim E hRM (c_X7_wipe M) dL_law_236 mf_X7_wipe ml_L_28 rfl (by omega) (Nat.le_of_ble_eq_true rfl) (by decide) sh0 rfl rfl (fun r236 M236 h236 => ?_)
  refine s_aload_n E dL_law_239 rfl ?_
  refine s_callVim E hRM (c_X8_wipe M236) dL_law_240 mf_X8_wipe ml_L_32 rfl (by omega) (Nat.le_of_ble_eq_true rfl) (by decide) sh79 rfl rfl (fun r240 M240 h240 => ?_)
  obtain ⟨er, hR2⟩ := o_wipe hR h236 h240
  rw [er]
  exact s_icmp_same E 702 dL_law_243 (by decide) (k _ hR2)