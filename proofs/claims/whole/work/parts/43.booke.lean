/-! ===== books: the reference ===== -/
theorem ch_ln {s : Int} (h : (97 ≤ s ∧ s < 103) ∨ s = 46 ∨ s = 42) (h2 : s ≠ 42) : chS (lnS s) = s := by
  unfold chS lnS
  rw [if_neg h2]
  (repeat' split) <;> omega
theorem dm_mul {a : Int} {q : Nat} (h : 0 < q) : (a / (q : Int)) / 7 = a / ((7 * q : Nat) : Int) ∧ (a % ((7 * q : Nat) : Int)) / (q : Int) = (a / (q : Int)) % 7 ∧ (a % ((7 * q : Nat) : Int)) % (q : Int) = a % (q : Int) := by
  have e : ((7 * q : Nat) : Int) = (q : Int) * 7 := by rw [Int.natCast_mul, Int.mul_comm]; rfl
  rw [e]
  refine ⟨?_, ?_, ?_⟩
  · rw [Int.ediv_ediv_of_nonneg (by omega)]
  · have h1 := Int.emod_add_mul_ediv a ((q : Int) * 7)
    have h2 := Int.emod_add_mul_ediv a (q : Int)
    have h3 := Int.emod_add_mul_ediv (a / (q : Int)) 7
    have h4 : a / (q : Int) / 7 = a / ((q : Int) * 7) := Int.ediv_ediv_of_nonneg (by omega)
    rw [h4] at h3
    have m1 := Int.emod_nonneg a (show (q : Int) ≠ 0 by omega)
    have m2 := Int.emod_lt_of_pos a (show (0 : Int) < q by omega)
    have e5 : a % ((q : Int) * 7) = (a % (q : Int)) + (q : Int) * (a / (q : Int) % 7) := by
      have : (q : Int) * (a / (q : Int)) = (q : Int) * (a / (q : Int) % 7) + (q : Int) * 7 * (a / ((q : Int) * 7)) := by
        rw [Int.mul_assoc, ← Int.mul_add, h3]
      omega
    rw [e5, Int.add_mul_ediv_left _ _ (by omega), Int.ediv_eq_zero_of_lt m1 m2, Int.zero_add]
  · exact Int.emod_emod_of_dvd a (Int.dvd_mul_right _ _)

set_option maxRecDepth 100000 in
set_option maxHeartbeats 4000000 in
theorem lp_X8_ll {v : Ev} {as : List Nat} (M0 : Mm) (code : Int) (hc : 0 ≤ code ∧ code ≤ 16807) (hn : 0 ≤ M0 79 3 ∧ M0 79 3 ≤ 12) (hs : ∀ j, 0 ≤ j → j < M0 79 3 → (97 ≤ M0 81 j ∧ M0 81 j < 103) ∨ M0 81 j = 46 ∨ M0 81 j = 42) (E : Cx v cX8_layLine 4 yX8_layLine.cls 3) (hret : RetI v as cX8_layLine .int (fun r M' => r = code / (nq (M0 81) (M0 79 3).toNat 0 : Int) ∧ (∀ j, 0 ≤ j → j < M0 79 3 → M' 91 j = chS (fil (M0 81) (M0 79 3).toNat 0 (code % (nq (M0 81) (M0 79 3).toNat 0 : Int)) j)) ∧ Fr [91] M0 M')) : ∀ (N : Nat) (M : Mm) (i c : Int), (i + 1).toNat < N → (-1 ≤ i ∧ i < M0 79 3) → (c = code / (nq (M0 81) (M0 79 3 - 1 - i).toNat (i + 1) : Int)) → (∀ j, i < j → j < M0 79 3 → M 91 j = chS (fil (M0 81) (M0 79 3 - 1 - i).toNat (i + 1) (code % (nq (M0 81) (M0 79 3 - 1 - i).toNat (i + 1) : Int)) j)) → (Fr [91] M0 M) → Ws v as SH 0 0 9 [some (rv 79), some (iv code), some (iv c), some (iv i)] [] M := by
  intro N
  induction N with
  | zero =>
    intro M i c hN
    exact absurd hN (Nat.not_lt_zero _)
  | succ N ih =>
    intro M i c hN g0 g1 g2 g3
    refine s_iload_n E dX8_layLine_9 rfl ?_
    refine s_if_lt E 74 dX8_layLine_10 (by decide) (by omega) (fun h10 => ?_) (fun h10 => ?_)
    · refine s_iload_n E dX8_layLine_74 rfl ?_
      refine hret _ _ ?_ (fun q => by cases q) _ _ dX8_layLine_75
      have e : i = -1 := by omega
      rw [e, show (M0 79 3 - 1 - -1).toNat = (M0 79 3).toNat by omega, show (-1 : Int) + 1 = 0 by decide] at g1 g2
      exact ⟨g1, fun j h1 h2 => g2 j (by omega) h2, g3⟩
    · have q := nq_pos (M0 81) (M0 79 3 - 1 - i).toNat (i + 1)
      have hc0 : 0 ≤ c ∧ c ≤ 16807 := by
        rw [g1]
        exact ⟨Int.ediv_nonneg hc.1 (by omega), Int.le_trans (Int.ediv_le_self _ hc.1) hc.2⟩
      have hsi := hs i (by omega) (by omega)
      have e1 : (M0 79 3 - 1 - (i + -1)).toNat = (M0 79 3 - 1 - i).toNat + 1 := by omega
      have e2 : i + -1 + 1 = i := by omega
      refine s_aload_n E dX8_layLine_13 rfl ?_
      refine s_getR (kf := 18) E dX8_layLine_14 rfl inb_X8 (Nat.le_of_ble_eq_true rfl) fl_X8_50 (by decide) sh79 rfl ?_
      refine s_iload_n E dX8_layLine_17 rfl ?_
      refine s_aload_n E dX8_layLine_18 rfl ?_
      refine s_getR (kf := 4) E dX8_layLine_19 rfl inb_X8 (Nat.le_of_ble_eq_true rfl) fl_X8_20 (by decide) sh79 rfl ?_
      refine s_iload_n E dX8_layLine_22 rfl ?_
      refine s_iald E dX8_layLine_23 (by decide) sh81 (Nat.le_of_ble_eq_true rfl) (by omega) ?_
      rw [g3 81 (by decide)]
      refine s_iast E dX8_layLine_24 (by decide) sh91 (Nat.le_of_ble_eq_true rfl) (by omega) ?_
      refine s_aload_n E dX8_layLine_25 rfl ?_
      refine s_getR (kf := 4) E dX8_layLine_26 rfl inb_X8 (Nat.le_of_ble_eq_true rfl) fl_X8_20 (by decide) sh79 rfl ?_
      refine s_iload_n E dX8_layLine_29 rfl ?_
      refine s_iald E dX8_layLine_30 (by decide) sh81 (Nat.le_of_ble_eq_true rfl) (by omega) ?_
      rw [upm_row (by decide), g3 81 (by decide)]
      refine s_bipush E dX8_layLine_31 rfl ?_
      refine s_icmp_ne E 68 dX8_layLine_33 (by decide) (by omega) (by omega) (fun h33 => ?_) (fun h33 => ?_)
      · refine s_iinc (ls' := [_, _, _, _]) E dX8_layLine_68 rfl rfl ?_
        refine s_goto E 9 dX8_layLine_71 (by decide) ?_
        refine ih _ _ _ (by omega) (by omega) ?_ (fun j h1 h2 => ?_) (g3.up (by decide))
        · rw [e1, e2, nq_line h33]; exact g1
        · rw [e1, e2, nq_line h33]
          have m0 : 0 ≤ code % (nq (M0 81) (M0 79 3 - 1 - i).toNat (i + 1) : Int) := Int.emod_nonneg _ (by omega)
          have m1 := Int.emod_lt_of_pos code (show (0 : Int) < nq (M0 81) (M0 79 3 - 1 - i).toNat (i + 1) by omega)
          have fa := fil_at (p := M0 81) (r := (M0 79 3 - 1 - i).toNat) (i := i) (d := 0) (j := j) ⟨m0, m1⟩
          rw [Int.zero_mul, Int.zero_add, Int.add_zero] at fa
          rw [fa]
          by_cases e : j = i
          · rw [if_pos e, e, upm_eq, loS_ln h33, ch_ln hsi h33]
          · rw [if_neg e, upm_ne (Or.inr e)]
            exact g2 j (by omega) h2
      · refine s_aload_n E dX8_layLine_36 rfl ?_
        refine s_getR (kf := 18) E dX8_layLine_37 rfl inb_X8 (Nat.le_of_ble_eq_true rfl) fl_X8_50 (by decide) sh79 rfl ?_
        refine s_iload_n E dX8_layLine_40 rfl ?_
        refine s_iload_n E dX8_layLine_41 rfl ?_
        refine s_bipush E dX8_layLine_42 rfl ?_
        refine s_irem E dX8_layLine_44 (by omega) (by omega) ?_
        refine s_bipush E dX8_layLine_45 rfl ?_
        refine s_icmp_ne E 55 dX8_layLine_47 (by decide) (by omega) (by omega) (fun h47 => ?_) (fun h47 => ?_)
        · refine s_bipush E dX8_layLine_55 rfl ?_
          refine s_iload_n E dX8_layLine_57 rfl ?_
          refine s_bipush E dX8_layLine_58 rfl ?_
          refine s_irem E dX8_layLine_60 (by omega) (by omega) ?_
          refine s_iadd E dX8_layLine_61 ?_
          refine s_iast E dX8_layLine_62 (by decide) sh91 (Nat.le_of_ble_eq_true rfl) (by omega) ?_
          refine s_iload_n E dX8_layLine_63 rfl ?_
          refine s_bipush E dX8_layLine_64 rfl ?_
          refine s_idiv E dX8_layLine_66 (by omega) (by omega) ?_
          refine s_istore_n (ls' := [_, _, _, _]) E dX8_layLine_67 (Nat.le_of_ble_eq_true rfl) rfl ?_
          refine s_iinc (ls' := [_, _, _, _]) E dX8_layLine_68 rfl rfl ?_
          refine s_goto E 9 dX8_layLine_71 (by decide) ?_
          have hp : M0 81 i = 42 := Classical.byContradiction h33
          have dm := dm_mul (a := code) q
          refine ih _ _ _ (by omega) (by omega) ?_ (fun j h1 h2 => ?_) ((g3.up (by decide)).up (by decide))
          · rw [e1, e2, nq_hole hp, ← dm.1, g1]
          · rw [e1, e2, nq_hole hp]
            have m0 : 0 ≤ code % (nq (M0 81) (M0 79 3 - 1 - i).toNat (i + 1) : Int) := Int.emod_nonneg _ (by omega)
            have m1 := Int.emod_lt_of_pos code (show (0 : Int) < nq (M0 81) (M0 79 3 - 1 - i).toNat (i + 1) by omega)
            have fa := fil_at (p := M0 81) (r := (M0 79 3 - 1 - i).toNat) (i := i) (d := c % 7) (j := j) ⟨m0, m1⟩
            have em : code % ((7 * nq (M0 81) (M0 79 3 - 1 - i).toNat (i + 1) : Nat) : Int) = c % 7 * (nq (M0 81) (M0 79 3 - 1 - i).toNat (i + 1) : Int) + code % (nq (M0 81) (M0 79 3 - 1 - i).toNat (i + 1) : Int) := by
              have w := Int.emod_add_mul_ediv (code % ((7 * nq (M0 81) (M0 79 3 - 1 - i).toNat (i + 1) : Nat) : Int)) (nq (M0 81) (M0 79 3 - 1 - i).toNat (i + 1) : Int)
              rw [dm.2.1, dm.2.2, ← g1, Int.mul_comm] at w
              omega
            rw [em, fa]
            by_cases e : j = i
            · rw [if_pos e, e, upm_eq, (lnS_hole hp).2.1, Int.zero_add]
              unfold chS
              rw [if_neg (by omega)]
            · rw [if_neg e, upm_ne (Or.inr e), upm_ne (Or.inr e)]
              exact g2 j (by omega) h2
        · refine s_bipush E dX8_layLine_50 rfl ?_
          refine s_goto E 62 dX8_layLine_52 (by decide) ?_
          refine s_iast E dX8_layLine_62 (by decide) sh91 (Nat.le_of_ble_eq_true rfl) (by omega) ?_
          refine s_iload_n E dX8_layLine_63 rfl ?_
          refine s_bipush E dX8_layLine_64 rfl ?_
          refine s_idiv E dX8_layLine_66 (by omega) (by omega) ?_
          refine s_istore_n (ls' := [_, _, _, _]) E dX8_layLine_67 (Nat.le_of_ble_eq_true rfl) rfl ?_
          refine s_iinc (ls' := [_, _, _, _]) E dX8_layLine_68 rfl rfl ?_
          refine s_goto E 9 dX8_layLine_71 (by decide) ?_
          have hp : M0 81 i = 42 := Classical.byContradiction h33
          have dm := dm_mul (a := code) q
          refine ih _ _ _ (by omega) (by omega) ?_ (fun j h1 h2 => ?_) ((g3.up (by decide)).up (by decide))
          · rw [e1, e2, nq_hole hp, ← dm.1, g1]
          · rw [e1, e2, nq_hole hp]
            have m0 : 0 ≤ code % (nq (M0 81) (M0 79 3 - 1 - i).toNat (i + 1) : Int) := Int.emod_nonneg _ (by omega)
            have m1 := Int.emod_lt_of_pos code (show (0 : Int) < nq (M0 81) (M0 79 3 - 1 - i).toNat (i + 1) by omega)
            have fa := fil_at (p := M0 81) (r := (M0 79 3 - 1 - i).toNat) (i := i) (d := c % 7) (j := j) ⟨m0, m1⟩
            have em : code % ((7 * nq (M0 81) (M0 79 3 - 1 - i).toNat (i + 1) : Nat) : Int) = c % 7 * (nq (M0 81) (M0 79 3 - 1 - i).toNat (i + 1) : Int) + code % (nq (M0 81) (M0 79 3 - 1 - i).toNat (i + 1) : Int) := by
              have w := Int.emod_add_mul_ediv (code % ((7 * nq (M0 81) (M0 79 3 - 1 - i).toNat (i + 1) : Nat) : Int)) (nq (M0 81) (M0 79 3 - 1 - i).toNat (i + 1) : Int)
              rw [dm.2.1, dm.2.2, ← g1, Int.mul_comm] at w
              omega
            rw [em, fa]
            by_cases e : j = i
            · rw [if_pos e, e, upm_eq, (lnS_hole hp).2.1, Int.zero_add]
              unfold chS
              rw [if_pos (by omega)]
            · rw [if_neg e, upm_ne (Or.inr e), upm_ne (Or.inr e)]
              exact g2 j (by omega) h2

set_option maxRecDepth 100000 in
set_option maxHeartbeats 4000000 in
theorem c_X8_layLine (M0 : Mm) (code : Int) (hc : 0 ≤ code ∧ code ≤ 16807) (hn : 0 ≤ M0 79 3 ∧ M0 79 3 ≤ 12) (hs : ∀ j, 0 ≤ j → j < M0 79 3 → (97 ≤ M0 81 j ∧ M0 81 j < 103) ∨ M0 81 j = 46 ∨ M0 81 j = 42) : CtI yX8_layLine cX8_layLine 4 .int 3 SH [rv 79, iv code] M0 (fun r M' => r = code / (nq (M0 81) (M0 79 3).toNat 0 : Int) ∧ (∀ j, 0 ≤ j → j < M0 79 3 → M' 91 j = chS (fil (M0 81) (M0 79 3).toNat 0 (code % (nq (M0 81) (M0 79 3).toNat 0 : Int)) j)) ∧ Fr [91] M0 M') := by
  refine CtI.of rfl (Nat.le_of_ble_eq_true rfl) (Or.inl rfl) (fun v as E hret => ?_)
  show Ws v as SH 0 0 0 [some (rv 79), some (iv code), none, none] [] M0
  refine s_iload_n E dX8_layLine_0 rfl ?_
  refine s_istore_n (ls' := [_, _, _, _]) E dX8_layLine_1 (Nat.le_of_ble_eq_true rfl) rfl ?_
  refine s_aload_n E dX8_layLine_2 rfl ?_
  refine s_getI (kf := 3) E 3 rfl dX8_layLine_3 rfl inb_X8 (Nat.le_of_ble_eq_true rfl) fl_X8_75 (by decide) sh79 rfl ?_
  refine s_iconst E dX8_layLine_6 ?_
  refine s_isub E dX8_layLine_7 ?_
  refine s_istore_n (ls' := [_, _, _, _]) E dX8_layLine_8 (Nat.le_of_ble_eq_true rfl) rfl ?_
  exact lp_X8_ll M0 code hc hn hs E hret 14 M0 _ code (by omega) (by omega) (by rw [show (M0 79 3 - 1 - (M0 79 3 - 1)).toNat = 0 by omega]; show code = code / 1; omega) (fun j h1 h2 => by omega) (Fr.rf _ M0)

set_option maxRecDepth 100000 in
set_option maxHeartbeats 4000000 in
theorem lp_X8_ho_in {v : Ev} {as : List Nat} (M0 M1 : Mm) (i k : Int) (H : Int → Int) (hk : k = -6 ∨ (0 ≤ k ∧ k < 6)) (h1 : ∀ q, 0 ≤ q → q < 6 → M1 92 q = H q) (E : Cx v cX8_holds 4 yX8_holds.cls 3) (hret : ∀ (M : Mm) (o3 : Option Vv), (∀ j, 0 ≤ j → j < 6 → M 92 j = stepH k H j) → Fr [92] M1 M → Ws v as SH 0 0 112 [some (rv 79), some (iv i), some (iv k), o3] [] M) : ∀ (N : Nat) (M : Mm) (q : Int), (6 - q).toNat < N → (0 ≤ q ∧ q ≤ 6) → (∀ j, 0 ≤ j → j < q → M 92 j = stepH k H j) → (∀ j, q ≤ j → M 92 j = M1 92 j) → (Fr [92] M1 M) → Ws v as SH 0 0 81 [some (rv 79), some (iv i), some (iv k), some (iv q)] [] M := by
  intro N
  induction N with
  | zero =>
    intro M q hN
    exact absurd hN (Nat.not_lt_zero _)
  | succ N ih =>
    intro M q hN g0 g1 g2 g3
    refine s_iload_n E dX8_holds_81 rfl ?_
    refine s_bipush E dX8_holds_82 rfl ?_
    refine s_icmp_ge E 112 dX8_holds_84 (by decide) (by omega) (by omega) (fun h84 => ?_) (fun h84 => ?_)
    · exact hret M _ (fun j h1 h2 => g1 j h1 (by omega)) g3
    · refine s_aload_n E dX8_holds_87 rfl ?_
      refine s_getR (kf := 19) E dX8_holds_88 rfl inb_X8 (Nat.le_of_ble_eq_true rfl) fl_X8_53 (by decide) sh79 rfl ?_
      refine s_iload_n E dX8_holds_91 rfl ?_
      refine s_dup2 E dX8_holds_92 ?_
      refine s_iald E dX8_holds_93 (by decide) sh92 (Nat.le_of_ble_eq_true rfl) (by omega) ?_
      refine s_iload_n E dX8_holds_94 rfl ?_
      refine s_iload_n E dX8_holds_95 rfl ?_
      refine s_icmp_ne E 103 dX8_holds_96 (by decide) (by omega) (by omega) (fun h96 => ?_) (fun h96 => ?_)
      · refine s_iconst E dX8_holds_103 ?_
        refine s_iadd E dX8_holds_104 ?_
        refine s_iast E dX8_holds_105 (by decide) sh92 (Nat.le_of_ble_eq_true rfl) (by omega) ?_
        refine s_iinc (ls' := [_, _, _, _]) E dX8_holds_106 rfl rfl ?_
        refine s_goto E 81 dX8_holds_109 (by decide) ?_
        refine ih _ _ (by omega) (by omega) (fun j h3 h4 => ?_) (fun j h3 => ?_) (g3.up (by decide))
        · by_cases e : j = q
          · have a := g2 q (by omega)
            have b := h1 q (by omega) (by omega)
            rw [e, upm_eq, a, b]
            unfold stepH
            rw [if_neg (by omega)]
          · rw [upm_ne (Or.inr e)]
            exact g1 j h3 (by omega)
        · rw [upm_ne (Or.inr (by omega))]
          exact g2 j (by omega)
      · refine s_iconst E dX8_holds_99 ?_
        refine s_goto E 104 dX8_holds_100 (by decide) ?_
        refine s_iadd E dX8_holds_104 ?_
        refine s_iast E dX8_holds_105 (by decide) sh92 (Nat.le_of_ble_eq_true rfl) (by omega) ?_
        refine s_iinc (ls' := [_, _, _, _]) E dX8_holds_106 rfl rfl ?_
        refine s_goto E 81 dX8_holds_109 (by decide) ?_
        refine ih _ _ (by omega) (by omega) (fun j h3 h4 => ?_) (fun j h3 => ?_) (g3.up (by decide))
        · by_cases e : j = q
          · have a := g2 q (by omega)
            have b := h1 q (by omega) (by omega)
            rw [e, upm_eq, a, b]
            unfold stepH
            rw [if_pos (by omega)]
          · rw [upm_ne (Or.inr e)]
            exact g1 j h3 (by omega)
        · rw [upm_ne (Or.inr (by omega))]
          exact g2 j (by omega)

set_option maxRecDepth 100000 in
set_option maxHeartbeats 4000000 in
theorem lp_X8_ho {v : Ev} {as : List Nat} (M0 : Mm) (c0 : Int) (hn : 0 ≤ M0 79 3 ∧ M0 79 3 ≤ 12) (hs : ∀ k, 0 ≤ k → k < 6 → 0 ≤ M0 80 (4 * k) ∧ M0 80 (4 * k) ≤ 999) (E : Cx v cX8_holds 4 yX8_holds.cls 3) (hret : RetI v as cX8_holds .int (fun r M' => r = FF (M0 81) (M0 79 3).toNat 0 (fun k => M0 80 (4 * k)) c0 ∧ Fr [92] M0 M')) : ∀ (N : Nat) (M : Mm) (i c : Int) (H : Int → Int) (o2 o3 : Option Vv), (M0 79 3 - i).toNat < N → (0 ≤ i ∧ i ≤ M0 79 3) → (0 ≤ c ∧ c < nq (M0 81) (M0 79 3 - i).toNat i) → (FF (M0 81) (M0 79 3 - i).toNat i H c = FF (M0 81) (M0 79 3).toNat 0 (fun k => M0 80 (4 * k)) c0) → (∀ j, i ≤ j → j < M0 79 3 → M 91 j = chS (fil (M0 81) (M0 79 3 - i).toNat i c j)) → (∀ k, 0 ≤ k → k < 6 → M 92 k = H k ∧ 0 ≤ H k ∧ H k ≤ 999 + i) → (Fr [92] M0 M) → Ws v as SH 0 0 30 [some (rv 79), some (iv i), o2, o3] [] M := by
  intro N
  induction N with
  | zero =>
    intro M i c H o2 o3 hN
    exact absurd hN (Nat.not_lt_zero _)
  | succ N ih =>
    intro M i c H o2 o3 hN g0 g1 g2 g3 g4 g5
    have e79 := g5 79 (by decide)
    refine s_iload_n E dX8_holds_30 rfl ?_
    refine s_aload_n E dX8_holds_31 rfl ?_
    refine s_getI (kf := 3) E 3 rfl dX8_holds_32 rfl inb_X8 (Nat.le_of_ble_eq_true rfl) fl_X8_75 (by decide) sh79 rfl ?_
    rw [e79]
    refine s_icmp_ge E 118 dX8_holds_35 (by decide) (by omega) (by omega) (fun h35 => ?_) (fun h35 => ?_)
    · refine s_aload_n E dX8_holds_118 rfl ?_
      refine s_getI (kf := 3) E 3 rfl dX8_holds_119 rfl inb_X8 (Nat.le_of_ble_eq_true rfl) fl_X8_75 (by decide) sh79 rfl ?_
      refine hret _ _ ?_ (fun q => by cases q) _ _ dX8_holds_122
      have e : i = M0 79 3 := by omega
      refine ⟨?_, g5⟩
      rw [← g2, show (M0 79 3 - i).toNat = 0 by omega, e79]
      exact e.symm
    · have er : (M0 79 3 - i).toNat = (M0 79 3 - (i + 1)).toNat + 1 := by omega
      have q := nq_pos (M0 81) (M0 79 3 - (i + 1)).toNat (i + 1)
      rw [er] at g1 g2 g3
      have fr := fil_rng (M0 81) ((M0 79 3 - (i + 1)).toNat + 1) i c i g1.1 g1.2 (Int.le_refl _) (by omega)
      have m0 : 0 ≤ c % (nq (M0 81) (M0 79 3 - (i + 1)).toNat (i + 1) : Int) := Int.emod_nonneg _ (by omega)
      have m1 := Int.emod_lt_of_pos c (show (0 : Int) < nq (M0 81) (M0 79 3 - (i + 1)).toNat (i + 1) by omega)
      have ef : ∀ j, fil (M0 81) ((M0 79 3 - (i + 1)).toNat + 1) i c j = if j = i then loS (M0 81 i) + c / (nq (M0 81) (M0 79 3 - (i + 1)).toNat (i + 1) : Int) else fil (M0 81) (M0 79 3 - (i + 1)).toNat (i + 1) (c % (nq (M0 81) (M0 79 3 - (i + 1)).toNat (i + 1) : Int)) j := fun _ => rfl
      have ei : fil (M0 81) ((M0 79 3 - (i + 1)).toNat + 1) i c i = loS (M0 81 i) + c / (nq (M0 81) (M0 79 3 - (i + 1)).toNat (i + 1) : Int) := by rw [ef i, if_pos rfl]
      have e3 : FF (M0 81) ((M0 79 3 - (i + 1)).toNat + 1) i H c = if b2 (okB (fil (M0 81) ((M0 79 3 - (i + 1)).toNat + 1) i c i) H) = 1 then FF (M0 81) (M0 79 3 - (i + 1)).toNat (i + 1) (stepH (fil (M0 81) ((M0 79 3 - (i + 1)).toNat + 1) i c i) H) (c % (nq (M0 81) (M0 79 3 - (i + 1)).toNat (i + 1) : Int)) else i := by rw [ei]; rfl
      have hch := g3 i (by omega) (by omega)
      generalize fil (M0 81) ((M0 79 3 - (i + 1)).toNat + 1) i c i = k at fr ei e3 hch
      have hch2 : M 91 i = if k = 6 then 46 else 97 + k := hch
      refine s_aload_n E dX8_holds_38 rfl ?_
      refine s_getR (kf := 18) E dX8_holds_39 rfl inb_X8 (Nat.le_of_ble_eq_true rfl) fl_X8_50 (by decide) sh79 rfl ?_
      refine s_iload_n E dX8_holds_42 rfl ?_
      refine s_iald E dX8_holds_43 (by decide) sh91 (Nat.le_of_ble_eq_true rfl) (by omega) ?_
      refine s_bipush E dX8_holds_44 rfl ?_
      refine s_icmp_ne E 54 dX8_holds_46 (by decide) (by omega) (by omega) (fun h46 => ?_) (fun h46 => ?_)
      · refine s_aload_n E dX8_holds_54 rfl ?_
        refine s_getR (kf := 18) E dX8_holds_55 rfl inb_X8 (Nat.le_of_ble_eq_true rfl) fl_X8_50 (by decide) sh79 rfl ?_
        refine s_iload_n E dX8_holds_58 rfl ?_
        refine s_iald E dX8_holds_59 (by decide) sh91 (Nat.le_of_ble_eq_true rfl) (by omega) ?_
        refine s_bipush E dX8_holds_60 rfl ?_
        refine s_isub E dX8_holds_62 ?_
        refine s_istore_n (ls' := [_, _, _, _]) E dX8_holds_63 (Nat.le_of_ble_eq_true rfl) rfl ?_
        refine s_iload_n E dX8_holds_64 rfl ?_
        refine s_if_lt E 79 dX8_holds_65 (by decide) (by omega) (fun h65 => ?_) (fun h65 => ?_)
        · refine s_iconst E dX8_holds_79 ?_
          refine s_istore_n (ls' := [_, _, _, _]) E dX8_holds_80 (Nat.le_of_ble_eq_true rfl) rfl ?_
          exfalso
          have hk6 : k = M 91 i - 97 := by (by_cases e : k = 6) <;> simp only [e, if_true, if_false] at hch2 <;> omega
          omega
        · have hhad := g4 (M 91 i - 97) (by omega) (by omega)
          refine s_aload_n E dX8_holds_68 rfl ?_
          refine s_getR (kf := 19) E dX8_holds_69 rfl inb_X8 (Nat.le_of_ble_eq_true rfl) fl_X8_53 (by decide) sh79 rfl ?_
          refine s_iload_n E dX8_holds_72 rfl ?_
          refine s_iald E dX8_holds_73 (by decide) sh92 (Nat.le_of_ble_eq_true rfl) (by omega) ?_
          refine s_if_ne E 79 dX8_holds_74 (by decide) (by omega) (fun h74 => ?_) (fun h74 => ?_)
          · refine s_iconst E dX8_holds_79 ?_
            refine s_istore_n (ls' := [_, _, _, _]) E dX8_holds_80 (Nat.le_of_ble_eq_true rfl) rfl ?_
            have hk6 : k = M 91 i - 97 := by (by_cases e : k = 6) <;> simp only [e, if_true, if_false] at hch2 <;> omega
            have hok : okB k H := by
              unfold okB
              exact Or.inr (by rw [hk6]; have := hhad.2.1; omega)
            rw [if_pos (b2_pos hok)] at e3
            refine lp_X8_ho_in M0 M i _ H (by omega) (fun q h1 h2 => (g4 q h1 h2).1) E (fun M2 o3 a2 f2 => ?_) 7 M 0 (by decide) (by decide) (fun j h1 h2 => by omega) (fun _ _ => rfl) (Fr.rf _ M)
            refine s_iinc (ls' := [_, _, _, _]) E dX8_holds_112 rfl rfl ?_
            refine s_goto E 30 dX8_holds_115 (by decide) ?_
            have hst : ∀ j, 0 ≤ j → j < 6 → M2 92 j = stepH k H j := fun j h1 h2 => by
              rw [a2 j h1 h2]
              unfold stepH
              rw [hk6]
            refine ih _ _ _ (stepH k H) _ _ (by omega) (by omega) ⟨m0, m1⟩ (by rw [← g2, e3]) (fun j h1 h2 => ?_) (fun j h1 h2 => ⟨hst j h1 h2, ?_⟩) (g5.tr f2)
            · rw [f2 91 (by decide), g3 j (by omega) h2, ef j, if_neg (by omega)]
            · have hj := g4 j h1 h2
              have hkk := hok
              unfold okB at hkk
              unfold stepH
              by_cases e : j = k
              · rw [if_pos e]
                have : 0 < H k := by omega
                rw [e] at hj ⊢
                omega
              · rw [if_neg e]
                omega
          · refine s_iload_n E dX8_holds_77 rfl ?_
            refine hret _ _ ?_ (fun q => by cases q) _ _ dX8_holds_78
            have hk6 : k = M 91 i - 97 := by (by_cases e : k = 6) <;> simp only [e, if_true, if_false] at hch2 <;> omega
            have hno : ¬ okB k H := by
              unfold okB
              rw [hk6]
              omega
            rw [if_neg (by rw [b2_neg hno]; decide)] at e3
            exact ⟨by rw [← g2, e3], g5⟩
      · refine s_bipush E dX8_holds_49 rfl ?_
        refine s_goto E 63 dX8_holds_51 (by decide) ?_
        refine s_istore_n (ls' := [_, _, _, _]) E dX8_holds_63 (Nat.le_of_ble_eq_true rfl) rfl ?_
        refine s_iload_n E dX8_holds_64 rfl ?_
        refine s_if_lt E 79 dX8_holds_65 (by decide) (by omega) (fun h65 => ?_) (fun h65 => ?_)
        · refine s_iconst E dX8_holds_79 ?_
          refine s_istore_n (ls' := [_, _, _, _]) E dX8_holds_80 (Nat.le_of_ble_eq_true rfl) rfl ?_
          have hk6 : k = 6 := by (by_cases e : k = 6) <;> simp only [e, if_true, if_false] at hch2 <;> omega
          have hok : okB k H := by
            unfold okB
            omega
          rw [if_pos (b2_pos hok)] at e3
          refine lp_X8_ho_in M0 M i _ H (by omega) (fun q h1 h2 => (g4 q h1 h2).1) E (fun M2 o3 a2 f2 => ?_) 7 M 0 (by decide) (by decide) (fun j h1 h2 => by omega) (fun _ _ => rfl) (Fr.rf _ M)
          refine s_iinc (ls' := [_, _, _, _]) E dX8_holds_112 rfl rfl ?_
          refine s_goto E 30 dX8_holds_115 (by decide) ?_
          have hst : ∀ j, 0 ≤ j → j < 6 → M2 92 j = stepH k H j := fun j h1 h2 => by
            rw [a2 j h1 h2]
            unfold stepH
            rw [if_neg (by omega), if_neg (by omega)]
          refine ih _ _ _ (stepH k H) _ _ (by omega) (by omega) ⟨m0, m1⟩ (by rw [← g2, e3]) (fun j h1 h2 => ?_) (fun j h1 h2 => ⟨hst j h1 h2, ?_⟩) (g5.tr f2)
          · rw [f2 91 (by decide), g3 j (by omega) h2, ef j, if_neg (by omega)]
          · have hj := g4 j h1 h2
            have hkk := hok
            unfold okB at hkk
            unfold stepH
            by_cases e : j = k
            · rw [if_pos e]
              have : 0 < H k := by omega
              rw [e] at hj ⊢
              omega
            · rw [if_neg e]
              omega
        · exact absurd h65 (by decide)

set_option maxRecDepth 100000 in
set_option maxHeartbeats 4000000 in
theorem lp_X8_ho0 {v : Ev} {as : List Nat} (M0 : Mm) (c0 : Int) (hn : 0 ≤ M0 79 3 ∧ M0 79 3 ≤ 12) (hs : ∀ k, 0 ≤ k → k < 6 → 0 ≤ M0 80 (4 * k) ∧ M0 80 (4 * k) ≤ 999) (hc : 0 ≤ c0 ∧ c0 < nq (M0 81) (M0 79 3).toNat 0) (hl : ∀ j, 0 ≤ j → j < M0 79 3 → M0 91 j = chS (fil (M0 81) (M0 79 3).toNat 0 c0 j)) (E : Cx v cX8_holds 4 yX8_holds.cls 3) (hret : RetI v as cX8_holds .int (fun r M' => r = FF (M0 81) (M0 79 3).toNat 0 (fun k => M0 80 (4 * k)) c0 ∧ Fr [92] M0 M')) : ∀ (N : Nat) (M : Mm) (i : Int), (6 - i).toNat < N → (0 ≤ i ∧ i ≤ 6) → (∀ k, 0 ≤ k → k < i → M 92 k = M0 80 (4 * k)) → (Fr [92] M0 M) → Ws v as SH 0 0 2 [some (rv 79), some (iv i), none, none] [] M := by
  intro N
  induction N with
  | zero =>
    intro M i hN
    exact absurd hN (Nat.not_lt_zero _)
  | succ N ih =>
    intro M i hN g0 g1 g2
    refine s_iload_n E dX8_holds_2 rfl ?_
    refine s_bipush E dX8_holds_3 rfl ?_
    refine s_icmp_ge E 28 dX8_holds_5 (by decide) (by omega) (by omega) (fun h5 => ?_) (fun h5 => ?_)
    · refine s_iconst E dX8_holds_28 ?_
      refine s_istore_n (ls' := [_, _, _, _]) E dX8_holds_29 (Nat.le_of_ble_eq_true rfl) rfl ?_
      exact lp_X8_ho M0 c0 hn hs E hret 14 M 0 c0 (fun k => M0 80 (4 * k)) _ _ (by omega) (by omega) (by rw [Int.sub_zero]; exact hc) (by rw [Int.sub_zero]) (fun j h1 h2 => by rw [g2 91 (by decide), Int.sub_zero]; exact hl j h1 h2) (fun k h1 h2 => ⟨g1 k h1 (by omega), (hs k h1 h2).1, by show M0 80 (4 * k) ≤ 999 + 0; have := (hs k h1 h2).2; omega⟩) g2
    · refine s_aload_n E dX8_holds_8 rfl ?_
      refine s_getR (kf := 19) E dX8_holds_9 rfl inb_X8 (Nat.le_of_ble_eq_true rfl) fl_X8_53 (by decide) sh79 rfl ?_
      refine s_iload_n E dX8_holds_12 rfl ?_
      refine s_aload_n E dX8_holds_13 rfl ?_
      refine s_getR (kf := 0) E dX8_holds_14 rfl inb_X8 (Nat.le_of_ble_eq_true rfl) fl_X8_7 (by decide) sh79 rfl ?_
      refine s_iconst E dX8_holds_17 ?_
      refine s_iload_n E dX8_holds_18 rfl ?_
      refine s_imul E dX8_holds_19 ?_
      refine s_iald E dX8_holds_20 (by decide) sh80 (Nat.le_of_ble_eq_true rfl) (by omega) ?_
      rw [g2 80 (by decide)]
      refine s_iast E dX8_holds_21 (by decide) sh92 (Nat.le_of_ble_eq_true rfl) (by omega) ?_
      refine s_iinc (ls' := [_, _, _, _]) E dX8_holds_22 rfl rfl ?_
      refine s_goto E 2 dX8_holds_25 (by decide) ?_
      refine ih _ _ (by omega) (by omega) (fun k h1 h2 => ?_) (g2.up (by decide))
      by_cases e : k = i
      · rw [e, upm_eq]
      · rw [upm_ne (Or.inr e)]; exact g1 k h1 (by omega)

set_option maxRecDepth 100000 in
set_option maxHeartbeats 4000000 in
theorem c_X8_holds (M0 : Mm) (c0 : Int) (hn : 0 ≤ M0 79 3 ∧ M0 79 3 ≤ 12) (hs : ∀ k, 0 ≤ k → k < 6 → 0 ≤ M0 80 (4 * k) ∧ M0 80 (4 * k) ≤ 999) (hc : 0 ≤ c0 ∧ c0 < nq (M0 81) (M0 79 3).toNat 0) (hl : ∀ j, 0 ≤ j → j < M0 79 3 → M0 91 j = chS (fil (M0 81) (M0 79 3).toNat 0 c0 j)) : CtI yX8_holds cX8_holds 4 .int 3 SH [rv 79] M0 (fun r M' => r = FF (M0 81) (M0 79 3).toNat 0 (fun k => M0 80 (4 * k)) c0 ∧ Fr [92] M0 M') := by
  refine CtI.of rfl (Nat.le_of_ble_eq_true rfl) (Or.inl rfl) (fun v as E hret => ?_)
  show Ws v as SH 0 0 0 [some (rv 79), none, none, none] [] M0
  refine s_iconst E dX8_holds_0 ?_
  refine s_istore_n (ls' := [_, _, _, _]) E dX8_holds_1 (Nat.le_of_ble_eq_true rfl) rfl ?_
  exact lp_X8_ho0 M0 c0 hn hs hc hl E hret 7 M0 0 (by decide) (by decide) (fun k h1 h2 => by omega) (Fr.rf _ M0)
