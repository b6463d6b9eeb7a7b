/-! ===== the reference's constructor ===== -/
def mJ (i : Int) (M : Mm) : Mm := fun k j => if k = 80 ∧ 0 ≤ j ∧ j < 4 * i ∧ 1 ≤ j % 4 ∧ j % 4 ≤ 2 then 1 else M k j
def mM (M : Mm) : Mm := mJ 6 (upm (upm M 79 1 5) 79 2 2)
theorem mJ_0 (M : Mm) : M = mJ 0 M := by
  funext k j
  unfold mJ
  rw [if_neg (by omega)]
theorem mJ_s {i : Int} (M : Mm) (hi : 0 ≤ i) : upm (upm (mJ i M) 80 (4 * i + 1) 1) 80 (4 * i + 2) 1 = mJ (i + 1) M := by
  funext k j
  unfold upm
  by_cases h1 : k = 80 ∧ j = 4 * i + 2
  · rw [if_pos h1]
    unfold mJ
    rw [if_pos (by omega)]
  · rw [if_neg h1]
    by_cases h2 : k = 80 ∧ j = 4 * i + 1
    · rw [if_pos h2]
      unfold mJ
      rw [if_pos (by omega)]
    · rw [if_neg h2]
      unfold mJ
      by_cases h3 : k = 80 ∧ 0 ≤ j ∧ j < 4 * i ∧ 1 ≤ j % 4 ∧ j % 4 ≤ 2
      · rw [if_pos h3, if_pos (by omega)]
      · rw [if_neg h3, if_neg (by omega)]
def S_X8_init_79_0 : List Sh := [.inl (8, [some none, none, none, none, some none, none, some none, some none, some none, some none, none, none, none, some none, some none, some none, some none, some none, some none, some none, some none, some none])]
def S_X8_init_79_1 : List Sh := [.inl (8, [some none, none, none, none, some none, none, some none, some none, some none, some none, none, none, none, some none, some none, some none, some none, some none, some none, some none, some none, some none]), .inr (0, 24, [])]
def S_X8_init_79_2 : List Sh := [.inl (8, [some (some 80), none, none, none, some none, none, some none, some none, some none, some none, none, none, none, some none, some none, some none, some none, some none, some none, some none, some none, some none]), .inr (0, 24, [])]
def S_X8_init_79_3 : List Sh := [.inl (8, [some (some 80), none, none, none, some none, none, some none, some none, some none, some none, none, none, none, some none, some none, some none, some none, some none, some none, some none, some none, some none]), .inr (0, 24, []), .inr (0, 40, [])]
def S_X8_init_79_4 : List Sh := [.inl (8, [some (some 80), none, none, none, some (some 81), none, some none, some none, some none, some none, none, none, none, some none, some none, some none, some none, some none, some none, some none, some none, some none]), .inr (0, 24, []), .inr (0, 40, [])]
def S_X8_init_79_5 : List Sh := [.inl (8, [some (some 80), none, none, none, some (some 81), none, some none, some none, some none, some none, none, none, none, some none, some none, some none, some none, some none, some none, some none, some none, some none]), .inr (0, 24, []), .inr (0, 40, []), .inr (0, 24, [])]
def S_X8_init_79_6 : List Sh := [.inl (8, [some (some 80), none, none, none, some (some 81), none, some (some 82), some none, some none, some none, none, none, none, some none, some none, some none, some none, some none, some none, some none, some none, some none]), .inr (0, 24, []), .inr (0, 40, []), .inr (0, 24, [])]
def S_X8_init_79_7 : List Sh := [.inl (8, [some (some 80), none, none, none, some (some 81), none, some (some 82), some none, some none, some none, none, none, none, some none, some none, some none, some none, some none, some none, some none, some none, some none]), .inr (0, 24, []), .inr (0, 40, []), .inr (0, 24, []), .inr (0, 36, [])]
def S_X8_init_79_8 : List Sh := [.inl (8, [some (some 80), none, none, none, some (some 81), none, some (some 82), some (some 83), some none, some none, none, none, none, some none, some none, some none, some none, some none, some none, some none, some none, some none]), .inr (0, 24, []), .inr (0, 40, []), .inr (0, 24, []), .inr (0, 36, [])]
def S_X8_init_79_9 : List Sh := [.inl (8, [some (some 80), none, none, none, some (some 81), none, some (some 82), some (some 83), some none, some none, none, none, none, some none, some none, some none, some none, some none, some none, some none, some none, some none]), .inr (0, 24, []), .inr (0, 40, []), .inr (0, 24, []), .inr (0, 36, []), .inr (0, 24, [])]
def S_X8_init_79_10 : List Sh := [.inl (8, [some (some 80), none, none, none, some (some 81), none, some (some 82), some (some 83), some (some 84), some none, none, none, none, some none, some none, some none, some none, some none, some none, some none, some none, some none]), .inr (0, 24, []), .inr (0, 40, []), .inr (0, 24, []), .inr (0, 36, []), .inr (0, 24, [])]
def S_X8_init_79_11 : List Sh := [.inl (8, [some (some 80), none, none, none, some (some 81), none, some (some 82), some (some 83), some (some 84), some none, none, none, none, some none, some none, some none, some none, some none, some none, some none, some none, some none]), .inr (0, 24, []), .inr (0, 40, []), .inr (0, 24, []), .inr (0, 36, []), .inr (0, 24, []), .inr (0, 6, [])]
def S_X8_init_79_12 : List Sh := [.inl (8, [some (some 80), none, none, none, some (some 81), none, some (some 82), some (some 83), some (some 84), some (some 85), none, none, none, some none, some none, some none, some none, some none, some none, some none, some none, some none]), .inr (0, 24, []), .inr (0, 40, []), .inr (0, 24, []), .inr (0, 36, []), .inr (0, 24, []), .inr (0, 6, [])]
def S_X8_init_79_13 : List Sh := [.inl (8, [some (some 80), none, none, none, some (some 81), none, some (some 82), some (some 83), some (some 84), some (some 85), none, none, none, some none, some none, some none, some none, some none, some none, some none, some none, some none]), .inr (0, 24, []), .inr (0, 40, []), .inr (0, 24, []), .inr (0, 36, []), .inr (0, 24, []), .inr (0, 6, []), .inr (0, 6, [])]
def S_X8_init_79_14 : List Sh := [.inl (8, [some (some 80), none, none, none, some (some 81), none, some (some 82), some (some 83), some (some 84), some (some 85), none, none, none, some (some 86), some none, some none, some none, some none, some none, some none, some none, some none]), .inr (0, 24, []), .inr (0, 40, []), .inr (0, 24, []), .inr (0, 36, []), .inr (0, 24, []), .inr (0, 6, []), .inr (0, 6, [])]
def S_X8_init_79_15 : List Sh := [.inl (8, [some (some 80), none, none, none, some (some 81), none, some (some 82), some (some 83), some (some 84), some (some 85), none, none, none, some (some 86), some none, some none, some none, some none, some none, some none, some none, some none]), .inr (0, 24, []), .inr (0, 40, []), .inr (0, 24, []), .inr (0, 36, []), .inr (0, 24, []), .inr (0, 6, []), .inr (0, 6, []), .inr (0, 256, [])]
def S_X8_init_79_16 : List Sh := [.inl (8, [some (some 80), none, none, none, some (some 81), none, some (some 82), some (some 83), some (some 84), some (some 85), none, none, none, some (some 86), some (some 87), some none, some none, some none, some none, some none, some none, some none]), .inr (0, 24, []), .inr (0, 40, []), .inr (0, 24, []), .inr (0, 36, []), .inr (0, 24, []), .inr (0, 6, []), .inr (0, 6, []), .inr (0, 256, [])]
def S_X8_init_79_17 : List Sh := [.inl (8, [some (some 80), none, none, none, some (some 81), none, some (some 82), some (some 83), some (some 84), some (some 85), none, none, none, some (some 86), some (some 87), some none, some none, some none, some none, some none, some none, some none]), .inr (0, 24, []), .inr (0, 40, []), .inr (0, 24, []), .inr (0, 36, []), .inr (0, 24, []), .inr (0, 6, []), .inr (0, 6, []), .inr (0, 256, []), .inr (0, 4, [])]
def S_X8_init_79_18 : List Sh := [.inl (8, [some (some 80), none, none, none, some (some 81), none, some (some 82), some (some 83), some (some 84), some (some 85), none, none, none, some (some 86), some (some 87), some (some 88), some none, some none, some none, some none, some none, some none]), .inr (0, 24, []), .inr (0, 40, []), .inr (0, 24, []), .inr (0, 36, []), .inr (0, 24, []), .inr (0, 6, []), .inr (0, 6, []), .inr (0, 256, []), .inr (0, 4, [])]
def S_X8_init_79_19 : List Sh := [.inl (8, [some (some 80), none, none, none, some (some 81), none, some (some 82), some (some 83), some (some 84), some (some 85), none, none, none, some (some 86), some (some 87), some (some 88), some none, some none, some none, some none, some none, some none]), .inr (0, 24, []), .inr (0, 40, []), .inr (0, 24, []), .inr (0, 36, []), .inr (0, 24, []), .inr (0, 6, []), .inr (0, 6, []), .inr (0, 256, []), .inr (0, 4, []), .inr (0, 4, [])]
def S_X8_init_79_20 : List Sh := [.inl (8, [some (some 80), none, none, none, some (some 81), none, some (some 82), some (some 83), some (some 84), some (some 85), none, none, none, some (some 86), some (some 87), some (some 88), some (some 89), some none, some none, some none, some none, some none]), .inr (0, 24, []), .inr (0, 40, []), .inr (0, 24, []), .inr (0, 36, []), .inr (0, 24, []), .inr (0, 6, []), .inr (0, 6, []), .inr (0, 256, []), .inr (0, 4, []), .inr (0, 4, [])]
def S_X8_init_79_21 : List Sh := [.inl (8, [some (some 80), none, none, none, some (some 81), none, some (some 82), some (some 83), some (some 84), some (some 85), none, none, none, some (some 86), some (some 87), some (some 88), some (some 89), some none, some none, some none, some none, some none]), .inr (0, 24, []), .inr (0, 40, []), .inr (0, 24, []), .inr (0, 36, []), .inr (0, 24, []), .inr (0, 6, []), .inr (0, 6, []), .inr (0, 256, []), .inr (0, 4, []), .inr (0, 4, []), .inr (0, 64, [])]
def S_X8_init_79_22 : List Sh := [.inl (8, [some (some 80), none, none, none, some (some 81), none, some (some 82), some (some 83), some (some 84), some (some 85), none, none, none, some (some 86), some (some 87), some (some 88), some (some 89), some (some 90), some none, some none, some none, some none]), .inr (0, 24, []), .inr (0, 40, []), .inr (0, 24, []), .inr (0, 36, []), .inr (0, 24, []), .inr (0, 6, []), .inr (0, 6, []), .inr (0, 256, []), .inr (0, 4, []), .inr (0, 4, []), .inr (0, 64, [])]
def S_X8_init_79_23 : List Sh := [.inl (8, [some (some 80), none, none, none, some (some 81), none, some (some 82), some (some 83), some (some 84), some (some 85), none, none, none, some (some 86), some (some 87), some (some 88), some (some 89), some (some 90), some none, some none, some none, some none]), .inr (0, 24, []), .inr (0, 40, []), .inr (0, 24, []), .inr (0, 36, []), .inr (0, 24, []), .inr (0, 6, []), .inr (0, 6, []), .inr (0, 256, []), .inr (0, 4, []), .inr (0, 4, []), .inr (0, 64, []), .inr (0, 12, [])]
def S_X8_init_79_24 : List Sh := [.inl (8, [some (some 80), none, none, none, some (some 81), none, some (some 82), some (some 83), some (some 84), some (some 85), none, none, none, some (some 86), some (some 87), some (some 88), some (some 89), some (some 90), some (some 91), some none, some none, some none]), .inr (0, 24, []), .inr (0, 40, []), .inr (0, 24, []), .inr (0, 36, []), .inr (0, 24, []), .inr (0, 6, []), .inr (0, 6, []), .inr (0, 256, []), .inr (0, 4, []), .inr (0, 4, []), .inr (0, 64, []), .inr (0, 12, [])]
def S_X8_init_79_25 : List Sh := [.inl (8, [some (some 80), none, none, none, some (some 81), none, some (some 82), some (some 83), some (some 84), some (some 85), none, none, none, some (some 86), some (some 87), some (some 88), some (some 89), some (some 90), some (some 91), some none, some none, some none]), .inr (0, 24, []), .inr (0, 40, []), .inr (0, 24, []), .inr (0, 36, []), .inr (0, 24, []), .inr (0, 6, []), .inr (0, 6, []), .inr (0, 256, []), .inr (0, 4, []), .inr (0, 4, []), .inr (0, 64, []), .inr (0, 12, []), .inr (0, 6, [])]
def S_X8_init_79_26 : List Sh := [.inl (8, [some (some 80), none, none, none, some (some 81), none, some (some 82), some (some 83), some (some 84), some (some 85), none, none, none, some (some 86), some (some 87), some (some 88), some (some 89), some (some 90), some (some 91), some (some 92), some none, some none]), .inr (0, 24, []), .inr (0, 40, []), .inr (0, 24, []), .inr (0, 36, []), .inr (0, 24, []), .inr (0, 6, []), .inr (0, 6, []), .inr (0, 256, []), .inr (0, 4, []), .inr (0, 4, []), .inr (0, 64, []), .inr (0, 12, []), .inr (0, 6, [])]
def S_X8_init_79_27 : List Sh := [.inl (8, [some (some 80), none, none, none, some (some 81), none, some (some 82), some (some 83), some (some 84), some (some 85), none, none, none, some (some 86), some (some 87), some (some 88), some (some 89), some (some 90), some (some 91), some (some 92), some none, some none]), .inr (0, 24, []), .inr (0, 40, []), .inr (0, 24, []), .inr (0, 36, []), .inr (0, 24, []), .inr (0, 6, []), .inr (0, 6, []), .inr (0, 256, []), .inr (0, 4, []), .inr (0, 4, []), .inr (0, 64, []), .inr (0, 12, []), .inr (0, 6, []), .inr (0, 176, [])]
def S_X8_init_79_28 : List Sh := [.inl (8, [some (some 80), none, none, none, some (some 81), none, some (some 82), some (some 83), some (some 84), some (some 85), none, none, none, some (some 86), some (some 87), some (some 88), some (some 89), some (some 90), some (some 91), some (some 92), some (some 93), some none]), .inr (0, 24, []), .inr (0, 40, []), .inr (0, 24, []), .inr (0, 36, []), .inr (0, 24, []), .inr (0, 6, []), .inr (0, 6, []), .inr (0, 256, []), .inr (0, 4, []), .inr (0, 4, []), .inr (0, 64, []), .inr (0, 12, []), .inr (0, 6, []), .inr (0, 176, [])]
def S_X8_init_79_29 : List Sh := [.inl (8, [some (some 80), none, none, none, some (some 81), none, some (some 82), some (some 83), some (some 84), some (some 85), none, none, none, some (some 86), some (some 87), some (some 88), some (some 89), some (some 90), some (some 91), some (some 92), some (some 93), some none]), .inr (0, 24, []), .inr (0, 40, []), .inr (0, 24, []), .inr (0, 36, []), .inr (0, 24, []), .inr (0, 6, []), .inr (0, 6, []), .inr (0, 256, []), .inr (0, 4, []), .inr (0, 4, []), .inr (0, 64, []), .inr (0, 12, []), .inr (0, 6, []), .inr (0, 176, []), .inr (1, 2, [])]
def S_X8_init_79_30 : List Sh := [.inl (8, [some (some 80), none, none, none, some (some 81), none, some (some 82), some (some 83), some (some 84), some (some 85), none, none, none, some (some 86), some (some 87), some (some 88), some (some 89), some (some 90), some (some 91), some (some 92), some (some 93), some (some 94)]), .inr (0, 24, []), .inr (0, 40, []), .inr (0, 24, []), .inr (0, 36, []), .inr (0, 24, []), .inr (0, 6, []), .inr (0, 6, []), .inr (0, 256, []), .inr (0, 4, []), .inr (0, 4, []), .inr (0, 64, []), .inr (0, 12, []), .inr (0, 6, []), .inr (0, 176, []), .inr (1, 2, [])]
set_option maxRecDepth 100000 in
set_option maxHeartbeats 4000000 in
theorem lpM (P : List Sh) (hP : P.length = 79) (hc : clo 79 P = true) (M : Mm) (hz : Zr M 79) (v : Ev) (as : List Nat) (E : Cx v cX8_init 2 yX8_init.cls 1) (hend : ∀ pc ls, decode cX8_init pc = .ok (.return_, 1) → Ws v as (P ++ S_X8_init_79_30) 15 684 pc ls [] (mM M)) : ∀ (N : Nat) (i : Int), (6 - i).toNat < N → 0 ≤ i → i ≤ 6 → ∀ M1, M1 = mJ i (upm (upm M 79 1 5) 79 2 2) → Ws v as (P ++ S_X8_init_79_30) 15 684 135 [some (rv 79), some (iv i)] [] M1 := by
  intro N
  induction N with
  | zero =>
    intro i hN
    exact absurd hN (Nat.not_lt_zero _)
  | succ N ih =>
    intro i hN h0 h6 M1 hM1
    subst hM1
    refine s_iload_n E dX8_init_135 rfl ?_
    refine s_bipush E dX8_init_136 rfl ?_
    refine s_icmp_ge E 169 dX8_init_138 (by decide) (by omega) (by omega) (fun h138 => ?_) (fun h138 => ?_)
    · have e : i = 6 := by omega
      subst e
      exact hend _ _ dX8_init_169
    · refine s_aload_n E dX8_init_141 rfl ?_
      refine s_getR (kf := 0) E dX8_init_142 rfl inb_X8 (Nat.le_of_ble_eq_true rfl) fl_X8_7 (by decide) (gP (n := 79) (k := 0) hP rfl) rfl ?_
      refine s_iconst E dX8_init_145 ?_
      refine s_iload_n E dX8_init_146 rfl ?_
      refine s_imul E dX8_init_147 ?_
      refine s_iconst E dX8_init_148 ?_
      refine s_iadd E dX8_init_149 ?_
      refine s_iconst E dX8_init_150 ?_
      refine s_iast E dX8_init_151 (by decide) (gP (n := 79) (k := 1) hP rfl) (Nat.le_of_ble_eq_true rfl) (by omega) ?_
      refine s_aload_n E dX8_init_152 rfl ?_
      refine s_getR (kf := 0) E dX8_init_153 rfl inb_X8 (Nat.le_of_ble_eq_true rfl) fl_X8_7 (by decide) (gP (n := 79) (k := 0) hP rfl) rfl ?_
      refine s_iconst E dX8_init_156 ?_
      refine s_iload_n E dX8_init_157 rfl ?_
      refine s_imul E dX8_init_158 ?_
      refine s_iconst E dX8_init_159 ?_
      refine s_iadd E dX8_init_160 ?_
      refine s_iconst E dX8_init_161 ?_
      refine s_iast E dX8_init_162 (by decide) (gP (n := 79) (k := 1) hP rfl) (Nat.le_of_ble_eq_true rfl) (by omega) ?_
      refine s_iinc (ls' := [_, _]) E dX8_init_163 rfl rfl ?_
      refine s_goto E 135 dX8_init_166 (by decide) ?_
      have e : upm (upm (mJ i (upm (upm M 79 1 5) 79 2 2)) 80 (4 * i + 1) 1) 80 (4 * i + 2) 1 = mJ (i + 1) (upm (upm M 79 1 5) 79 2 2) := mJ_s _ h0
      rw [e]
      exact ih (i + 1) (by omega) (by omega) (by omega) _ rfl
set_option maxRecDepth 100000 in
set_option maxHeartbeats 4000000 in
theorem k_X8_79 (P : List Sh) (hP : P.length = 79) (hc : clo 79 P = true) (M : Mm) (hz : Zr M 79) : CtG yX8_init cX8_init 2 1 15 684 (P ++ S_X8_init_79_0) [rv 79] M (P ++ S_X8_init_79_30) (fun M' => M' = mM M) := by
  refine CtG.of rfl rfl (Nat.le_of_ble_eq_true rfl) (fun v as E G I hRM hret => ?_)
  show Ws v as (P ++ S_X8_init_79_0) 0 0 0 [some (rv 79), none] [] M
  refine s_aload_n E dX8_init_0 rfl ?_
  refine s_objI E dX8_init_1 ml_X8_1 (Nat.le_of_ble_eq_true rfl) (Nat.le_of_ble_eq_true rfl) ?_
  refine s_aload_n E dX8_init_4 rfl ?_
  refine s_bipush E dX8_init_5 rfl ?_
  refine s_newa (n := 80) (wz := 80) (kd := 0) (N := 24) (sh' := (P ++ S_X8_init_79_1)) E G dX8_init_7 (Or.inl rfl) rfl aw_0 rfl (Nat.le_of_ble_eq_true rfl) (gL hP rfl) (gC hc (Nat.le_of_ble_eq_true rfl) (by decide +kernel)) (by decide) (by decide) (fun j => (Zr.mono hz (Nat.le_of_ble_eq_true rfl)) _ j (Int.le_refl _)) (hRM.le (Nat.le_of_ble_eq_true rfl) (Nat.le_of_ble_eq_true rfl)) rfl (gA rfl) (fun q7 => ?_)
  refine s_putR (kf := 0) (sh' := (P ++ S_X8_init_79_2)) E I dX8_init_9 rfl inb_X8 tyX8_ok nmX8 (Nat.le_of_ble_eq_true rfl) ⟨rfl, rfl⟩ fl_X8_7 (rf_nf (Or.inl rfl)) (by decide) (gP (n := 79) (k := 0) hP rfl) rfl (gS (n := 79) (k := 0) hP rfl) ?_
  refine s_aload_n E dX8_init_12 rfl ?_
  refine s_iconst E dX8_init_13 ?_
  refine s_putI (kf := 1) E 1 rfl dX8_init_14 rfl inb_X8 tyX8_ok nmX8 (Nat.le_of_ble_eq_true rfl) ⟨rfl, rfl⟩ fl_X8_13 (by decide) (gP (n := 79) (k := 0) hP rfl) rfl ?_
  refine s_aload_n E dX8_init_17 rfl ?_
  refine s_iconst E dX8_init_18 ?_
  refine s_putI (kf := 2) E 2 rfl dX8_init_19 rfl inb_X8 tyX8_ok nmX8 (Nat.le_of_ble_eq_true rfl) ⟨rfl, rfl⟩ fl_X8_17 (by decide) (gP (n := 79) (k := 0) hP rfl) rfl ?_
  refine s_aload_n E dX8_init_22 rfl ?_
  refine s_bipush E dX8_init_23 rfl ?_
  refine s_newa (n := 81) (wz := 81) (kd := 0) (N := 40) (sh' := (P ++ S_X8_init_79_3)) E G dX8_init_25 (Or.inl rfl) rfl aw_0 rfl (Nat.le_of_ble_eq_true rfl) (gL hP rfl) (gC hc (Nat.le_of_ble_eq_true rfl) (by decide +kernel)) (by decide) (by decide) (fun j => (Zr.mono (Zr.up (Zr.mono (m := 81) (Zr.up (Zr.mono (m := 81) hz (Nat.le_of_ble_eq_true rfl)) (by decide)) (Nat.le_of_ble_eq_true rfl)) (by decide)) (Nat.le_of_ble_eq_true rfl)) _ j (Int.le_refl _)) (hRM.le (Nat.le_of_ble_eq_true rfl) (Nat.le_of_ble_eq_true rfl)) rfl (gA rfl) (fun q25 => ?_)
  refine s_putR (kf := 4) (sh' := (P ++ S_X8_init_79_4)) E I dX8_init_27 rfl inb_X8 tyX8_ok nmX8 (Nat.le_of_ble_eq_true rfl) ⟨rfl, rfl⟩ fl_X8_20 (rf_nf (Or.inl rfl)) (by decide) (gP (n := 79) (k := 0) hP rfl) rfl (gS (n := 79) (k := 0) hP rfl) ?_
  refine s_aload_n E dX8_init_30 rfl ?_
  refine s_bipush E dX8_init_31 rfl ?_
  refine s_newa (n := 82) (wz := 82) (kd := 0) (N := 24) (sh' := (P ++ S_X8_init_79_5)) E G dX8_init_33 (Or.inl rfl) rfl aw_0 rfl (Nat.le_of_ble_eq_true rfl) (gL hP rfl) (gC hc (Nat.le_of_ble_eq_true rfl) (by decide +kernel)) (by decide) (by decide) (fun j => (Zr.mono (Zr.up (Zr.mono (m := 81) (Zr.up (Zr.mono (m := 81) hz (Nat.le_of_ble_eq_true rfl)) (by decide)) (Nat.le_of_ble_eq_true rfl)) (by decide)) (Nat.le_of_ble_eq_true rfl)) _ j (Int.le_refl _)) (hRM.le (Nat.le_of_ble_eq_true rfl) (Nat.le_of_ble_eq_true rfl)) rfl (gA rfl) (fun q33 => ?_)
  refine s_putR (kf := 6) (sh' := (P ++ S_X8_init_79_6)) E I dX8_init_35 rfl inb_X8 tyX8_ok nmX8 (Nat.le_of_ble_eq_true rfl) ⟨rfl, rfl⟩ fl_X8_23 (rf_nf (Or.inl rfl)) (by decide) (gP (n := 79) (k := 0) hP rfl) rfl (gS (n := 79) (k := 0) hP rfl) ?_
  refine s_aload_n E dX8_init_38 rfl ?_
  refine s_bipush E dX8_init_39 rfl ?_
  refine s_newa (n := 83) (wz := 83) (kd := 0) (N := 36) (sh' := (P ++ S_X8_init_79_7)) E G dX8_init_41 (Or.inl rfl) rfl aw_0 rfl (Nat.le_of_ble_eq_true rfl) (gL hP rfl) (gC hc (Nat.le_of_ble_eq_true rfl) (by decide +kernel)) (by decide) (by decide) (fun j => (Zr.mono (Zr.up (Zr.mono (m := 81) (Zr.up (Zr.mono (m := 81) hz (Nat.le_of_ble_eq_true rfl)) (by decide)) (Nat.le_of_ble_eq_true rfl)) (by decide)) (Nat.le_of_ble_eq_true rfl)) _ j (Int.le_refl _)) (hRM.le (Nat.le_of_ble_eq_true rfl) (Nat.le_of_ble_eq_true rfl)) rfl (gA rfl) (fun q41 => ?_)
  refine s_putR (kf := 7) (sh' := (P ++ S_X8_init_79_8)) E I dX8_init_43 rfl inb_X8 tyX8_ok nmX8 (Nat.le_of_ble_eq_true rfl) ⟨rfl, rfl⟩ fl_X8_26 (rf_nf (Or.inl rfl)) (by decide) (gP (n := 79) (k := 0) hP rfl) rfl (gS (n := 79) (k := 0) hP rfl) ?_
  refine s_aload_n E dX8_init_46 rfl ?_
  refine s_bipush E dX8_init_47 rfl ?_
  refine s_newa (n := 84) (wz := 84) (kd := 0) (N := 24) (sh' := (P ++ S_X8_init_79_9)) E G dX8_init_49 (Or.inl rfl) rfl aw_0 rfl (Nat.le_of_ble_eq_true rfl) (gL hP rfl) (gC hc (Nat.le_of_ble_eq_true rfl) (by decide +kernel)) (by decide) (by decide) (fun j => (Zr.mono (Zr.up (Zr.mono (m := 81) (Zr.up (Zr.mono (m := 81) hz (Nat.le_of_ble_eq_true rfl)) (by decide)) (Nat.le_of_ble_eq_true rfl)) (by decide)) (Nat.le_of_ble_eq_true rfl)) _ j (Int.le_refl _)) (hRM.le (Nat.le_of_ble_eq_true rfl) (Nat.le_of_ble_eq_true rfl)) rfl (gA rfl) (fun q49 => ?_)
  refine s_putR (kf := 8) (sh' := (P ++ S_X8_init_79_10)) E I dX8_init_51 rfl inb_X8 tyX8_ok nmX8 (Nat.le_of_ble_eq_true rfl) ⟨rfl, rfl⟩ fl_X8_29 (rf_nf (Or.inl rfl)) (by decide) (gP (n := 79) (k := 0) hP rfl) rfl (gS (n := 79) (k := 0) hP rfl) ?_
  refine s_aload_n E dX8_init_54 rfl ?_
  refine s_bipush E dX8_init_55 rfl ?_
  refine s_newa (n := 85) (wz := 85) (kd := 0) (N := 6) (sh' := (P ++ S_X8_init_79_11)) E G dX8_init_57 (Or.inl rfl) rfl aw_0 rfl (Nat.le_of_ble_eq_true rfl) (gL hP rfl) (gC hc (Nat.le_of_ble_eq_true rfl) (by decide +kernel)) (by decide) (by decide) (fun j => (Zr.mono (Zr.up (Zr.mono (m := 81) (Zr.up (Zr.mono (m := 81) hz (Nat.le_of_ble_eq_true rfl)) (by decide)) (Nat.le_of_ble_eq_true rfl)) (by decide)) (Nat.le_of_ble_eq_true rfl)) _ j (Int.le_refl _)) (hRM.le (Nat.le_of_ble_eq_true rfl) (Nat.le_of_ble_eq_true rfl)) rfl (gA rfl) (fun q57 => ?_)
  refine s_putR (kf := 9) (sh' := (P ++ S_X8_init_79_12)) E I dX8_init_59 rfl inb_X8 tyX8_ok nmX8 (Nat.le_of_ble_eq_true rfl) ⟨rfl, rfl⟩ fl_X8_32 (rf_nf (Or.inl rfl)) (by decide) (gP (n := 79) (k := 0) hP rfl) rfl (gS (n := 79) (k := 0) hP rfl) ?_
  refine s_aload_n E dX8_init_62 rfl ?_
  refine s_bipush E dX8_init_63 rfl ?_
  refine s_newa (n := 86) (wz := 86) (kd := 0) (N := 6) (sh' := (P ++ S_X8_init_79_13)) E G dX8_init_65 (Or.inl rfl) rfl aw_0 rfl (Nat.le_of_ble_eq_true rfl) (gL hP rfl) (gC hc (Nat.le_of_ble_eq_true rfl) (by decide +kernel)) (by decide) (by decide) (fun j => (Zr.mono (Zr.up (Zr.mono (m := 81) (Zr.up (Zr.mono (m := 81) hz (Nat.le_of_ble_eq_true rfl)) (by decide)) (Nat.le_of_ble_eq_true rfl)) (by decide)) (Nat.le_of_ble_eq_true rfl)) _ j (Int.le_refl _)) (hRM.le (Nat.le_of_ble_eq_true rfl) (Nat.le_of_ble_eq_true rfl)) rfl (gA rfl) (fun q65 => ?_)
  refine s_putR (kf := 13) (sh' := (P ++ S_X8_init_79_14)) E I dX8_init_67 rfl inb_X8 tyX8_ok nmX8 (Nat.le_of_ble_eq_true rfl) ⟨rfl, rfl⟩ fl_X8_35 (rf_nf (Or.inl rfl)) (by decide) (gP (n := 79) (k := 0) hP rfl) rfl (gS (n := 79) (k := 0) hP rfl) ?_
  refine s_aload_n E dX8_init_70 rfl ?_
  refine s_sipush E dX8_init_71 rfl ?_
  refine s_newa (n := 87) (wz := 87) (kd := 0) (N := 256) (sh' := (P ++ S_X8_init_79_15)) E G dX8_init_74 (Or.inl rfl) rfl aw_0 rfl (Nat.le_of_ble_eq_true rfl) (gL hP rfl) (gC hc (Nat.le_of_ble_eq_true rfl) (by decide +kernel)) (by decide) (by decide) (fun j => (Zr.mono (Zr.up (Zr.mono (m := 81) (Zr.up (Zr.mono (m := 81) hz (Nat.le_of_ble_eq_true rfl)) (by decide)) (Nat.le_of_ble_eq_true rfl)) (by decide)) (Nat.le_of_ble_eq_true rfl)) _ j (Int.le_refl _)) (hRM.le (Nat.le_of_ble_eq_true rfl) (Nat.le_of_ble_eq_true rfl)) rfl (gA rfl) (fun q74 => ?_)
  refine s_putR (kf := 14) (sh' := (P ++ S_X8_init_79_16)) E I dX8_init_76 rfl inb_X8 tyX8_ok nmX8 (Nat.le_of_ble_eq_true rfl) ⟨rfl, rfl⟩ fl_X8_38 (rf_nf (Or.inl rfl)) (by decide) (gP (n := 79) (k := 0) hP rfl) rfl (gS (n := 79) (k := 0) hP rfl) ?_
  refine s_aload_n E dX8_init_79 rfl ?_
  refine s_iconst E dX8_init_80 ?_
  refine s_newa (n := 88) (wz := 88) (kd := 0) (N := 4) (sh' := (P ++ S_X8_init_79_17)) E G dX8_init_81 (Or.inl rfl) rfl aw_0 rfl (Nat.le_of_ble_eq_true rfl) (gL hP rfl) (gC hc (Nat.le_of_ble_eq_true rfl) (by decide +kernel)) (by decide) (by decide) (fun j => (Zr.mono (Zr.up (Zr.mono (m := 81) (Zr.up (Zr.mono (m := 81) hz (Nat.le_of_ble_eq_true rfl)) (by decide)) (Nat.le_of_ble_eq_true rfl)) (by decide)) (Nat.le_of_ble_eq_true rfl)) _ j (Int.le_refl _)) (hRM.le (Nat.le_of_ble_eq_true rfl) (Nat.le_of_ble_eq_true rfl)) rfl (gA rfl) (fun q81 => ?_)
  refine s_putR (kf := 15) (sh' := (P ++ S_X8_init_79_18)) E I dX8_init_83 rfl inb_X8 tyX8_ok nmX8 (Nat.le_of_ble_eq_true rfl) ⟨rfl, rfl⟩ fl_X8_41 (rf_nf (Or.inl rfl)) (by decide) (gP (n := 79) (k := 0) hP rfl) rfl (gS (n := 79) (k := 0) hP rfl) ?_
  refine s_aload_n E dX8_init_86 rfl ?_
  refine s_iconst E dX8_init_87 ?_
  refine s_newa (n := 89) (wz := 89) (kd := 0) (N := 4) (sh' := (P ++ S_X8_init_79_19)) E G dX8_init_88 (Or.inl rfl) rfl aw_0 rfl (Nat.le_of_ble_eq_true rfl) (gL hP rfl) (gC hc (Nat.le_of_ble_eq_true rfl) (by decide +kernel)) (by decide) (by decide) (fun j => (Zr.mono (Zr.up (Zr.mono (m := 81) (Zr.up (Zr.mono (m := 81) hz (Nat.le_of_ble_eq_true rfl)) (by decide)) (Nat.le_of_ble_eq_true rfl)) (by decide)) (Nat.le_of_ble_eq_true rfl)) _ j (Int.le_refl _)) (hRM.le (Nat.le_of_ble_eq_true rfl) (Nat.le_of_ble_eq_true rfl)) rfl (gA rfl) (fun q88 => ?_)
  refine s_putR (kf := 16) (sh' := (P ++ S_X8_init_79_20)) E I dX8_init_90 rfl inb_X8 tyX8_ok nmX8 (Nat.le_of_ble_eq_true rfl) ⟨rfl, rfl⟩ fl_X8_44 (rf_nf (Or.inl rfl)) (by decide) (gP (n := 79) (k := 0) hP rfl) rfl (gS (n := 79) (k := 0) hP rfl) ?_
  refine s_aload_n E dX8_init_93 rfl ?_
  refine s_bipush E dX8_init_94 rfl ?_
  refine s_newa (n := 90) (wz := 90) (kd := 0) (N := 64) (sh' := (P ++ S_X8_init_79_21)) E G dX8_init_96 (Or.inl rfl) rfl aw_0 rfl (Nat.le_of_ble_eq_true rfl) (gL hP rfl) (gC hc (Nat.le_of_ble_eq_true rfl) (by decide +kernel)) (by decide) (by decide) (fun j => (Zr.mono (Zr.up (Zr.mono (m := 81) (Zr.up (Zr.mono (m := 81) hz (Nat.le_of_ble_eq_true rfl)) (by decide)) (Nat.le_of_ble_eq_true rfl)) (by decide)) (Nat.le_of_ble_eq_true rfl)) _ j (Int.le_refl _)) (hRM.le (Nat.le_of_ble_eq_true rfl) (Nat.le_of_ble_eq_true rfl)) rfl (gA rfl) (fun q96 => ?_)
  refine s_putR (kf := 17) (sh' := (P ++ S_X8_init_79_22)) E I dX8_init_98 rfl inb_X8 tyX8_ok nmX8 (Nat.le_of_ble_eq_true rfl) ⟨rfl, rfl⟩ fl_X8_47 (rf_nf (Or.inl rfl)) (by decide) (gP (n := 79) (k := 0) hP rfl) rfl (gS (n := 79) (k := 0) hP rfl) ?_
  refine s_aload_n E dX8_init_101 rfl ?_
  refine s_bipush E dX8_init_102 rfl ?_
  refine s_newa (n := 91) (wz := 91) (kd := 0) (N := 12) (sh' := (P ++ S_X8_init_79_23)) E G dX8_init_104 (Or.inl rfl) rfl aw_0 rfl (Nat.le_of_ble_eq_true rfl) (gL hP rfl) (gC hc (Nat.le_of_ble_eq_true rfl) (by decide +kernel)) (by decide) (by decide) (fun j => (Zr.mono (Zr.up (Zr.mono (m := 81) (Zr.up (Zr.mono (m := 81) hz (Nat.le_of_ble_eq_true rfl)) (by decide)) (Nat.le_of_ble_eq_true rfl)) (by decide)) (Nat.le_of_ble_eq_true rfl)) _ j (Int.le_refl _)) (hRM.le (Nat.le_of_ble_eq_true rfl) (Nat.le_of_ble_eq_true rfl)) rfl (gA rfl) (fun q104 => ?_)
  refine s_putR (kf := 18) (sh' := (P ++ S_X8_init_79_24)) E I dX8_init_106 rfl inb_X8 tyX8_ok nmX8 (Nat.le_of_ble_eq_true rfl) ⟨rfl, rfl⟩ fl_X8_50 (rf_nf (Or.inl rfl)) (by decide) (gP (n := 79) (k := 0) hP rfl) rfl (gS (n := 79) (k := 0) hP rfl) ?_
  refine s_aload_n E dX8_init_109 rfl ?_
  refine s_bipush E dX8_init_110 rfl ?_
  refine s_newa (n := 92) (wz := 92) (kd := 0) (N := 6) (sh' := (P ++ S_X8_init_79_25)) E G dX8_init_112 (Or.inl rfl) rfl aw_0 rfl (Nat.le_of_ble_eq_true rfl) (gL hP rfl) (gC hc (Nat.le_of_ble_eq_true rfl) (by decide +kernel)) (by decide) (by decide) (fun j => (Zr.mono (Zr.up (Zr.mono (m := 81) (Zr.up (Zr.mono (m := 81) hz (Nat.le_of_ble_eq_true rfl)) (by decide)) (Nat.le_of_ble_eq_true rfl)) (by decide)) (Nat.le_of_ble_eq_true rfl)) _ j (Int.le_refl _)) (hRM.le (Nat.le_of_ble_eq_true rfl) (Nat.le_of_ble_eq_true rfl)) rfl (gA rfl) (fun q112 => ?_)
  refine s_putR (kf := 19) (sh' := (P ++ S_X8_init_79_26)) E I dX8_init_114 rfl inb_X8 tyX8_ok nmX8 (Nat.le_of_ble_eq_true rfl) ⟨rfl, rfl⟩ fl_X8_53 (rf_nf (Or.inl rfl)) (by decide) (gP (n := 79) (k := 0) hP rfl) rfl (gS (n := 79) (k := 0) hP rfl) ?_
  refine s_aload_n E dX8_init_117 rfl ?_
  refine s_sipush E dX8_init_118 rfl ?_
  refine s_newa (n := 93) (wz := 93) (kd := 0) (N := 176) (sh' := (P ++ S_X8_init_79_27)) E G dX8_init_121 (Or.inl rfl) rfl aw_0 rfl (Nat.le_of_ble_eq_true rfl) (gL hP rfl) (gC hc (Nat.le_of_ble_eq_true rfl) (by decide +kernel)) (by decide) (by decide) (fun j => (Zr.mono (Zr.up (Zr.mono (m := 81) (Zr.up (Zr.mono (m := 81) hz (Nat.le_of_ble_eq_true rfl)) (by decide)) (Nat.le_of_ble_eq_true rfl)) (by decide)) (Nat.le_of_ble_eq_true rfl)) _ j (Int.le_refl _)) (hRM.le (Nat.le_of_ble_eq_true rfl) (Nat.le_of_ble_eq_true rfl)) rfl (gA rfl) (fun q121 => ?_)
  refine s_putR (kf := 20) (sh' := (P ++ S_X8_init_79_28)) E I dX8_init_123 rfl inb_X8 tyX8_ok nmX8 (Nat.le_of_ble_eq_true rfl) ⟨rfl, rfl⟩ fl_X8_56 (rf_nf (Or.inl rfl)) (by decide) (gP (n := 79) (k := 0) hP rfl) rfl (gS (n := 79) (k := 0) hP rfl) ?_
  refine s_aload_n E dX8_init_126 rfl ?_
  refine s_iconst E dX8_init_127 ?_
  refine s_newa (n := 94) (wz := 94) (kd := 1) (N := 2) (sh' := (P ++ S_X8_init_79_29)) E G dX8_init_128 (Or.inr rfl) rfl aw_1 rfl (Nat.le_of_ble_eq_true rfl) (gL hP rfl) (gC hc (Nat.le_of_ble_eq_true rfl) (by decide +kernel)) (by decide) (by decide) (fun j => (Zr.mono (Zr.up (Zr.mono (m := 81) (Zr.up (Zr.mono (m := 81) hz (Nat.le_of_ble_eq_true rfl)) (by decide)) (Nat.le_of_ble_eq_true rfl)) (by decide)) (Nat.le_of_ble_eq_true rfl)) _ j (Int.le_refl _)) (hRM.le (Nat.le_of_ble_eq_true rfl) (Nat.le_of_ble_eq_true rfl)) rfl (gA rfl) (fun q128 => ?_)
  refine s_putR (kf := 21) (sh' := (P ++ S_X8_init_79_30)) E I dX8_init_130 rfl inb_X8 tyX8_ok nmX8 (Nat.le_of_ble_eq_true rfl) ⟨rfl, rfl⟩ fl_X8_59 (rf_nf (Or.inr (Or.inl rfl))) (by decide) (gP (n := 79) (k := 0) hP rfl) rfl (gS (n := 79) (k := 0) hP rfl) ?_
  refine s_iconst E dX8_init_133 ?_
  refine s_istore_n (ls' := [_, _]) E dX8_init_134 (Nat.le_of_ble_eq_true rfl) rfl ?_
  exact lpM P hP hc M hz v _ E (fun pc ls hd => hret _ _ (by repeat (first | exact ex0 | refine exa ?_)) rfl pc ls hd) 7 0 (by decide) (by decide) (by decide) _ (mJ_0 _)
