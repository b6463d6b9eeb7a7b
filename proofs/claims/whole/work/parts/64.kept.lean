/-! ===== the constructor of Kept, three times ===== -/
def kJ (a1 a2 i : Int) (M : Mm) : Mm := fun k j => if (k = a1 ∨ k = a2) ∧ 0 ≤ j ∧ j < i then 1 else M k j
theorem kJ_0 (a1 a2 : Int) (M : Mm) : M = kJ a1 a2 0 M := by
  funext k j
  unfold kJ
  rw [if_neg (by omega)]
theorem kJ_s {a1 a2 i : Int} (M : Mm) (hi : 0 ≤ i) : upm (upm (kJ a1 a2 i M) a1 i 1) a2 i 1 = kJ a1 a2 (i + 1) M := by
  funext k j
  unfold upm
  by_cases h1 : k = a2 ∧ j = i
  · rw [if_pos h1]
    unfold kJ
    rw [if_pos (by omega)]
  · rw [if_neg h1]
    by_cases h2 : k = a1 ∧ j = i
    · rw [if_pos h2]
      unfold kJ
      rw [if_pos (by omega)]
    · rw [if_neg h2]
      unfold kJ
      by_cases h3 : (k = a1 ∨ k = a2) ∧ 0 ≤ j ∧ j < i
      · rw [if_pos h3, if_pos (by omega)]
      · rw [if_neg h3, if_neg (by omega)]
def kM (b : Int) (M : Mm) : Mm := kJ (b + 3) (b + 4) 6 (upm (upm M b 3 5) b 4 2)
theorem kM_z {M : Mm} {n : Nat} {b : Int} (h : Zr M n) (hb : b + 4 < (n : Int)) : Zr (kM b M) n := fun k j hk => by
  unfold kM kJ
  rw [if_neg (by omega)]
  exact Zr.up (Zr.up h (by omega)) (by omega) k j hk
def S_X2_init_1_0 : List Sh := [.inl (2, [some none, some none, some none, none, none])]
def S_X2_init_1_1 : List Sh := [.inl (2, [some none, some none, some none, none, none]), .inr (2, 4, esr 3 4), .inr (0, 6, []), .inr (0, 6, []), .inr (0, 6, []), .inr (0, 6, [])]
def S_X2_init_1_2 : List Sh := [.inl (2, [some (some 2), some none, some none, none, none]), .inr (2, 4, esr 3 4), .inr (0, 6, []), .inr (0, 6, []), .inr (0, 6, []), .inr (0, 6, [])]
def S_X2_init_1_3 : List Sh := [.inl (2, [some (some 2), some none, some none, none, none]), .inr (2, 4, esr 3 4), .inr (0, 6, []), .inr (0, 6, []), .inr (0, 6, []), .inr (0, 6, []), .inr (2, 6, esr 8 6), .inr (0, 6, []), .inr (0, 6, []), .inr (0, 6, []), .inr (0, 6, []), .inr (0, 6, []), .inr (0, 6, [])]
def S_X2_init_1_4 : List Sh := [.inl (2, [some (some 2), some (some 7), some none, none, none]), .inr (2, 4, esr 3 4), .inr (0, 6, []), .inr (0, 6, []), .inr (0, 6, []), .inr (0, 6, []), .inr (2, 6, esr 8 6), .inr (0, 6, []), .inr (0, 6, []), .inr (0, 6, []), .inr (0, 6, []), .inr (0, 6, []), .inr (0, 6, [])]
def S_X2_init_1_5 : List Sh := [.inl (2, [some (some 2), some (some 7), some none, none, none]), .inr (2, 4, esr 3 4), .inr (0, 6, []), .inr (0, 6, []), .inr (0, 6, []), .inr (0, 6, []), .inr (2, 6, esr 8 6), .inr (0, 6, []), .inr (0, 6, []), .inr (0, 6, []), .inr (0, 6, []), .inr (0, 6, []), .inr (0, 6, []), .inl (4, [some none, some none, some none, none])]
def S_X2_init_1_6p : List Sh := [.inl (2, [some (some 2), some (some 7), some none, none, none]), .inr (2, 4, esr 3 4), .inr (0, 6, []), .inr (0, 6, []), .inr (0, 6, []), .inr (0, 6, []), .inr (2, 6, esr 8 6), .inr (0, 6, []), .inr (0, 6, []), .inr (0, 6, []), .inr (0, 6, []), .inr (0, 6, []), .inr (0, 6, [])]
def S_X2_init_1_7 : List Sh := [.inl (2, [some (some 2), some (some 7), some none, none, none]), .inr (2, 4, esr 3 4), .inr (0, 6, []), .inr (0, 6, []), .inr (0, 6, []), .inr (0, 6, []), .inr (2, 6, esr 8 6), .inr (0, 6, []), .inr (0, 6, []), .inr (0, 6, []), .inr (0, 6, []), .inr (0, 6, []), .inr (0, 6, []), .inl (4, [some (some 15), some (some 16), some (some 17), none]), .inr (0, 8, []), .inr (0, 8, []), .inr (0, 8, [])]
def S_X2_init_1_8 : List Sh := [.inl (2, [some (some 2), some (some 7), some (some 14), none, none]), .inr (2, 4, esr 3 4), .inr (0, 6, []), .inr (0, 6, []), .inr (0, 6, []), .inr (0, 6, []), .inr (2, 6, esr 8 6), .inr (0, 6, []), .inr (0, 6, []), .inr (0, 6, []), .inr (0, 6, []), .inr (0, 6, []), .inr (0, 6, []), .inl (4, [some (some 15), some (some 16), some (some 17), none]), .inr (0, 8, []), .inr (0, 8, []), .inr (0, 8, [])]
def S_X2_init_45_0 : List Sh := [.inl (2, [some none, some none, some none, none, none])]
def S_X2_init_45_1 : List Sh := [.inl (2, [some none, some none, some none, none, none]), .inr (2, 4, esr 47 4), .inr (0, 6, []), .inr (0, 6, []), .inr (0, 6, []), .inr (0, 6, [])]
def S_X2_init_45_2 : List Sh := [.inl (2, [some (some 46), some none, some none, none, none]), .inr (2, 4, esr 47 4), .inr (0, 6, []), .inr (0, 6, []), .inr (0, 6, []), .inr (0, 6, [])]
def S_X2_init_45_3 : List Sh := [.inl (2, [some (some 46), some none, some none, none, none]), .inr (2, 4, esr 47 4), .inr (0, 6, []), .inr (0, 6, []), .inr (0, 6, []), .inr (0, 6, []), .inr (2, 6, esr 52 6), .inr (0, 6, []), .inr (0, 6, []), .inr (0, 6, []), .inr (0, 6, []), .inr (0, 6, []), .inr (0, 6, [])]
def S_X2_init_45_4 : List Sh := [.inl (2, [some (some 46), some (some 51), some none, none, none]), .inr (2, 4, esr 47 4), .inr (0, 6, []), .inr (0, 6, []), .inr (0, 6, []), .inr (0, 6, []), .inr (2, 6, esr 52 6), .inr (0, 6, []), .inr (0, 6, []), .inr (0, 6, []), .inr (0, 6, []), .inr (0, 6, []), .inr (0, 6, [])]
def S_X2_init_45_5 : List Sh := [.inl (2, [some (some 46), some (some 51), some none, none, none]), .inr (2, 4, esr 47 4), .inr (0, 6, []), .inr (0, 6, []), .inr (0, 6, []), .inr (0, 6, []), .inr (2, 6, esr 52 6), .inr (0, 6, []), .inr (0, 6, []), .inr (0, 6, []), .inr (0, 6, []), .inr (0, 6, []), .inr (0, 6, []), .inl (4, [some none, some none, some none, none])]
def S_X2_init_45_6p : List Sh := [.inl (2, [some (some 46), some (some 51), some none, none, none]), .inr (2, 4, esr 47 4), .inr (0, 6, []), .inr (0, 6, []), .inr (0, 6, []), .inr (0, 6, []), .inr (2, 6, esr 52 6), .inr (0, 6, []), .inr (0, 6, []), .inr (0, 6, []), .inr (0, 6, []), .inr (0, 6, []), .inr (0, 6, [])]
def S_X2_init_45_7 : List Sh := [.inl (2, [some (some 46), some (some 51), some none, none, none]), .inr (2, 4, esr 47 4), .inr (0, 6, []), .inr (0, 6, []), .inr (0, 6, []), .inr (0, 6, []), .inr (2, 6, esr 52 6), .inr (0, 6, []), .inr (0, 6, []), .inr (0, 6, []), .inr (0, 6, []), .inr (0, 6, []), .inr (0, 6, []), .inl (4, [some (some 59), some (some 60), some (some 61), none]), .inr (0, 8, []), .inr (0, 8, []), .inr (0, 8, [])]
def S_X2_init_45_8 : List Sh := [.inl (2, [some (some 46), some (some 51), some (some 58), none, none]), .inr (2, 4, esr 47 4), .inr (0, 6, []), .inr (0, 6, []), .inr (0, 6, []), .inr (0, 6, []), .inr (2, 6, esr 52 6), .inr (0, 6, []), .inr (0, 6, []), .inr (0, 6, []), .inr (0, 6, []), .inr (0, 6, []), .inr (0, 6, []), .inl (4, [some (some 59), some (some 60), some (some 61), none]), .inr (0, 8, []), .inr (0, 8, []), .inr (0, 8, [])]
def S_X2_init_62_0 : List Sh := [.inl (2, [some none, some none, some none, none, none])]
def S_X2_init_62_1 : List Sh := [.inl (2, [some none, some none, some none, none, none]), .inr (2, 4, esr 64 4), .inr (0, 6, []), .inr (0, 6, []), .inr (0, 6, []), .inr (0, 6, [])]
def S_X2_init_62_2 : List Sh := [.inl (2, [some (some 63), some none, some none, none, none]), .inr (2, 4, esr 64 4), .inr (0, 6, []), .inr (0, 6, []), .inr (0, 6, []), .inr (0, 6, [])]
def S_X2_init_62_3 : List Sh := [.inl (2, [some (some 63), some none, some none, none, none]), .inr (2, 4, esr 64 4), .inr (0, 6, []), .inr (0, 6, []), .inr (0, 6, []), .inr (0, 6, []), .inr (2, 6, esr 69 6), .inr (0, 6, []), .inr (0, 6, []), .inr (0, 6, []), .inr (0, 6, []), .inr (0, 6, []), .inr (0, 6, [])]
def S_X2_init_62_4 : List Sh := [.inl (2, [some (some 63), some (some 68), some none, none, none]), .inr (2, 4, esr 64 4), .inr (0, 6, []), .inr (0, 6, []), .inr (0, 6, []), .inr (0, 6, []), .inr (2, 6, esr 69 6), .inr (0, 6, []), .inr (0, 6, []), .inr (0, 6, []), .inr (0, 6, []), .inr (0, 6, []), .inr (0, 6, [])]
def S_X2_init_62_5 : List Sh := [.inl (2, [some (some 63), some (some 68), some none, none, none]), .inr (2, 4, esr 64 4), .inr (0, 6, []), .inr (0, 6, []), .inr (0, 6, []), .inr (0, 6, []), .inr (2, 6, esr 69 6), .inr (0, 6, []), .inr (0, 6, []), .inr (0, 6, []), .inr (0, 6, []), .inr (0, 6, []), .inr (0, 6, []), .inl (4, [some none, some none, some none, none])]
def S_X2_init_62_6p : List Sh := [.inl (2, [some (some 63), some (some 68), some none, none, none]), .inr (2, 4, esr 64 4), .inr (0, 6, []), .inr (0, 6, []), .inr (0, 6, []), .inr (0, 6, []), .inr (2, 6, esr 69 6), .inr (0, 6, []), .inr (0, 6, []), .inr (0, 6, []), .inr (0, 6, []), .inr (0, 6, []), .inr (0, 6, [])]
def S_X2_init_62_7 : List Sh := [.inl (2, [some (some 63), some (some 68), some none, none, none]), .inr (2, 4, esr 64 4), .inr (0, 6, []), .inr (0, 6, []), .inr (0, 6, []), .inr (0, 6, []), .inr (2, 6, esr 69 6), .inr (0, 6, []), .inr (0, 6, []), .inr (0, 6, []), .inr (0, 6, []), .inr (0, 6, []), .inr (0, 6, []), .inl (4, [some (some 76), some (some 77), some (some 78), none]), .inr (0, 8, []), .inr (0, 8, []), .inr (0, 8, [])]
def S_X2_init_62_8 : List Sh := [.inl (2, [some (some 63), some (some 68), some (some 75), none, none]), .inr (2, 4, esr 64 4), .inr (0, 6, []), .inr (0, 6, []), .inr (0, 6, []), .inr (0, 6, []), .inr (2, 6, esr 69 6), .inr (0, 6, []), .inr (0, 6, []), .inr (0, 6, []), .inr (0, 6, []), .inr (0, 6, []), .inr (0, 6, []), .inl (4, [some (some 76), some (some 77), some (some 78), none]), .inr (0, 8, []), .inr (0, 8, []), .inr (0, 8, [])]

set_option maxRecDepth 100000 in
set_option maxHeartbeats 4000000 in
theorem lpK_1 (P : List Sh) (hP : P.length = 1) (hc : clo 1 P = true) (M : Mm) (hz : Zr M 1) (v : Ev) (as : List Nat) (E : Cx v cX2_init 2 yX2_init.cls 2) (mm : Unit) (hend : ∀ pc ls, decode cX2_init pc = .ok (.return_, 1) → Ws v as (P ++ S_X2_init_1_8) 16 98 pc ls [] (kM 1 M)) : ∀ (N : Nat) (i : Int), (6 - i).toNat < N → 0 ≤ i → i ≤ 6 → ∀ M1, M1 = kJ 4 5 i (upm (upm M 1 3 5) 1 4 2) → Ws v as (P ++ S_X2_init_1_8) 16 98 50 [some (rv 1), some (iv i)] [] M1 := by
  intro N
  induction N with
  | zero =>
    intro i hN
    exact absurd hN (Nat.not_lt_zero _)
  | succ N ih =>
    intro i hN h0 h6 M1 hM1
    subst hM1
    refine s_iload_n E dX2_init_50 rfl ?_
    refine s_bipush E dX2_init_51 rfl ?_
    refine s_icmp_ge E 80 dX2_init_53 (by decide) (by omega) (by omega) (fun h53 => ?_) (fun h53 => ?_)
    · have e : i = 6 := by omega
      subst e
      exact hend _ _ dX2_init_80
    · refine s_aload_n E dX2_init_56 rfl ?_
      refine s_getR (kf := 0) E dX2_init_57 rfl inb_X2 (Nat.le_of_ble_eq_true rfl) fl_X2_11 (by decide) (gP (n := 1) (k := 0) hP rfl) rfl ?_
      refine s_iconst E dX2_init_60 ?_
      refine s_aald (kd := 0) (r := 4) E dX2_init_61 (by decide) (gP (n := 1) (k := 1) hP rfl) (Nat.le_of_ble_eq_true rfl) (by decide) rfl ?_
      refine s_iload_n E dX2_init_62 rfl ?_
      refine s_iconst E dX2_init_63 ?_
      refine s_iast E dX2_init_64 (by decide) (gP (n := 1) (k := 3) hP rfl) (Nat.le_of_ble_eq_true rfl) (by omega) ?_
      refine s_aload_n E dX2_init_65 rfl ?_
      refine s_getR (kf := 0) E dX2_init_66 rfl inb_X2 (Nat.le_of_ble_eq_true rfl) fl_X2_11 (by decide) (gP (n := 1) (k := 0) hP rfl) rfl ?_
      refine s_iconst E dX2_init_69 ?_
      refine s_aald (kd := 0) (r := 5) E dX2_init_70 (by decide) (gP (n := 1) (k := 1) hP rfl) (Nat.le_of_ble_eq_true rfl) (by decide) rfl ?_
      refine s_iload_n E dX2_init_71 rfl ?_
      refine s_iconst E dX2_init_72 ?_
      refine s_iast E dX2_init_73 (by decide) (gP (n := 1) (k := 4) hP rfl) (Nat.le_of_ble_eq_true rfl) (by omega) ?_
      refine s_iinc (ls' := [_, _]) E dX2_init_74 rfl rfl ?_
      refine s_goto E 50 dX2_init_77 (by decide) ?_
      have e : upm (upm (kJ 4 5 i (upm (upm M 1 3 5) 1 4 2)) 4 i 1) 5 i 1 = kJ 4 5 (i + 1) (upm (upm M 1 3 5) 1 4 2) := kJ_s _ h0
      rw [e]
      exact ih (i + 1) (by omega) (by omega) (by omega) _ rfl

set_option maxRecDepth 100000 in
set_option maxHeartbeats 4000000 in
theorem k_X2_1 (P : List Sh) (hP : P.length = 1) (hc : clo 1 P = true) (M : Mm) (hz : Zr M 1) : CtG yX2_init cX2_init 2 2 16 98 (P ++ S_X2_init_1_0) [rv 1] M (P ++ S_X2_init_1_8) (fun M' => M' = kM 1 M) := by
  refine CtG.of rfl rfl (Nat.le_of_ble_eq_true rfl) (fun v as E G I hRM hret => ?_)
  show Ws v as (P ++ S_X2_init_1_0) 0 0 0 [some (rv 1), none] [] M
  refine s_aload_n E dX2_init_0 rfl ?_
  refine s_objI E dX2_init_1 ml_X2_3 (Nat.le_of_ble_eq_true rfl) (Nat.le_of_ble_eq_true rfl) ?_
  refine s_aload_n E dX2_init_4 rfl ?_
  refine s_iconst E dX2_init_5 ?_
  refine s_bipush E dX2_init_6 rfl ?_
  refine s_mna (n := 2) (wz := 2) (N := 4) (K := 6) (r0 := 3) (sh' := (P ++ S_X2_init_1_1)) E G dX2_init_8 cl_X2_9 aw_0 rfl rfl (Nat.le_of_ble_eq_true rfl) (Nat.le_of_ble_eq_true rfl) (gL hP rfl) (gC hc (Nat.le_of_ble_eq_true rfl) (by decide +kernel)) (by decide) (by decide) (fun i j h => (Zr.mono hz (Nat.le_of_ble_eq_true rfl)) i j (Int.le_of_lt h)) rfl (hRM.le (Nat.le_of_ble_eq_true rfl) (Nat.le_of_ble_eq_true rfl)) rfl (gA rfl) (fun q8 => ?_)
  refine s_putR (kf := 0) (sh' := (P ++ S_X2_init_1_2)) E I dX2_init_12 rfl inb_X2 tyX2_ok nmX2 (Nat.le_of_ble_eq_true rfl) ⟨rfl, rfl⟩ fl_X2_11 (rf_nf (Or.inr (Or.inr (Or.inl rfl)))) (by decide) (gP (n := 1) (k := 0) hP rfl) rfl (gS (n := 1) (k := 0) hP rfl) ?_
  refine s_aload_n E dX2_init_15 rfl ?_
  refine s_bipush E dX2_init_16 rfl ?_
  refine s_bipush E dX2_init_18 rfl ?_
  refine s_mna (n := 7) (wz := 7) (N := 6) (K := 6) (r0 := 8) (sh' := (P ++ S_X2_init_1_3)) E G dX2_init_20 cl_X2_9 aw_0 rfl rfl (Nat.le_of_ble_eq_true rfl) (Nat.le_of_ble_eq_true rfl) (gL hP rfl) (gC hc (Nat.le_of_ble_eq_true rfl) (by decide +kernel)) (by decide) (by decide) (fun i j h => (Zr.mono hz (Nat.le_of_ble_eq_true rfl)) i j (Int.le_of_lt h)) rfl (hRM.le (Nat.le_of_ble_eq_true rfl) (Nat.le_of_ble_eq_true rfl)) rfl (gA rfl) (fun q20 => ?_)
  refine s_putR (kf := 1) (sh' := (P ++ S_X2_init_1_4)) E I dX2_init_24 rfl inb_X2 tyX2_ok nmX2 (Nat.le_of_ble_eq_true rfl) ⟨rfl, rfl⟩ fl_X2_16 (rf_nf (Or.inr (Or.inr (Or.inl rfl)))) (by decide) (gP (n := 1) (k := 0) hP rfl) rfl (gS (n := 1) (k := 0) hP rfl) ?_
  refine s_aload_n E dX2_init_27 rfl ?_
  refine s_new (n := 14) (wz := 14) (ci := 4) (fs := [some none, some none, some none, none]) (sh' := (P ++ S_X2_init_1_5)) E dX2_init_28 rfl inb_X4 tyX4_ok cn_X2_19 (gL hP rfl) (gC hc (Nat.le_of_ble_eq_true rfl) (by decide +kernel)) (by decide) (by decide) (fun j => (Zr.mono hz (Nat.le_of_ble_eq_true rfl)) _ j (Int.le_refl _)) rfl rfl (hRM.le (Nat.le_of_ble_eq_true rfl) (Nat.le_of_ble_eq_true rfl)) rfl (gA rfl) (fun q28 => ?_)
  refine s_dup E dX2_init_31 ?_
  have hC32_14 := k_X4_14 (P ++ S_X2_init_1_6p) (gL hP rfl) (gC hc (Nat.le_of_ble_eq_true rfl) (by decide +kernel)) _ (Zr.mono (m := 14) hz (Nat.le_of_ble_eq_true rfl))
  rw [show (P ++ S_X2_init_1_6p) ++ S_X4_init_14_0 = P ++ S_X2_init_1_5 from gA rfl, show (P ++ S_X2_init_1_6p) ++ S_X4_init_14_6 = P ++ S_X2_init_1_7 from gA rfl] at hC32_14
  refine s_callGN E G hC32_14 dX2_init_32 mi_X4 ml_X2_21 (gL hP rfl) (by decide) (by decide) (Nat.le_of_ble_eq_true rfl) (Nat.le_of_ble_eq_true rfl) (hRM.le (Nat.le_of_ble_eq_true rfl) (Nat.le_of_ble_eq_true rfl)) rfl (fun t32_14 M32_14 h32_14 => ?_)
  subst M32_14
  refine s_putR (kf := 2) (sh' := (P ++ S_X2_init_1_8)) E I dX2_init_35 rfl inb_X2 tyX2_ok nmX2 (Nat.le_of_ble_eq_true rfl) ⟨rfl, rfl⟩ fl_X2_22 (rf_nf (Or.inr (Or.inr (Or.inr (Or.inr ⟨_, rfl⟩))))) (by decide) (gP (n := 1) (k := 0) hP rfl) rfl (gS (n := 1) (k := 0) hP rfl) ?_
  refine s_aload_n E dX2_init_38 rfl ?_
  refine s_iconst E dX2_init_39 ?_
  refine s_putI (kf := 3) E 3 rfl dX2_init_40 rfl inb_X2 tyX2_ok nmX2 (Nat.le_of_ble_eq_true rfl) ⟨rfl, rfl⟩ fl_X2_26 (by decide) (gP (n := 1) (k := 0) hP rfl) rfl ?_
  refine s_aload_n E dX2_init_43 rfl ?_
  refine s_iconst E dX2_init_44 ?_
  refine s_putI (kf := 4) E 4 rfl dX2_init_45 rfl inb_X2 tyX2_ok nmX2 (Nat.le_of_ble_eq_true rfl) ⟨rfl, rfl⟩ fl_X2_30 (by decide) (gP (n := 1) (k := 0) hP rfl) rfl ?_
  refine s_iconst E dX2_init_48 ?_
  refine s_istore_n (ls' := [_, _]) E dX2_init_49 (Nat.le_of_ble_eq_true rfl) rfl ?_
  exact lpK_1 P hP hc M hz v _ E () (fun pc ls hd => hret _ _ (by repeat (first | exact ex0 | refine exa ?_)) rfl pc ls hd) 7 0 (by decide) (by decide) (by decide) _ (kJ_0 _ _ _)


set_option maxRecDepth 100000 in
set_option maxHeartbeats 4000000 in
theorem lpK_45 (P : List Sh) (hP : P.length = 45) (hc : clo 45 P = true) (M : Mm) (hz : Zr M 45) (v : Ev) (as : List Nat) (E : Cx v cX2_init 2 yX2_init.cls 2) (mm : Unit) (hend : ∀ pc ls, decode cX2_init pc = .ok (.return_, 1) → Ws v as (P ++ S_X2_init_45_8) 16 98 pc ls [] (kM 45 M)) : ∀ (N : Nat) (i : Int), (6 - i).toNat < N → 0 ≤ i → i ≤ 6 → ∀ M1, M1 = kJ 48 49 i (upm (upm M 45 3 5) 45 4 2) → Ws v as (P ++ S_X2_init_45_8) 16 98 50 [some (rv 45), some (iv i)] [] M1 := by
  intro N
  induction N with
  | zero =>
    intro i hN
    exact absurd hN (Nat.not_lt_zero _)
  | succ N ih =>
    intro i hN h0 h6 M1 hM1
    subst hM1
    refine s_iload_n E dX2_init_50 rfl ?_
    refine s_bipush E dX2_init_51 rfl ?_
    refine s_icmp_ge E 80 dX2_init_53 (by decide) (by omega) (by omega) (fun h53 => ?_) (fun h53 => ?_)
    · have e : i = 6 := by omega
      subst e
      exact hend _ _ dX2_init_80
    · refine s_aload_n E dX2_init_56 rfl ?_
      refine s_getR (kf := 0) E dX2_init_57 rfl inb_X2 (Nat.le_of_ble_eq_true rfl) fl_X2_11 (by decide) (gP (n := 45) (k := 0) hP rfl) rfl ?_
      refine s_iconst E dX2_init_60 ?_
      refine s_aald (kd := 0) (r := 48) E dX2_init_61 (by decide) (gP (n := 45) (k := 1) hP rfl) (Nat.le_of_ble_eq_true rfl) (by decide) rfl ?_
      refine s_iload_n E dX2_init_62 rfl ?_
      refine s_iconst E dX2_init_63 ?_
      refine s_iast E dX2_init_64 (by decide) (gP (n := 45) (k := 3) hP rfl) (Nat.le_of_ble_eq_true rfl) (by omega) ?_
      refine s_aload_n E dX2_init_65 rfl ?_
      refine s_getR (kf := 0) E dX2_init_66 rfl inb_X2 (Nat.le_of_ble_eq_true rfl) fl_X2_11 (by decide) (gP (n := 45) (k := 0) hP rfl) rfl ?_
      refine s_iconst E dX2_init_69 ?_
      refine s_aald (kd := 0) (r := 49) E dX2_init_70 (by decide) (gP (n := 45) (k := 1) hP rfl) (Nat.le_of_ble_eq_true rfl) (by decide) rfl ?_
      refine s_iload_n E dX2_init_71 rfl ?_
      refine s_iconst E dX2_init_72 ?_
      refine s_iast E dX2_init_73 (by decide) (gP (n := 45) (k := 4) hP rfl) (Nat.le_of_ble_eq_true rfl) (by omega) ?_
      refine s_iinc (ls' := [_, _]) E dX2_init_74 rfl rfl ?_
      refine s_goto E 50 dX2_init_77 (by decide) ?_
      have e : upm (upm (kJ 48 49 i (upm (upm M 45 3 5) 45 4 2)) 48 i 1) 49 i 1 = kJ 48 49 (i + 1) (upm (upm M 45 3 5) 45 4 2) := kJ_s _ h0
      rw [e]
      exact ih (i + 1) (by omega) (by omega) (by omega) _ rfl

set_option maxRecDepth 100000 in
set_option maxHeartbeats 4000000 in
theorem k_X2_45 (P : List Sh) (hP : P.length = 45) (hc : clo 45 P = true) (M : Mm) (hz : Zr M 45) : CtG yX2_init cX2_init 2 2 16 98 (P ++ S_X2_init_45_0) [rv 45] M (P ++ S_X2_init_45_8) (fun M' => M' = kM 45 M) := by
  refine CtG.of rfl rfl (Nat.le_of_ble_eq_true rfl) (fun v as E G I hRM hret => ?_)
  show Ws v as (P ++ S_X2_init_45_0) 0 0 0 [some (rv 45), none] [] M
  refine s_aload_n E dX2_init_0 rfl ?_
  refine s_objI E dX2_init_1 ml_X2_3 (Nat.le_of_ble_eq_true rfl) (Nat.le_of_ble_eq_true rfl) ?_
  refine s_aload_n E dX2_init_4 rfl ?_
  refine s_iconst E dX2_init_5 ?_
  refine s_bipush E dX2_init_6 rfl ?_
  refine s_mna (n := 46) (wz := 46) (N := 4) (K := 6) (r0 := 47) (sh' := (P ++ S_X2_init_45_1)) E G dX2_init_8 cl_X2_9 aw_0 rfl rfl (Nat.le_of_ble_eq_true rfl) (Nat.le_of_ble_eq_true rfl) (gL hP rfl) (gC hc (Nat.le_of_ble_eq_true rfl) (by decide +kernel)) (by decide) (by decide) (fun i j h => (Zr.mono hz (Nat.le_of_ble_eq_true rfl)) i j (Int.le_of_lt h)) rfl (hRM.le (Nat.le_of_ble_eq_true rfl) (Nat.le_of_ble_eq_true rfl)) rfl (gA rfl) (fun q8 => ?_)
  refine s_putR (kf := 0) (sh' := (P ++ S_X2_init_45_2)) E I dX2_init_12 rfl inb_X2 tyX2_ok nmX2 (Nat.le_of_ble_eq_true rfl) ⟨rfl, rfl⟩ fl_X2_11 (rf_nf (Or.inr (Or.inr (Or.inl rfl)))) (by decide) (gP (n := 45) (k := 0) hP rfl) rfl (gS (n := 45) (k := 0) hP rfl) ?_
  refine s_aload_n E dX2_init_15 rfl ?_
  refine s_bipush E dX2_init_16 rfl ?_
  refine s_bipush E dX2_init_18 rfl ?_
  refine s_mna (n := 51) (wz := 51) (N := 6) (K := 6) (r0 := 52) (sh' := (P ++ S_X2_init_45_3)) E G dX2_init_20 cl_X2_9 aw_0 rfl rfl (Nat.le_of_ble_eq_true rfl) (Nat.le_of_ble_eq_true rfl) (gL hP rfl) (gC hc (Nat.le_of_ble_eq_true rfl) (by decide +kernel)) (by decide) (by decide) (fun i j h => (Zr.mono hz (Nat.le_of_ble_eq_true rfl)) i j (Int.le_of_lt h)) rfl (hRM.le (Nat.le_of_ble_eq_true rfl) (Nat.le_of_ble_eq_true rfl)) rfl (gA rfl) (fun q20 => ?_)
  refine s_putR (kf := 1) (sh' := (P ++ S_X2_init_45_4)) E I dX2_init_24 rfl inb_X2 tyX2_ok nmX2 (Nat.le_of_ble_eq_true rfl) ⟨rfl, rfl⟩ fl_X2_16 (rf_nf (Or.inr (Or.inr (Or.inl rfl)))) (by decide) (gP (n := 45) (k := 0) hP rfl) rfl (gS (n := 45) (k := 0) hP rfl) ?_
  refine s_aload_n E dX2_init_27 rfl ?_
  refine s_new (n := 58) (wz := 58) (ci := 4) (fs := [some none, some none, some none, none]) (sh' := (P ++ S_X2_init_45_5)) E dX2_init_28 rfl inb_X4 tyX4_ok cn_X2_19 (gL hP rfl) (gC hc (Nat.le_of_ble_eq_true rfl) (by decide +kernel)) (by decide) (by decide) (fun j => (Zr.mono hz (Nat.le_of_ble_eq_true rfl)) _ j (Int.le_refl _)) rfl rfl (hRM.le (Nat.le_of_ble_eq_true rfl) (Nat.le_of_ble_eq_true rfl)) rfl (gA rfl) (fun q28 => ?_)
  refine s_dup E dX2_init_31 ?_
  have hC32_58 := k_X4_58 (P ++ S_X2_init_45_6p) (gL hP rfl) (gC hc (Nat.le_of_ble_eq_true rfl) (by decide +kernel)) _ (Zr.mono (m := 58) hz (Nat.le_of_ble_eq_true rfl))
  rw [show (P ++ S_X2_init_45_6p) ++ S_X4_init_58_0 = P ++ S_X2_init_45_5 from gA rfl, show (P ++ S_X2_init_45_6p) ++ S_X4_init_58_6 = P ++ S_X2_init_45_7 from gA rfl] at hC32_58
  refine s_callGN E G hC32_58 dX2_init_32 mi_X4 ml_X2_21 (gL hP rfl) (by decide) (by decide) (Nat.le_of_ble_eq_true rfl) (Nat.le_of_ble_eq_true rfl) (hRM.le (Nat.le_of_ble_eq_true rfl) (Nat.le_of_ble_eq_true rfl)) rfl (fun t32_58 M32_58 h32_58 => ?_)
  subst M32_58
  refine s_putR (kf := 2) (sh' := (P ++ S_X2_init_45_8)) E I dX2_init_35 rfl inb_X2 tyX2_ok nmX2 (Nat.le_of_ble_eq_true rfl) ⟨rfl, rfl⟩ fl_X2_22 (rf_nf (Or.inr (Or.inr (Or.inr (Or.inr ⟨_, rfl⟩))))) (by decide) (gP (n := 45) (k := 0) hP rfl) rfl (gS (n := 45) (k := 0) hP rfl) ?_
  refine s_aload_n E dX2_init_38 rfl ?_
  refine s_iconst E dX2_init_39 ?_
  refine s_putI (kf := 3) E 3 rfl dX2_init_40 rfl inb_X2 tyX2_ok nmX2 (Nat.le_of_ble_eq_true rfl) ⟨rfl, rfl⟩ fl_X2_26 (by decide) (gP (n := 45) (k := 0) hP rfl) rfl ?_
  refine s_aload_n E dX2_init_43 rfl ?_
  refine s_iconst E dX2_init_44 ?_
  refine s_putI (kf := 4) E 4 rfl dX2_init_45 rfl inb_X2 tyX2_ok nmX2 (Nat.le_of_ble_eq_true rfl) ⟨rfl, rfl⟩ fl_X2_30 (by decide) (gP (n := 45) (k := 0) hP rfl) rfl ?_
  refine s_iconst E dX2_init_48 ?_
  refine s_istore_n (ls' := [_, _]) E dX2_init_49 (Nat.le_of_ble_eq_true rfl) rfl ?_
  exact lpK_45 P hP hc M hz v _ E () (fun pc ls hd => hret _ _ (by repeat (first | exact ex0 | refine exa ?_)) rfl pc ls hd) 7 0 (by decide) (by decide) (by decide) _ (kJ_0 _ _ _)


set_option maxRecDepth 100000 in
set_option maxHeartbeats 4000000 in
theorem lpK_62 (P : List Sh) (hP : P.length = 62) (hc : clo 62 P = true) (M : Mm) (hz : Zr M 62) (v : Ev) (as : List Nat) (E : Cx v cX2_init 2 yX2_init.cls 2) (mm : Unit) (hend : ∀ pc ls, decode cX2_init pc = .ok (.return_, 1) → Ws v as (P ++ S_X2_init_62_8) 16 98 pc ls [] (kM 62 M)) : ∀ (N : Nat) (i : Int), (6 - i).toNat < N → 0 ≤ i → i ≤ 6 → ∀ M1, M1 = kJ 65 66 i (upm (upm M 62 3 5) 62 4 2) → Ws v as (P ++ S_X2_init_62_8) 16 98 50 [some (rv 62), some (iv i)] [] M1 := by
  intro N
  induction N with
  | zero =>
    intro i hN
    exact absurd hN (Nat.not_lt_zero _)
  | succ N ih =>
    intro i hN h0 h6 M1 hM1
    subst hM1
    refine s_iload_n E dX2_init_50 rfl ?_
    refine s_bipush E dX2_init_51 rfl ?_
    refine s_icmp_ge E 80 dX2_init_53 (by decide) (by omega) (by omega) (fun h53 => ?_) (fun h53 => ?_)
    · have e : i = 6 := by omega
      subst e
      exact hend _ _ dX2_init_80
    · refine s_aload_n E dX2_init_56 rfl ?_
      refine s_getR (kf := 0) E dX2_init_57 rfl inb_X2 (Nat.le_of_ble_eq_true rfl) fl_X2_11 (by decide) (gP (n := 62) (k := 0) hP rfl) rfl ?_
      refine s_iconst E dX2_init_60 ?_
      refine s_aald (kd := 0) (r := 65) E dX2_init_61 (by decide) (gP (n := 62) (k := 1) hP rfl) (Nat.le_of_ble_eq_true rfl) (by decide) rfl ?_
      refine s_iload_n E dX2_init_62 rfl ?_
      refine s_iconst E dX2_init_63 ?_
      refine s_iast E dX2_init_64 (by decide) (gP (n := 62) (k := 3) hP rfl) (Nat.le_of_ble_eq_true rfl) (by omega) ?_
      refine s_aload_n E dX2_init_65 rfl ?_
      refine s_getR (kf := 0) E dX2_init_66 rfl inb_X2 (Nat.le_of_ble_eq_true rfl) fl_X2_11 (by decide) (gP (n := 62) (k := 0) hP rfl) rfl ?_
      refine s_iconst E dX2_init_69 ?_
      refine s_aald (kd := 0) (r := 66) E dX2_init_70 (by decide) (gP (n := 62) (k := 1) hP rfl) (Nat.le_of_ble_eq_true rfl) (by decide) rfl ?_
      refine s_iload_n E dX2_init_71 rfl ?_
      refine s_iconst E dX2_init_72 ?_
      refine s_iast E dX2_init_73 (by decide) (gP (n := 62) (k := 4) hP rfl) (Nat.le_of_ble_eq_true rfl) (by omega) ?_
      refine s_iinc (ls' := [_, _]) E dX2_init_74 rfl rfl ?_
      refine s_goto E 50 dX2_init_77 (by decide) ?_
      have e : upm (upm (kJ 65 66 i (upm (upm M 62 3 5) 62 4 2)) 65 i 1) 66 i 1 = kJ 65 66 (i + 1) (upm (upm M 62 3 5) 62 4 2) := kJ_s _ h0
      rw [e]
      exact ih (i + 1) (by omega) (by omega) (by omega) _ rfl

set_option maxRecDepth 100000 in
set_option maxHeartbeats 4000000 in
theorem k_X2_62 (P : List Sh) (hP : P.length = 62) (hc : clo 62 P = true) (M : Mm) (hz : Zr M 62) : CtG yX2_init cX2_init 2 2 16 98 (P ++ S_X2_init_62_0) [rv 62] M (P ++ S_X2_init_62_8) (fun M' => M' = kM 62 M) := by
  refine CtG.of rfl rfl (Nat.le_of_ble_eq_true rfl) (fun v as E G I hRM hret => ?_)
  show Ws v as (P ++ S_X2_init_62_0) 0 0 0 [some (rv 62), none] [] M
  refine s_aload_n E dX2_init_0 rfl ?_
  refine s_objI E dX2_init_1 ml_X2_3 (Nat.le_of_ble_eq_true rfl) (Nat.le_of_ble_eq_true rfl) ?_
  refine s_aload_n E dX2_init_4 rfl ?_
  refine s_iconst E dX2_init_5 ?_
  refine s_bipush E dX2_init_6 rfl ?_
  refine s_mna (n := 63) (wz := 63) (N := 4) (K := 6) (r0 := 64) (sh' := (P ++ S_X2_init_62_1)) E G dX2_init_8 cl_X2_9 aw_0 rfl rfl (Nat.le_of_ble_eq_true rfl) (Nat.le_of_ble_eq_true rfl) (gL hP rfl) (gC hc (Nat.le_of_ble_eq_true rfl) (by decide +kernel)) (by decide) (by decide) (fun i j h => (Zr.mono hz (Nat.le_of_ble_eq_true rfl)) i j (Int.le_of_lt h)) rfl (hRM.le (Nat.le_of_ble_eq_true rfl) (Nat.le_of_ble_eq_true rfl)) rfl (gA rfl) (fun q8 => ?_)
  refine s_putR (kf := 0) (sh' := (P ++ S_X2_init_62_2)) E I dX2_init_12 rfl inb_X2 tyX2_ok nmX2 (Nat.le_of_ble_eq_true rfl) ⟨rfl, rfl⟩ fl_X2_11 (rf_nf (Or.inr (Or.inr (Or.inl rfl)))) (by decide) (gP (n := 62) (k := 0) hP rfl) rfl (gS (n := 62) (k := 0) hP rfl) ?_
  refine s_aload_n E dX2_init_15 rfl ?_
  refine s_bipush E dX2_init_16 rfl ?_
  refine s_bipush E dX2_init_18 rfl ?_
  refine s_mna (n := 68) (wz := 68) (N := 6) (K := 6) (r0 := 69) (sh' := (P ++ S_X2_init_62_3)) E G dX2_init_20 cl_X2_9 aw_0 rfl rfl (Nat.le_of_ble_eq_true rfl) (Nat.le_of_ble_eq_true rfl) (gL hP rfl) (gC hc (Nat.le_of_ble_eq_true rfl) (by decide +kernel)) (by decide) (by decide) (fun i j h => (Zr.mono hz (Nat.le_of_ble_eq_true rfl)) i j (Int.le_of_lt h)) rfl (hRM.le (Nat.le_of_ble_eq_true rfl) (Nat.le_of_ble_eq_true rfl)) rfl (gA rfl) (fun q20 => ?_)
  refine s_putR (kf := 1) (sh' := (P ++ S_X2_init_62_4)) E I dX2_init_24 rfl inb_X2 tyX2_ok nmX2 (Nat.le_of_ble_eq_true rfl) ⟨rfl, rfl⟩ fl_X2_16 (rf_nf (Or.inr (Or.inr (Or.inl rfl)))) (by decide) (gP (n := 62) (k := 0) hP rfl) rfl (gS (n := 62) (k := 0) hP rfl) ?_
  refine s_aload_n E dX2_init_27 rfl ?_
  refine s_new (n := 75) (wz := 75) (ci := 4) (fs := [some none, some none, some none, none]) (sh' := (P ++ S_X2_init_62_5)) E dX2_init_28 rfl inb_X4 tyX4_ok cn_X2_19 (gL hP rfl) (gC hc (Nat.le_of_ble_eq_true rfl) (by decide +kernel)) (by decide) (by decide) (fun j => (Zr.mono hz (Nat.le_of_ble_eq_true rfl)) _ j (Int.le_refl _)) rfl rfl (hRM.le (Nat.le_of_ble_eq_true rfl) (Nat.le_of_ble_eq_true rfl)) rfl (gA rfl) (fun q28 => ?_)
  refine s_dup E dX2_init_31 ?_
  have hC32_75 := k_X4_75 (P ++ S_X2_init_62_6p) (gL hP rfl) (gC hc (Nat.le_of_ble_eq_true rfl) (by decide +kernel)) _ (Zr.mono (m := 75) hz (Nat.le_of_ble_eq_true rfl))
  rw [show (P ++ S_X2_init_62_6p) ++ S_X4_init_75_0 = P ++ S_X2_init_62_5 from gA rfl, show (P ++ S_X2_init_62_6p) ++ S_X4_init_75_6 = P ++ S_X2_init_62_7 from gA rfl] at hC32_75
  refine s_callGN E G hC32_75 dX2_init_32 mi_X4 ml_X2_21 (gL hP rfl) (by decide) (by decide) (Nat.le_of_ble_eq_true rfl) (Nat.le_of_ble_eq_true rfl) (hRM.le (Nat.le_of_ble_eq_true rfl) (Nat.le_of_ble_eq_true rfl)) rfl (fun t32_75 M32_75 h32_75 => ?_)
  subst M32_75
  refine s_putR (kf := 2) (sh' := (P ++ S_X2_init_62_8)) E I dX2_init_35 rfl inb_X2 tyX2_ok nmX2 (Nat.le_of_ble_eq_true rfl) ⟨rfl, rfl⟩ fl_X2_22 (rf_nf (Or.inr (Or.inr (Or.inr (Or.inr ⟨_, rfl⟩))))) (by decide) (gP (n := 62) (k := 0) hP rfl) rfl (gS (n := 62) (k := 0) hP rfl) ?_
  refine s_aload_n E dX2_init_38 rfl ?_
  refine s_iconst E dX2_init_39 ?_
  refine s_putI (kf := 3) E 3 rfl dX2_init_40 rfl inb_X2 tyX2_ok nmX2 (Nat.le_of_ble_eq_true rfl) ⟨rfl, rfl⟩ fl_X2_26 (by decide) (gP (n := 62) (k := 0) hP rfl) rfl ?_
  refine s_aload_n E dX2_init_43 rfl ?_
  refine s_iconst E dX2_init_44 ?_
  refine s_putI (kf := 4) E 4 rfl dX2_init_45 rfl inb_X2 tyX2_ok nmX2 (Nat.le_of_ble_eq_true rfl) ⟨rfl, rfl⟩ fl_X2_30 (by decide) (gP (n := 62) (k := 0) hP rfl) rfl ?_
  refine s_iconst E dX2_init_48 ?_
  refine s_istore_n (ls' := [_, _]) E dX2_init_49 (Nat.le_of_ble_eq_true rfl) rfl ?_
  exact lpK_62 P hP hc M hz v _ E () (fun pc ls hd => hret _ _ (by repeat (first | exact ex0 | refine exa ?_)) rfl pc ls hd) 7 0 (by decide) (by decide) (by decide) _ (kJ_0 _ _ _)
