/-! ===== the constructors that make rows only ===== -/
def S_X3_init_37_0 : List Sh := [.inl (3, [some none, some none])]
def S_X3_init_37_1 : List Sh := [.inl (3, [some none, some none]), .inr (0, 64, [])]
def S_X3_init_37_2 : List Sh := [.inl (3, [some (some 38), some none]), .inr (0, 64, [])]
def S_X3_init_37_3 : List Sh := [.inl (3, [some (some 38), some none]), .inr (0, 64, []), .inr (0, 64, [])]
def S_X3_init_37_4 : List Sh := [.inl (3, [some (some 38), some (some 39)]), .inr (0, 64, []), .inr (0, 64, [])]
def S_X4_init_14_0 : List Sh := [.inl (4, [some none, some none, some none, none])]
def S_X4_init_14_1 : List Sh := [.inl (4, [some none, some none, some none, none]), .inr (0, 8, [])]
def S_X4_init_14_2 : List Sh := [.inl (4, [some (some 15), some none, some none, none]), .inr (0, 8, [])]
def S_X4_init_14_3 : List Sh := [.inl (4, [some (some 15), some none, some none, none]), .inr (0, 8, []), .inr (0, 8, [])]
def S_X4_init_14_4 : List Sh := [.inl (4, [some (some 15), some (some 16), some none, none]), .inr (0, 8, []), .inr (0, 8, [])]
def S_X4_init_14_5 : List Sh := [.inl (4, [some (some 15), some (some 16), some none, none]), .inr (0, 8, []), .inr (0, 8, []), .inr (0, 8, [])]
def S_X4_init_14_6 : List Sh := [.inl (4, [some (some 15), some (some 16), some (some 17), none]), .inr (0, 8, []), .inr (0, 8, []), .inr (0, 8, [])]
def S_X4_init_58_0 : List Sh := [.inl (4, [some none, some none, some none, none])]
def S_X4_init_58_1 : List Sh := [.inl (4, [some none, some none, some none, none]), .inr (0, 8, [])]
def S_X4_init_58_2 : List Sh := [.inl (4, [some (some 59), some none, some none, none]), .inr (0, 8, [])]
def S_X4_init_58_3 : List Sh := [.inl (4, [some (some 59), some none, some none, none]), .inr (0, 8, []), .inr (0, 8, [])]
def S_X4_init_58_4 : List Sh := [.inl (4, [some (some 59), some (some 60), some none, none]), .inr (0, 8, []), .inr (0, 8, [])]
def S_X4_init_58_5 : List Sh := [.inl (4, [some (some 59), some (some 60), some none, none]), .inr (0, 8, []), .inr (0, 8, []), .inr (0, 8, [])]
def S_X4_init_58_6 : List Sh := [.inl (4, [some (some 59), some (some 60), some (some 61), none]), .inr (0, 8, []), .inr (0, 8, []), .inr (0, 8, [])]
def S_X4_init_75_0 : List Sh := [.inl (4, [some none, some none, some none, none])]
def S_X4_init_75_1 : List Sh := [.inl (4, [some none, some none, some none, none]), .inr (0, 8, [])]
def S_X4_init_75_2 : List Sh := [.inl (4, [some (some 76), some none, some none, none]), .inr (0, 8, [])]
def S_X4_init_75_3 : List Sh := [.inl (4, [some (some 76), some none, some none, none]), .inr (0, 8, []), .inr (0, 8, [])]
def S_X4_init_75_4 : List Sh := [.inl (4, [some (some 76), some (some 77), some none, none]), .inr (0, 8, []), .inr (0, 8, [])]
def S_X4_init_75_5 : List Sh := [.inl (4, [some (some 76), some (some 77), some none, none]), .inr (0, 8, []), .inr (0, 8, []), .inr (0, 8, [])]
def S_X4_init_75_6 : List Sh := [.inl (4, [some (some 76), some (some 77), some (some 78), none]), .inr (0, 8, []), .inr (0, 8, []), .inr (0, 8, [])]
def S_X5_init_20_0 : List Sh := [.inl (5, [some none, none])]
def S_X5_init_20_1 : List Sh := [.inl (5, [some none, none]), .inr (0, 40, [])]
def S_X5_init_20_2 : List Sh := [.inl (5, [some (some 21), none]), .inr (0, 40, [])]
def S_X0_init_29_0 : List Sh := [.inl (0, [some none, some none, none, none, some none, some none, some none, some none, some none, none])]
def S_X0_init_29_1 : List Sh := [.inl (0, [some none, some none, none, none, some none, some none, some none, some none, some none, none]), .inr (0, 8, [])]
def S_X0_init_29_2 : List Sh := [.inl (0, [some (some 30), some none, none, none, some none, some none, some none, some none, some none, none]), .inr (0, 8, [])]
def S_X0_init_29_3 : List Sh := [.inl (0, [some (some 30), some none, none, none, some none, some none, some none, some none, some none, none]), .inr (0, 8, []), .inr (0, 6, [])]
def S_X0_init_29_4 : List Sh := [.inl (0, [some (some 30), some (some 31), none, none, some none, some none, some none, some none, some none, none]), .inr (0, 8, []), .inr (0, 6, [])]
def S_X0_init_29_5 : List Sh := [.inl (0, [some (some 30), some (some 31), none, none, some none, some none, some none, some none, some none, none]), .inr (0, 8, []), .inr (0, 6, []), .inr (0, 6, [])]
def S_X0_init_29_6 : List Sh := [.inl (0, [some (some 30), some (some 31), none, none, some (some 32), some none, some none, some none, some none, none]), .inr (0, 8, []), .inr (0, 6, []), .inr (0, 6, [])]
def S_X0_init_29_7 : List Sh := [.inl (0, [some (some 30), some (some 31), none, none, some (some 32), some none, some none, some none, some none, none]), .inr (0, 8, []), .inr (0, 6, []), .inr (0, 6, []), .inr (0, 6, [])]
def S_X0_init_29_8 : List Sh := [.inl (0, [some (some 30), some (some 31), none, none, some (some 32), some (some 33), some none, some none, some none, none]), .inr (0, 8, []), .inr (0, 6, []), .inr (0, 6, []), .inr (0, 6, [])]
def S_X0_init_29_9 : List Sh := [.inl (0, [some (some 30), some (some 31), none, none, some (some 32), some (some 33), some none, some none, some none, none]), .inr (0, 8, []), .inr (0, 6, []), .inr (0, 6, []), .inr (0, 6, []), .inr (0, 2048, [])]
def S_X0_init_29_10 : List Sh := [.inl (0, [some (some 30), some (some 31), none, none, some (some 32), some (some 33), some (some 34), some none, some none, none]), .inr (0, 8, []), .inr (0, 6, []), .inr (0, 6, []), .inr (0, 6, []), .inr (0, 2048, [])]
def S_X0_init_29_11 : List Sh := [.inl (0, [some (some 30), some (some 31), none, none, some (some 32), some (some 33), some (some 34), some none, some none, none]), .inr (0, 8, []), .inr (0, 6, []), .inr (0, 6, []), .inr (0, 6, []), .inr (0, 2048, []), .inr (0, 256, [])]
def S_X0_init_29_12 : List Sh := [.inl (0, [some (some 30), some (some 31), none, none, some (some 32), some (some 33), some (some 34), some (some 35), some none, none]), .inr (0, 8, []), .inr (0, 6, []), .inr (0, 6, []), .inr (0, 6, []), .inr (0, 2048, []), .inr (0, 256, [])]
def S_X0_init_29_13 : List Sh := [.inl (0, [some (some 30), some (some 31), none, none, some (some 32), some (some 33), some (some 34), some (some 35), some none, none]), .inr (0, 8, []), .inr (0, 6, []), .inr (0, 6, []), .inr (0, 6, []), .inr (0, 2048, []), .inr (0, 256, []), .inr (1, 256, [])]
def S_X0_init_29_14 : List Sh := [.inl (0, [some (some 30), some (some 31), none, none, some (some 32), some (some 33), some (some 34), some (some 35), some (some 36), none]), .inr (0, 8, []), .inr (0, 6, []), .inr (0, 6, []), .inr (0, 6, []), .inr (0, 2048, []), .inr (0, 256, []), .inr (1, 256, [])]
def S_X1_init_40_0 : List Sh := [.inl (1, [some none, none, some none, some none, some none])]
def S_X1_init_40_1 : List Sh := [.inl (1, [some none, none, some none, some none, some none]), .inr (0, 12, [])]
def S_X1_init_40_2 : List Sh := [.inl (1, [some (some 41), none, some none, some none, some none]), .inr (0, 12, [])]
def S_X1_init_40_3 : List Sh := [.inl (1, [some (some 41), none, some none, some none, some none]), .inr (0, 12, []), .inr (0, 12, [])]
def S_X1_init_40_4 : List Sh := [.inl (1, [some (some 41), none, some (some 42), some none, some none]), .inr (0, 12, []), .inr (0, 12, [])]
def S_X1_init_40_5 : List Sh := [.inl (1, [some (some 41), none, some (some 42), some none, some none]), .inr (0, 12, []), .inr (0, 12, []), .inr (0, 6, [])]
def S_X1_init_40_6 : List Sh := [.inl (1, [some (some 41), none, some (some 42), some (some 43), some none]), .inr (0, 12, []), .inr (0, 12, []), .inr (0, 6, [])]
def S_X1_init_40_7 : List Sh := [.inl (1, [some (some 41), none, some (some 42), some (some 43), some none]), .inr (0, 12, []), .inr (0, 12, []), .inr (0, 6, []), .inr (0, 6, [])]
def S_X1_init_40_8 : List Sh := [.inl (1, [some (some 41), none, some (some 42), some (some 43), some (some 44)]), .inr (0, 12, []), .inr (0, 12, []), .inr (0, 6, []), .inr (0, 6, [])]
def S_X6_init_22_0 : List Sh := [.inl (6, [some none, some none, none, none, none])]
def S_X6_init_22_1 : List Sh := [.inl (6, [some none, some none, none, none, none]), .inr (2, 4, esr 24 4), .inr (0, 6, []), .inr (0, 6, []), .inr (0, 6, []), .inr (0, 6, [])]
def S_X6_init_22_2 : List Sh := [.inl (6, [some (some 23), some none, none, none, none]), .inr (2, 4, esr 24 4), .inr (0, 6, []), .inr (0, 6, []), .inr (0, 6, []), .inr (0, 6, [])]
def S_X6_init_22_3 : List Sh := [.inl (6, [some (some 23), some none, none, none, none]), .inr (2, 4, esr 24 4), .inr (0, 6, []), .inr (0, 6, []), .inr (0, 6, []), .inr (0, 6, []), .inr (0, 6, [])]
def S_X6_init_22_4 : List Sh := [.inl (6, [some (some 23), some (some 28), none, none, none]), .inr (2, 4, esr 24 4), .inr (0, 6, []), .inr (0, 6, []), .inr (0, 6, []), .inr (0, 6, []), .inr (0, 6, [])]
set_option maxRecDepth 100000 in
set_option maxHeartbeats 4000000 in
theorem k_X3_37 (P : List Sh) (hP : P.length = 37) (hc : clo 37 P = true) (M : Mm) (hz : Zr M 37) : CtG yX3_init cX3_init 1 1 2 128 (P ++ S_X3_init_37_0) [rv 37] M (P ++ S_X3_init_37_4) (fun M' => M' = M) := by
  refine CtG.of rfl rfl (Nat.le_of_ble_eq_true rfl) (fun v as E G I hRM hret => ?_)
  show Ws v as (P ++ S_X3_init_37_0) 0 0 0 [some (rv 37)] [] M
  refine s_aload_n E dX3_init_0 rfl ?_
  refine s_objI E dX3_init_1 ml_X3_3 (Nat.le_of_ble_eq_true rfl) (Nat.le_of_ble_eq_true rfl) ?_
  refine s_aload_n E dX3_init_4 rfl ?_
  refine s_bipush E dX3_init_5 rfl ?_
  refine s_newa (n := 38) (wz := 38) (kd := 0) (N := 64) (sh' := (P ++ S_X3_init_37_1)) E G dX3_init_7 (Or.inl rfl) rfl aw_0 rfl (Nat.le_of_ble_eq_true rfl) (gL hP rfl) (gC hc (Nat.le_of_ble_eq_true rfl) (by decide +kernel)) (by decide) (by decide) (fun j => (Zr.mono hz (Nat.le_of_ble_eq_true rfl)) _ j (Int.le_refl _)) (hRM.le (Nat.le_of_ble_eq_true rfl) (Nat.le_of_ble_eq_true rfl)) rfl (gA rfl) (fun q7 => ?_)
  refine s_putR (kf := 0) (sh' := (P ++ S_X3_init_37_2)) E I dX3_init_9 rfl inb_X3 tyX3_ok nmX3 (Nat.le_of_ble_eq_true rfl) ⟨rfl, rfl⟩ fl_X3_9 (rf_nf (Or.inl rfl)) (by decide) (gP (n := 37) (k := 0) hP rfl) rfl (gS (n := 37) (k := 0) hP rfl) ?_
  refine s_aload_n E dX3_init_12 rfl ?_
  refine s_bipush E dX3_init_13 rfl ?_
  refine s_newa (n := 39) (wz := 39) (kd := 0) (N := 64) (sh' := (P ++ S_X3_init_37_3)) E G dX3_init_15 (Or.inl rfl) rfl aw_0 rfl (Nat.le_of_ble_eq_true rfl) (gL hP rfl) (gC hc (Nat.le_of_ble_eq_true rfl) (by decide +kernel)) (by decide) (by decide) (fun j => (Zr.mono hz (Nat.le_of_ble_eq_true rfl)) _ j (Int.le_refl _)) (hRM.le (Nat.le_of_ble_eq_true rfl) (Nat.le_of_ble_eq_true rfl)) rfl (gA rfl) (fun q15 => ?_)
  refine s_putR (kf := 1) (sh' := (P ++ S_X3_init_37_4)) E I dX3_init_17 rfl inb_X3 tyX3_ok nmX3 (Nat.le_of_ble_eq_true rfl) ⟨rfl, rfl⟩ fl_X3_15 (rf_nf (Or.inl rfl)) (by decide) (gP (n := 37) (k := 0) hP rfl) rfl (gS (n := 37) (k := 0) hP rfl) ?_
  refine hret _ _ ?_ ?_ _ _ dX3_init_20
  · repeat (first | exact ex0 | refine exa ?_)
  · rfl

set_option maxRecDepth 100000 in
set_option maxHeartbeats 4000000 in
theorem k_X4_14 (P : List Sh) (hP : P.length = 14) (hc : clo 14 P = true) (M : Mm) (hz : Zr M 14) : CtG yX4_init cX4_init 1 1 3 24 (P ++ S_X4_init_14_0) [rv 14] M (P ++ S_X4_init_14_6) (fun M' => M' = M) := by
  refine CtG.of rfl rfl (Nat.le_of_ble_eq_true rfl) (fun v as E G I hRM hret => ?_)
  show Ws v as (P ++ S_X4_init_14_0) 0 0 0 [some (rv 14)] [] M
  refine s_aload_n E dX4_init_0 rfl ?_
  refine s_objI E dX4_init_1 ml_X4_3 (Nat.le_of_ble_eq_true rfl) (Nat.le_of_ble_eq_true rfl) ?_
  refine s_aload_n E dX4_init_4 rfl ?_
  refine s_bipush E dX4_init_5 rfl ?_
  refine s_newa (n := 15) (wz := 15) (kd := 0) (N := 8) (sh' := (P ++ S_X4_init_14_1)) E G dX4_init_7 (Or.inl rfl) rfl aw_0 rfl (Nat.le_of_ble_eq_true rfl) (gL hP rfl) (gC hc (Nat.le_of_ble_eq_true rfl) (by decide +kernel)) (by decide) (by decide) (fun j => (Zr.mono hz (Nat.le_of_ble_eq_true rfl)) _ j (Int.le_refl _)) (hRM.le (Nat.le_of_ble_eq_true rfl) (Nat.le_of_ble_eq_true rfl)) rfl (gA rfl) (fun q7 => ?_)
  refine s_putR (kf := 0) (sh' := (P ++ S_X4_init_14_2)) E I dX4_init_9 rfl inb_X4 tyX4_ok nmX4 (Nat.le_of_ble_eq_true rfl) ⟨rfl, rfl⟩ fl_X4_9 (rf_nf (Or.inl rfl)) (by decide) (gP (n := 14) (k := 0) hP rfl) rfl (gS (n := 14) (k := 0) hP rfl) ?_
  refine s_aload_n E dX4_init_12 rfl ?_
  refine s_bipush E dX4_init_13 rfl ?_
  refine s_newa (n := 16) (wz := 16) (kd := 0) (N := 8) (sh' := (P ++ S_X4_init_14_3)) E G dX4_init_15 (Or.inl rfl) rfl aw_0 rfl (Nat.le_of_ble_eq_true rfl) (gL hP rfl) (gC hc (Nat.le_of_ble_eq_true rfl) (by decide +kernel)) (by decide) (by decide) (fun j => (Zr.mono hz (Nat.le_of_ble_eq_true rfl)) _ j (Int.le_refl _)) (hRM.le (Nat.le_of_ble_eq_true rfl) (Nat.le_of_ble_eq_true rfl)) rfl (gA rfl) (fun q15 => ?_)
  refine s_putR (kf := 1) (sh' := (P ++ S_X4_init_14_4)) E I dX4_init_17 rfl inb_X4 tyX4_ok nmX4 (Nat.le_of_ble_eq_true rfl) ⟨rfl, rfl⟩ fl_X4_15 (rf_nf (Or.inl rfl)) (by decide) (gP (n := 14) (k := 0) hP rfl) rfl (gS (n := 14) (k := 0) hP rfl) ?_
  refine s_aload_n E dX4_init_20 rfl ?_
  refine s_bipush E dX4_init_21 rfl ?_
  refine s_newa (n := 17) (wz := 17) (kd := 0) (N := 8) (sh' := (P ++ S_X4_init_14_5)) E G dX4_init_23 (Or.inl rfl) rfl aw_0 rfl (Nat.le_of_ble_eq_true rfl) (gL hP rfl) (gC hc (Nat.le_of_ble_eq_true rfl) (by decide +kernel)) (by decide) (by decide) (fun j => (Zr.mono hz (Nat.le_of_ble_eq_true rfl)) _ j (Int.le_refl _)) (hRM.le (Nat.le_of_ble_eq_true rfl) (Nat.le_of_ble_eq_true rfl)) rfl (gA rfl) (fun q23 => ?_)
  refine s_putR (kf := 2) (sh' := (P ++ S_X4_init_14_6)) E I dX4_init_25 rfl inb_X4 tyX4_ok nmX4 (Nat.le_of_ble_eq_true rfl) ⟨rfl, rfl⟩ fl_X4_18 (rf_nf (Or.inl rfl)) (by decide) (gP (n := 14) (k := 0) hP rfl) rfl (gS (n := 14) (k := 0) hP rfl) ?_
  refine s_aload_n E dX4_init_28 rfl ?_
  refine s_iconst E dX4_init_29 ?_
  refine s_putI (kf := 3) E 3 rfl dX4_init_30 rfl inb_X4 tyX4_ok nmX4 (Nat.le_of_ble_eq_true rfl) ⟨rfl, rfl⟩ fl_X4_21 (by decide) (gP (n := 14) (k := 0) hP rfl) rfl ?_
  refine hret _ _ ?_ ?_ _ _ dX4_init_33
  · repeat (first | exact ex0 | refine exa ?_)
  · funext k j
    unfold upm
    split
    · next h =>
      rw [h.1, h.2]
      exact (hz _ _ (by decide)).symm
    · rfl

set_option maxRecDepth 100000 in
set_option maxHeartbeats 4000000 in
theorem k_X4_58 (P : List Sh) (hP : P.length = 58) (hc : clo 58 P = true) (M : Mm) (hz : Zr M 58) : CtG yX4_init cX4_init 1 1 3 24 (P ++ S_X4_init_58_0) [rv 58] M (P ++ S_X4_init_58_6) (fun M' => M' = M) := by
  refine CtG.of rfl rfl (Nat.le_of_ble_eq_true rfl) (fun v as E G I hRM hret => ?_)
  show Ws v as (P ++ S_X4_init_58_0) 0 0 0 [some (rv 58)] [] M
  refine s_aload_n E dX4_init_0 rfl ?_
  refine s_objI E dX4_init_1 ml_X4_3 (Nat.le_of_ble_eq_true rfl) (Nat.le_of_ble_eq_true rfl) ?_
  refine s_aload_n E dX4_init_4 rfl ?_
  refine s_bipush E dX4_init_5 rfl ?_
  refine s_newa (n := 59) (wz := 59) (kd := 0) (N := 8) (sh' := (P ++ S_X4_init_58_1)) E G dX4_init_7 (Or.inl rfl) rfl aw_0 rfl (Nat.le_of_ble_eq_true rfl) (gL hP rfl) (gC hc (Nat.le_of_ble_eq_true rfl) (by decide +kernel)) (by decide) (by decide) (fun j => (Zr.mono hz (Nat.le_of_ble_eq_true rfl)) _ j (Int.le_refl _)) (hRM.le (Nat.le_of_ble_eq_true rfl) (Nat.le_of_ble_eq_true rfl)) rfl (gA rfl) (fun q7 => ?_)
  refine s_putR (kf := 0) (sh' := (P ++ S_X4_init_58_2)) E I dX4_init_9 rfl inb_X4 tyX4_ok nmX4 (Nat.le_of_ble_eq_true rfl) ⟨rfl, rfl⟩ fl_X4_9 (rf_nf (Or.inl rfl)) (by decide) (gP (n := 58) (k := 0) hP rfl) rfl (gS (n := 58) (k := 0) hP rfl) ?_
  refine s_aload_n E dX4_init_12 rfl ?_
  refine s_bipush E dX4_init_13 rfl ?_
  refine s_newa (n := 60) (wz := 60) (kd := 0) (N := 8) (sh' := (P ++ S_X4_init_58_3)) E G dX4_init_15 (Or.inl rfl) rfl aw_0 rfl (Nat.le_of_ble_eq_true rfl) (gL hP rfl) (gC hc (Nat.le_of_ble_eq_true rfl) (by decide +kernel)) (by decide) (by decide) (fun j => (Zr.mono hz (Nat.le_of_ble_eq_true rfl)) _ j (Int.le_refl _)) (hRM.le (Nat.le_of_ble_eq_true rfl) (Nat.le_of_ble_eq_true rfl)) rfl (gA rfl) (fun q15 => ?_)
  refine s_putR (kf := 1) (sh' := (P ++ S_X4_init_58_4)) E I dX4_init_17 rfl inb_X4 tyX4_ok nmX4 (Nat.le_of_ble_eq_true rfl) ⟨rfl, rfl⟩ fl_X4_15 (rf_nf (Or.inl rfl)) (by decide) (gP (n := 58) (k := 0) hP rfl) rfl (gS (n := 58) (k := 0) hP rfl) ?_
  refine s_aload_n E dX4_init_20 rfl ?_
  refine s_bipush E dX4_init_21 rfl ?_
  refine s_newa (n := 61) (wz := 61) (kd := 0) (N := 8) (sh' := (P ++ S_X4_init_58_5)) E G dX4_init_23 (Or.inl rfl) rfl aw_0 rfl (Nat.le_of_ble_eq_true rfl) (gL hP rfl) (gC hc (Nat.le_of_ble_eq_true rfl) (by decide +kernel)) (by decide) (by decide) (fun j => (Zr.mono hz (Nat.le_of_ble_eq_true rfl)) _ j (Int.le_refl _)) (hRM.le (Nat.le_of_ble_eq_true rfl) (Nat.le_of_ble_eq_true rfl)) rfl (gA rfl) (fun q23 => ?_)
  refine s_putR (kf := 2) (sh' := (P ++ S_X4_init_58_6)) E I dX4_init_25 rfl inb_X4 tyX4_ok nmX4 (Nat.le_of_ble_eq_true rfl) ⟨rfl, rfl⟩ fl_X4_18 (rf_nf (Or.inl rfl)) (by decide) (gP (n := 58) (k := 0) hP rfl) rfl (gS (n := 58) (k := 0) hP rfl) ?_
  refine s_aload_n E dX4_init_28 rfl ?_
  refine s_iconst E dX4_init_29 ?_
  refine s_putI (kf := 3) E 3 rfl dX4_init_30 rfl inb_X4 tyX4_ok nmX4 (Nat.le_of_ble_eq_true rfl) ⟨rfl, rfl⟩ fl_X4_21 (by decide) (gP (n := 58) (k := 0) hP rfl) rfl ?_
  refine hret _ _ ?_ ?_ _ _ dX4_init_33
  · repeat (first | exact ex0 | refine exa ?_)
  · funext k j
    unfold upm
    split
    · next h =>
      rw [h.1, h.2]
      exact (hz _ _ (by decide)).symm
    · rfl

set_option maxRecDepth 100000 in
set_option maxHeartbeats 4000000 in
theorem k_X4_75 (P : List Sh) (hP : P.length = 75) (hc : clo 75 P = true) (M : Mm) (hz : Zr M 75) : CtG yX4_init cX4_init 1 1 3 24 (P ++ S_X4_init_75_0) [rv 75] M (P ++ S_X4_init_75_6) (fun M' => M' = M) := by
  refine CtG.of rfl rfl (Nat.le_of_ble_eq_true rfl) (fun v as E G I hRM hret => ?_)
  show Ws v as (P ++ S_X4_init_75_0) 0 0 0 [some (rv 75)] [] M
  refine s_aload_n E dX4_init_0 rfl ?_
  refine s_objI E dX4_init_1 ml_X4_3 (Nat.le_of_ble_eq_true rfl) (Nat.le_of_ble_eq_true rfl) ?_
  refine s_aload_n E dX4_init_4 rfl ?_
  refine s_bipush E dX4_init_5 rfl ?_
  refine s_newa (n := 76) (wz := 76) (kd := 0) (N := 8) (sh' := (P ++ S_X4_init_75_1)) E G dX4_init_7 (Or.inl rfl) rfl aw_0 rfl (Nat.le_of_ble_eq_true rfl) (gL hP rfl) (gC hc (Nat.le_of_ble_eq_true rfl) (by decide +kernel)) (by decide) (by decide) (fun j => (Zr.mono hz (Nat.le_of_ble_eq_true rfl)) _ j (Int.le_refl _)) (hRM.le (Nat.le_of_ble_eq_true rfl) (Nat.le_of_ble_eq_true rfl)) rfl (gA rfl) (fun q7 => ?_)
  refine s_putR (kf := 0) (sh' := (P ++ S_X4_init_75_2)) E I dX4_init_9 rfl inb_X4 tyX4_ok nmX4 (Nat.le_of_ble_eq_true rfl) ⟨rfl, rfl⟩ fl_X4_9 (rf_nf (Or.inl rfl)) (by decide) (gP (n := 75) (k := 0) hP rfl) rfl (gS (n := 75) (k := 0) hP rfl) ?_
  refine s_aload_n E dX4_init_12 rfl ?_
  refine s_bipush E dX4_init_13 rfl ?_
  refine s_newa (n := 77) (wz := 77) (kd := 0) (N := 8) (sh' := (P ++ S_X4_init_75_3)) E G dX4_init_15 (Or.inl rfl) rfl aw_0 rfl (Nat.le_of_ble_eq_true rfl) (gL hP rfl) (gC hc (Nat.le_of_ble_eq_true rfl) (by decide +kernel)) (by decide) (by decide) (fun j => (Zr.mono hz (Nat.le_of_ble_eq_true rfl)) _ j (Int.le_refl _)) (hRM.le (Nat.le_of_ble_eq_true rfl) (Nat.le_of_ble_eq_true rfl)) rfl (gA rfl) (fun q15 => ?_)
  refine s_putR (kf := 1) (sh' := (P ++ S_X4_init_75_4)) E I dX4_init_17 rfl inb_X4 tyX4_ok nmX4 (Nat.le_of_ble_eq_true rfl) ⟨rfl, rfl⟩ fl_X4_15 (rf_nf (Or.inl rfl)) (by decide) (gP (n := 75) (k := 0) hP rfl) rfl (gS (n := 75) (k := 0) hP rfl) ?_
  refine s_aload_n E dX4_init_20 rfl ?_
  refine s_bipush E dX4_init_21 rfl ?_
  refine s_newa (n := 78) (wz := 78) (kd := 0) (N := 8) (sh' := (P ++ S_X4_init_75_5)) E G dX4_init_23 (Or.inl rfl) rfl aw_0 rfl (Nat.le_of_ble_eq_true rfl) (gL hP rfl) (gC hc (Nat.le_of_ble_eq_true rfl) (by decide +kernel)) (by decide) (by decide) (fun j => (Zr.mono hz (Nat.le_of_ble_eq_true rfl)) _ j (Int.le_refl _)) (hRM.le (Nat.le_of_ble_eq_true rfl) (Nat.le_of_ble_eq_true rfl)) rfl (gA rfl) (fun q23 => ?_)
  refine s_putR (kf := 2) (sh' := (P ++ S_X4_init_75_6)) E I dX4_init_25 rfl inb_X4 tyX4_ok nmX4 (Nat.le_of_ble_eq_true rfl) ⟨rfl, rfl⟩ fl_X4_18 (rf_nf (Or.inl rfl)) (by decide) (gP (n := 75) (k := 0) hP rfl) rfl (gS (n := 75) (k := 0) hP rfl) ?_
  refine s_aload_n E dX4_init_28 rfl ?_
  refine s_iconst E dX4_init_29 ?_
  refine s_putI (kf := 3) E 3 rfl dX4_init_30 rfl inb_X4 tyX4_ok nmX4 (Nat.le_of_ble_eq_true rfl) ⟨rfl, rfl⟩ fl_X4_21 (by decide) (gP (n := 75) (k := 0) hP rfl) rfl ?_
  refine hret _ _ ?_ ?_ _ _ dX4_init_33
  · repeat (first | exact ex0 | refine exa ?_)
  · funext k j
    unfold upm
    split
    · next h =>
      rw [h.1, h.2]
      exact (hz _ _ (by decide)).symm
    · rfl

set_option maxRecDepth 100000 in
set_option maxHeartbeats 4000000 in
theorem k_X5_20 (P : List Sh) (hP : P.length = 20) (hc : clo 20 P = true) (M : Mm) (hz : Zr M 20) : CtG yX5_init cX5_init 1 1 1 40 (P ++ S_X5_init_20_0) [rv 20] M (P ++ S_X5_init_20_2) (fun M' => M' = M) := by
  refine CtG.of rfl rfl (Nat.le_of_ble_eq_true rfl) (fun v as E G I hRM hret => ?_)
  show Ws v as (P ++ S_X5_init_20_0) 0 0 0 [some (rv 20)] [] M
  refine s_aload_n E dX5_init_0 rfl ?_
  refine s_objI E dX5_init_1 ml_X5_3 (Nat.le_of_ble_eq_true rfl) (Nat.le_of_ble_eq_true rfl) ?_
  refine s_aload_n E dX5_init_4 rfl ?_
  refine s_bipush E dX5_init_5 rfl ?_
  refine s_newa (n := 21) (wz := 21) (kd := 0) (N := 40) (sh' := (P ++ S_X5_init_20_1)) E G dX5_init_7 (Or.inl rfl) rfl aw_0 rfl (Nat.le_of_ble_eq_true rfl) (gL hP rfl) (gC hc (Nat.le_of_ble_eq_true rfl) (by decide +kernel)) (by decide) (by decide) (fun j => (Zr.mono hz (Nat.le_of_ble_eq_true rfl)) _ j (Int.le_refl _)) (hRM.le (Nat.le_of_ble_eq_true rfl) (Nat.le_of_ble_eq_true rfl)) rfl (gA rfl) (fun q7 => ?_)
  refine s_putR (kf := 0) (sh' := (P ++ S_X5_init_20_2)) E I dX5_init_9 rfl inb_X5 tyX5_ok nmX5 (Nat.le_of_ble_eq_true rfl) ⟨rfl, rfl⟩ fl_X5_9 (rf_nf (Or.inl rfl)) (by decide) (gP (n := 20) (k := 0) hP rfl) rfl (gS (n := 20) (k := 0) hP rfl) ?_
  refine s_aload_n E dX5_init_12 rfl ?_
  refine s_iconst E dX5_init_13 ?_
  refine s_putI (kf := 1) E 1 rfl dX5_init_14 rfl inb_X5 tyX5_ok nmX5 (Nat.le_of_ble_eq_true rfl) ⟨rfl, rfl⟩ fl_X5_15 (by decide) (gP (n := 20) (k := 0) hP rfl) rfl ?_
  refine hret _ _ ?_ ?_ _ _ dX5_init_17
  · repeat (first | exact ex0 | refine exa ?_)
  · funext k j
    unfold upm
    split
    · next h =>
      rw [h.1, h.2]
      exact (hz _ _ (by decide)).symm
    · rfl

set_option maxRecDepth 100000 in
set_option maxHeartbeats 4000000 in
theorem k_X0_29 (P : List Sh) (hP : P.length = 29) (hc : clo 29 P = true) (M : Mm) (hz : Zr M 29) : CtG yX0_init cX0_init 1 1 7 2586 (P ++ S_X0_init_29_0) [rv 29] M (P ++ S_X0_init_29_14) (fun M' => ∀ k, k ≠ 29 → M' k = M k) := by
  refine CtG.of rfl rfl (Nat.le_of_ble_eq_true rfl) (fun v as E G I hRM hret => ?_)
  show Ws v as (P ++ S_X0_init_29_0) 0 0 0 [some (rv 29)] [] M
  refine s_aload_n E dX0_init_0 rfl ?_
  refine s_objI E dX0_init_1 ml_X0_3 (Nat.le_of_ble_eq_true rfl) (Nat.le_of_ble_eq_true rfl) ?_
  refine s_aload_n E dX0_init_4 rfl ?_
  refine s_bipush E dX0_init_5 rfl ?_
  refine s_newa (n := 30) (wz := 30) (kd := 0) (N := 8) (sh' := (P ++ S_X0_init_29_1)) E G dX0_init_7 (Or.inl rfl) rfl aw_0 rfl (Nat.le_of_ble_eq_true rfl) (gL hP rfl) (gC hc (Nat.le_of_ble_eq_true rfl) (by decide +kernel)) (by decide) (by decide) (fun j => (Zr.mono hz (Nat.le_of_ble_eq_true rfl)) _ j (Int.le_refl _)) (hRM.le (Nat.le_of_ble_eq_true rfl) (Nat.le_of_ble_eq_true rfl)) rfl (gA rfl) (fun q7 => ?_)
  refine s_putR (kf := 0) (sh' := (P ++ S_X0_init_29_2)) E I dX0_init_9 rfl inb_X0 tyX0_ok nmX0 (Nat.le_of_ble_eq_true rfl) ⟨rfl, rfl⟩ fl_X0_9 (rf_nf (Or.inl rfl)) (by decide) (gP (n := 29) (k := 0) hP rfl) rfl (gS (n := 29) (k := 0) hP rfl) ?_
  refine s_aload_n E dX0_init_12 rfl ?_
  refine s_bipush E dX0_init_13 rfl ?_
  refine s_newa (n := 31) (wz := 31) (kd := 0) (N := 6) (sh' := (P ++ S_X0_init_29_3)) E G dX0_init_15 (Or.inl rfl) rfl aw_0 rfl (Nat.le_of_ble_eq_true rfl) (gL hP rfl) (gC hc (Nat.le_of_ble_eq_true rfl) (by decide +kernel)) (by decide) (by decide) (fun j => (Zr.mono hz (Nat.le_of_ble_eq_true rfl)) _ j (Int.le_refl _)) (hRM.le (Nat.le_of_ble_eq_true rfl) (Nat.le_of_ble_eq_true rfl)) rfl (gA rfl) (fun q15 => ?_)
  refine s_putR (kf := 1) (sh' := (P ++ S_X0_init_29_4)) E I dX0_init_17 rfl inb_X0 tyX0_ok nmX0 (Nat.le_of_ble_eq_true rfl) ⟨rfl, rfl⟩ fl_X0_15 (rf_nf (Or.inl rfl)) (by decide) (gP (n := 29) (k := 0) hP rfl) rfl (gS (n := 29) (k := 0) hP rfl) ?_
  refine s_aload_n E dX0_init_20 rfl ?_
  refine s_ldc E dX0_init_21 cst_X0_18 ?_
  refine s_putI (kf := 2) E 2 rfl dX0_init_23 rfl inb_X0 tyX0_ok nmX0 (Nat.le_of_ble_eq_true rfl) ⟨rfl, rfl⟩ fl_X0_19 (by decide) (gP (n := 29) (k := 0) hP rfl) rfl ?_
  refine s_aload_n E dX0_init_26 rfl ?_
  refine s_iconst E dX0_init_27 ?_
  refine s_putI (kf := 3) E 3 rfl dX0_init_28 rfl inb_X0 tyX0_ok nmX0 (Nat.le_of_ble_eq_true rfl) ⟨rfl, rfl⟩ fl_X0_23 (by decide) (gP (n := 29) (k := 0) hP rfl) rfl ?_
  refine s_aload_n E dX0_init_31 rfl ?_
  refine s_bipush E dX0_init_32 rfl ?_
  refine s_newa (n := 32) (wz := 32) (kd := 0) (N := 6) (sh' := (P ++ S_X0_init_29_5)) E G dX0_init_34 (Or.inl rfl) rfl aw_0 rfl (Nat.le_of_ble_eq_true rfl) (gL hP rfl) (gC hc (Nat.le_of_ble_eq_true rfl) (by decide +kernel)) (by decide) (by decide) (fun j => (Zr.mono (Zr.up (Zr.mono (m := 32) (Zr.up (Zr.mono (m := 32) hz (Nat.le_of_ble_eq_true rfl)) (by decide)) (Nat.le_of_ble_eq_true rfl)) (by decide)) (Nat.le_of_ble_eq_true rfl)) _ j (Int.le_refl _)) (hRM.le (Nat.le_of_ble_eq_true rfl) (Nat.le_of_ble_eq_true rfl)) rfl (gA rfl) (fun q34 => ?_)
  refine s_putR (kf := 4) (sh' := (P ++ S_X0_init_29_6)) E I dX0_init_36 rfl inb_X0 tyX0_ok nmX0 (Nat.le_of_ble_eq_true rfl) ⟨rfl, rfl⟩ fl_X0_26 (rf_nf (Or.inl rfl)) (by decide) (gP (n := 29) (k := 0) hP rfl) rfl (gS (n := 29) (k := 0) hP rfl) ?_
  refine s_aload_n E dX0_init_39 rfl ?_
  refine s_bipush E dX0_init_40 rfl ?_
  refine s_newa (n := 33) (wz := 33) (kd := 0) (N := 6) (sh' := (P ++ S_X0_init_29_7)) E G dX0_init_42 (Or.inl rfl) rfl aw_0 rfl (Nat.le_of_ble_eq_true rfl) (gL hP rfl) (gC hc (Nat.le_of_ble_eq_true rfl) (by decide +kernel)) (by decide) (by decide) (fun j => (Zr.mono (Zr.up (Zr.mono (m := 32) (Zr.up (Zr.mono (m := 32) hz (Nat.le_of_ble_eq_true rfl)) (by decide)) (Nat.le_of_ble_eq_true rfl)) (by decide)) (Nat.le_of_ble_eq_true rfl)) _ j (Int.le_refl _)) (hRM.le (Nat.le_of_ble_eq_true rfl) (Nat.le_of_ble_eq_true rfl)) rfl (gA rfl) (fun q42 => ?_)
  refine s_putR (kf := 5) (sh' := (P ++ S_X0_init_29_8)) E I dX0_init_44 rfl inb_X0 tyX0_ok nmX0 (Nat.le_of_ble_eq_true rfl) ⟨rfl, rfl⟩ fl_X0_29 (rf_nf (Or.inl rfl)) (by decide) (gP (n := 29) (k := 0) hP rfl) rfl (gS (n := 29) (k := 0) hP rfl) ?_
  refine s_aload_n E dX0_init_47 rfl ?_
  refine s_sipush E dX0_init_48 rfl ?_
  refine s_newa (n := 34) (wz := 34) (kd := 0) (N := 2048) (sh' := (P ++ S_X0_init_29_9)) E G dX0_init_51 (Or.inl rfl) rfl aw_0 rfl (Nat.le_of_ble_eq_true rfl) (gL hP rfl) (gC hc (Nat.le_of_ble_eq_true rfl) (by decide +kernel)) (by decide) (by decide) (fun j => (Zr.mono (Zr.up (Zr.mono (m := 32) (Zr.up (Zr.mono (m := 32) hz (Nat.le_of_ble_eq_true rfl)) (by decide)) (Nat.le_of_ble_eq_true rfl)) (by decide)) (Nat.le_of_ble_eq_true rfl)) _ j (Int.le_refl _)) (hRM.le (Nat.le_of_ble_eq_true rfl) (Nat.le_of_ble_eq_true rfl)) rfl (gA rfl) (fun q51 => ?_)
  refine s_putR (kf := 6) (sh' := (P ++ S_X0_init_29_10)) E I dX0_init_53 rfl inb_X0 tyX0_ok nmX0 (Nat.le_of_ble_eq_true rfl) ⟨rfl, rfl⟩ fl_X0_32 (rf_nf (Or.inl rfl)) (by decide) (gP (n := 29) (k := 0) hP rfl) rfl (gS (n := 29) (k := 0) hP rfl) ?_
  refine s_aload_n E dX0_init_56 rfl ?_
  refine s_sipush E dX0_init_57 rfl ?_
  refine s_newa (n := 35) (wz := 35) (kd := 0) (N := 256) (sh' := (P ++ S_X0_init_29_11)) E G dX0_init_60 (Or.inl rfl) rfl aw_0 rfl (Nat.le_of_ble_eq_true rfl) (gL hP rfl) (gC hc (Nat.le_of_ble_eq_true rfl) (by decide +kernel)) (by decide) (by decide) (fun j => (Zr.mono (Zr.up (Zr.mono (m := 32) (Zr.up (Zr.mono (m := 32) hz (Nat.le_of_ble_eq_true rfl)) (by decide)) (Nat.le_of_ble_eq_true rfl)) (by decide)) (Nat.le_of_ble_eq_true rfl)) _ j (Int.le_refl _)) (hRM.le (Nat.le_of_ble_eq_true rfl) (Nat.le_of_ble_eq_true rfl)) rfl (gA rfl) (fun q60 => ?_)
  refine s_putR (kf := 7) (sh' := (P ++ S_X0_init_29_12)) E I dX0_init_62 rfl inb_X0 tyX0_ok nmX0 (Nat.le_of_ble_eq_true rfl) ⟨rfl, rfl⟩ fl_X0_35 (rf_nf (Or.inl rfl)) (by decide) (gP (n := 29) (k := 0) hP rfl) rfl (gS (n := 29) (k := 0) hP rfl) ?_
  refine s_aload_n E dX0_init_65 rfl ?_
  refine s_sipush E dX0_init_66 rfl ?_
  refine s_newa (n := 36) (wz := 36) (kd := 1) (N := 256) (sh' := (P ++ S_X0_init_29_13)) E G dX0_init_69 (Or.inr rfl) rfl aw_1 rfl (Nat.le_of_ble_eq_true rfl) (gL hP rfl) (gC hc (Nat.le_of_ble_eq_true rfl) (by decide +kernel)) (by decide) (by decide) (fun j => (Zr.mono (Zr.up (Zr.mono (m := 32) (Zr.up (Zr.mono (m := 32) hz (Nat.le_of_ble_eq_true rfl)) (by decide)) (Nat.le_of_ble_eq_true rfl)) (by decide)) (Nat.le_of_ble_eq_true rfl)) _ j (Int.le_refl _)) (hRM.le (Nat.le_of_ble_eq_true rfl) (Nat.le_of_ble_eq_true rfl)) rfl (gA rfl) (fun q69 => ?_)
  refine s_putR (kf := 8) (sh' := (P ++ S_X0_init_29_14)) E I dX0_init_71 rfl inb_X0 tyX0_ok nmX0 (Nat.le_of_ble_eq_true rfl) ⟨rfl, rfl⟩ fl_X0_38 (rf_nf (Or.inr (Or.inl rfl))) (by decide) (gP (n := 29) (k := 0) hP rfl) rfl (gS (n := 29) (k := 0) hP rfl) ?_
  refine s_aload_n E dX0_init_74 rfl ?_
  refine s_iconst E dX0_init_75 ?_
  refine s_putI (kf := 9) E 9 rfl dX0_init_76 rfl inb_X0 tyX0_ok nmX0 (Nat.le_of_ble_eq_true rfl) ⟨rfl, rfl⟩ fl_X0_42 (by decide) (gP (n := 29) (k := 0) hP rfl) rfl ?_
  refine hret _ _ ?_ ?_ _ _ dX0_init_79
  · repeat (first | exact ex0 | refine exa ?_)
  · intro k hk
    repeat (rw [upm_row hk])

set_option maxRecDepth 100000 in
set_option maxHeartbeats 4000000 in
theorem k_X1_40 (P : List Sh) (hP : P.length = 40) (hc : clo 40 P = true) (M : Mm) (hz : Zr M 40) : CtG yX1_init cX1_init 1 1 4 36 (P ++ S_X1_init_40_0) [rv 40] M (P ++ S_X1_init_40_8) (fun M' => ∀ k, k ≠ 40 → M' k = M k) := by
  refine CtG.of rfl rfl (Nat.le_of_ble_eq_true rfl) (fun v as E G I hRM hret => ?_)
  show Ws v as (P ++ S_X1_init_40_0) 0 0 0 [some (rv 40)] [] M
  refine s_aload_n E dX1_init_0 rfl ?_
  refine s_objI E dX1_init_1 ml_X1_3 (Nat.le_of_ble_eq_true rfl) (Nat.le_of_ble_eq_true rfl) ?_
  refine s_aload_n E dX1_init_4 rfl ?_
  refine s_bipush E dX1_init_5 rfl ?_
  refine s_newa (n := 41) (wz := 41) (kd := 0) (N := 12) (sh' := (P ++ S_X1_init_40_1)) E G dX1_init_7 (Or.inl rfl) rfl aw_0 rfl (Nat.le_of_ble_eq_true rfl) (gL hP rfl) (gC hc (Nat.le_of_ble_eq_true rfl) (by decide +kernel)) (by decide) (by decide) (fun j => (Zr.mono hz (Nat.le_of_ble_eq_true rfl)) _ j (Int.le_refl _)) (hRM.le (Nat.le_of_ble_eq_true rfl) (Nat.le_of_ble_eq_true rfl)) rfl (gA rfl) (fun q7 => ?_)
  refine s_putR (kf := 0) (sh' := (P ++ S_X1_init_40_2)) E I dX1_init_9 rfl inb_X1 tyX1_ok nmX1 (Nat.le_of_ble_eq_true rfl) ⟨rfl, rfl⟩ fl_X1_9 (rf_nf (Or.inl rfl)) (by decide) (gP (n := 40) (k := 0) hP rfl) rfl (gS (n := 40) (k := 0) hP rfl) ?_
  refine s_aload_n E dX1_init_12 rfl ?_
  refine s_iconst E dX1_init_13 ?_
  refine s_putI (kf := 1) E 1 rfl dX1_init_14 rfl inb_X1 tyX1_ok nmX1 (Nat.le_of_ble_eq_true rfl) ⟨rfl, rfl⟩ fl_X1_15 (by decide) (gP (n := 40) (k := 0) hP rfl) rfl ?_
  refine s_aload_n E dX1_init_17 rfl ?_
  refine s_bipush E dX1_init_18 rfl ?_
  refine s_newa (n := 42) (wz := 42) (kd := 0) (N := 12) (sh' := (P ++ S_X1_init_40_3)) E G dX1_init_20 (Or.inl rfl) rfl aw_0 rfl (Nat.le_of_ble_eq_true rfl) (gL hP rfl) (gC hc (Nat.le_of_ble_eq_true rfl) (by decide +kernel)) (by decide) (by decide) (fun j => (Zr.mono (Zr.up (Zr.mono (m := 42) hz (Nat.le_of_ble_eq_true rfl)) (by decide)) (Nat.le_of_ble_eq_true rfl)) _ j (Int.le_refl _)) (hRM.le (Nat.le_of_ble_eq_true rfl) (Nat.le_of_ble_eq_true rfl)) rfl (gA rfl) (fun q20 => ?_)
  refine s_putR (kf := 2) (sh' := (P ++ S_X1_init_40_4)) E I dX1_init_22 rfl inb_X1 tyX1_ok nmX1 (Nat.le_of_ble_eq_true rfl) ⟨rfl, rfl⟩ fl_X1_19 (rf_nf (Or.inl rfl)) (by decide) (gP (n := 40) (k := 0) hP rfl) rfl (gS (n := 40) (k := 0) hP rfl) ?_
  refine s_aload_n E dX1_init_25 rfl ?_
  refine s_bipush E dX1_init_26 rfl ?_
  refine s_newa (n := 43) (wz := 43) (kd := 0) (N := 6) (sh' := (P ++ S_X1_init_40_5)) E G dX1_init_28 (Or.inl rfl) rfl aw_0 rfl (Nat.le_of_ble_eq_true rfl) (gL hP rfl) (gC hc (Nat.le_of_ble_eq_true rfl) (by decide +kernel)) (by decide) (by decide) (fun j => (Zr.mono (Zr.up (Zr.mono (m := 42) hz (Nat.le_of_ble_eq_true rfl)) (by decide)) (Nat.le_of_ble_eq_true rfl)) _ j (Int.le_refl _)) (hRM.le (Nat.le_of_ble_eq_true rfl) (Nat.le_of_ble_eq_true rfl)) rfl (gA rfl) (fun q28 => ?_)
  refine s_putR (kf := 3) (sh' := (P ++ S_X1_init_40_6)) E I dX1_init_30 rfl inb_X1 tyX1_ok nmX1 (Nat.le_of_ble_eq_true rfl) ⟨rfl, rfl⟩ fl_X1_22 (rf_nf (Or.inl rfl)) (by decide) (gP (n := 40) (k := 0) hP rfl) rfl (gS (n := 40) (k := 0) hP rfl) ?_
  refine s_aload_n E dX1_init_33 rfl ?_
  refine s_bipush E dX1_init_34 rfl ?_
  refine s_newa (n := 44) (wz := 44) (kd := 0) (N := 6) (sh' := (P ++ S_X1_init_40_7)) E G dX1_init_36 (Or.inl rfl) rfl aw_0 rfl (Nat.le_of_ble_eq_true rfl) (gL hP rfl) (gC hc (Nat.le_of_ble_eq_true rfl) (by decide +kernel)) (by decide) (by decide) (fun j => (Zr.mono (Zr.up (Zr.mono (m := 42) hz (Nat.le_of_ble_eq_true rfl)) (by decide)) (Nat.le_of_ble_eq_true rfl)) _ j (Int.le_refl _)) (hRM.le (Nat.le_of_ble_eq_true rfl) (Nat.le_of_ble_eq_true rfl)) rfl (gA rfl) (fun q36 => ?_)
  refine s_putR (kf := 4) (sh' := (P ++ S_X1_init_40_8)) E I dX1_init_38 rfl inb_X1 tyX1_ok nmX1 (Nat.le_of_ble_eq_true rfl) ⟨rfl, rfl⟩ fl_X1_25 (rf_nf (Or.inl rfl)) (by decide) (gP (n := 40) (k := 0) hP rfl) rfl (gS (n := 40) (k := 0) hP rfl) ?_
  refine hret _ _ ?_ ?_ _ _ dX1_init_41
  · repeat (first | exact ex0 | refine exa ?_)
  · intro k hk
    repeat (rw [upm_row hk])

set_option maxRecDepth 100000 in
set_option maxHeartbeats 4000000 in
theorem k_X6_22 (P : List Sh) (hP : P.length = 22) (hc : clo 22 P = true) (M : Mm) (hz : Zr M 22) : CtG yX6_init cX6_init 1 1 6 34 (P ++ S_X6_init_22_0) [rv 22] M (P ++ S_X6_init_22_4) (fun M' => ∀ k, k ≠ 22 → M' k = M k) := by
  refine CtG.of rfl rfl (Nat.le_of_ble_eq_true rfl) (fun v as E G I hRM hret => ?_)
  show Ws v as (P ++ S_X6_init_22_0) 0 0 0 [some (rv 22)] [] M
  refine s_aload_n E dX6_init_0 rfl ?_
  refine s_objI E dX6_init_1 ml_X6_3 (Nat.le_of_ble_eq_true rfl) (Nat.le_of_ble_eq_true rfl) ?_
  refine s_aload_n E dX6_init_4 rfl ?_
  refine s_iconst E dX6_init_5 ?_
  refine s_bipush E dX6_init_6 rfl ?_
  refine s_mna (n := 23) (wz := 23) (N := 4) (K := 6) (r0 := 24) (sh' := (P ++ S_X6_init_22_1)) E G dX6_init_8 cl_X6_9 aw_0 rfl rfl (Nat.le_of_ble_eq_true rfl) (Nat.le_of_ble_eq_true rfl) (gL hP rfl) (gC hc (Nat.le_of_ble_eq_true rfl) (by decide +kernel)) (by decide) (by decide) (fun i j h => (Zr.mono hz (Nat.le_of_ble_eq_true rfl)) i j (Int.le_of_lt h)) rfl (hRM.le (Nat.le_of_ble_eq_true rfl) (Nat.le_of_ble_eq_true rfl)) rfl (gA rfl) (fun q8 => ?_)
  refine s_putR (kf := 0) (sh' := (P ++ S_X6_init_22_2)) E I dX6_init_12 rfl inb_X6 tyX6_ok nmX6 (Nat.le_of_ble_eq_true rfl) ⟨rfl, rfl⟩ fl_X6_11 (rf_nf (Or.inr (Or.inr (Or.inl rfl)))) (by decide) (gP (n := 22) (k := 0) hP rfl) rfl (gS (n := 22) (k := 0) hP rfl) ?_
  refine s_aload_n E dX6_init_15 rfl ?_
  refine s_bipush E dX6_init_16 rfl ?_
  refine s_newa (n := 28) (wz := 28) (kd := 0) (N := 6) (sh' := (P ++ S_X6_init_22_3)) E G dX6_init_18 (Or.inl rfl) rfl aw_0 rfl (Nat.le_of_ble_eq_true rfl) (gL hP rfl) (gC hc (Nat.le_of_ble_eq_true rfl) (by decide +kernel)) (by decide) (by decide) (fun j => (Zr.mono hz (Nat.le_of_ble_eq_true rfl)) _ j (Int.le_refl _)) (hRM.le (Nat.le_of_ble_eq_true rfl) (Nat.le_of_ble_eq_true rfl)) rfl (gA rfl) (fun q18 => ?_)
  refine s_putR (kf := 1) (sh' := (P ++ S_X6_init_22_4)) E I dX6_init_20 rfl inb_X6 tyX6_ok nmX6 (Nat.le_of_ble_eq_true rfl) ⟨rfl, rfl⟩ fl_X6_16 (rf_nf (Or.inl rfl)) (by decide) (gP (n := 22) (k := 0) hP rfl) rfl (gS (n := 22) (k := 0) hP rfl) ?_
  refine s_aload_n E dX6_init_23 rfl ?_
  refine s_iconst E dX6_init_24 ?_
  refine s_putI (kf := 2) E 2 rfl dX6_init_25 rfl inb_X6 tyX6_ok nmX6 (Nat.le_of_ble_eq_true rfl) ⟨rfl, rfl⟩ fl_X6_20 (by decide) (gP (n := 22) (k := 0) hP rfl) rfl ?_
  refine s_aload_n E dX6_init_28 rfl ?_
  refine s_iconst E dX6_init_29 ?_
  refine s_putI (kf := 3) E 3 rfl dX6_init_30 rfl inb_X6 tyX6_ok nmX6 (Nat.le_of_ble_eq_true rfl) ⟨rfl, rfl⟩ fl_X6_24 (by decide) (gP (n := 22) (k := 0) hP rfl) rfl ?_
  refine s_aload_n E dX6_init_33 rfl ?_
  refine s_bipush E dX6_init_34 rfl ?_
  refine s_putI (kf := 4) E 4 rfl dX6_init_36 rfl inb_X6 tyX6_ok nmX6 (Nat.le_of_ble_eq_true rfl) ⟨rfl, rfl⟩ fl_X6_27 (by decide) (gP (n := 22) (k := 0) hP rfl) rfl ?_
  refine hret _ _ ?_ ?_ _ _ dX6_init_39
  · repeat (first | exact ex0 | refine exa ?_)
  · intro k hk
    repeat (rw [upm_row hk])
