/-! ===== images ===== -/
/-- the rows of the rows' array o0 copied to those of o1 -/
def cpR (M : Mm) (o0 o1 n : Int) : Mm := fun k j => if o1 + 1 ≤ k ∧ k < o1 + 1 + n ∧ 0 ≤ j ∧ j < 6 then M (k - o1 + o0) j else M k j
theorem cpR_0 {M : Mm} {o0 o1 : Int} : M = cpR M o0 o1 0 := by
  funext k j
  exact (if_neg (by omega)).symm
theorem cpR_go {M : Mm} {o0 o1 i : Int} (hi : 0 ≤ i) (h : ∀ q, 0 ≤ q → q < i → o0 + 1 + i ≠ o1 + 1 + q) : cp0 (cpR M o0 o1 i) (o0 + 1 + i) (o1 + 1 + i) 6 = cpR M o0 o1 (i + 1) := by
  funext k j
  unfold cp0
  by_cases e : k = o1 + 1 + i ∧ 0 ≤ j ∧ j < 6
  · obtain ⟨e1, e2, e3⟩ := e
    subst e1
    rw [if_pos ⟨rfl, e2, e3⟩]
    unfold cpR
    rw [if_neg (fun q => h (o0 + 1 + i - (o1 + 1)) (by omega) (by omega) (by omega)), if_pos (by omega)]
    congr 1
    omega
  · rw [if_neg e]
    unfold cpR
    by_cases f : o1 + 1 ≤ k ∧ k < o1 + 1 + i ∧ 0 ≤ j ∧ j < 6
    · rw [if_pos f, if_pos (by omega)]
    · rw [if_neg f, if_neg (by omega)]

set_option maxRecDepth 100000 in
set_option maxHeartbeats 4000000 in
theorem lp_cpR_2_23 {v : Ev} {as : List Nat} (M : Mm) (E : Cx v cX7_copyRows 4 yX7_copyRows.cls 2) (hret : RetV v as cX7_copyRows (fun M' => M' = cpR M 2 23 4)) : ∀ (N : Nat) (i : Int), (4 - i).toNat < N → (0 ≤ i ∧ i ≤ 4) → Ws v as SH 0 0 2 [some (rv 2), some (rv 23), some (iv 4), some (iv i)] [] (cpR M 2 23 i) := by
  intro N
  induction N with
  | zero =>
    intro i hN
    exact absurd hN (Nat.not_lt_zero _)
  | succ N ih =>
    intro i hN g0
    refine s_iload_n E dX7_copyRows_2 rfl ?_
    refine s_iload_n E dX7_copyRows_3 rfl ?_
    refine s_icmp_ge E 26 dX7_copyRows_4 (by decide) (by omega) (by omega) (fun h4 => ?_) (fun h4 => ?_)
    · refine hret _ ?_ _ _ dX7_copyRows_26
      rw [show i = 4 by omega]
    · refine s_aload_n E dX7_copyRows_7 rfl ?_
      refine s_iload_n E dX7_copyRows_8 rfl ?_
      refine s_aaldR (r0 := 3) (n := 4) E dX7_copyRows_9 (by decide) sh2 (Nat.le_of_ble_eq_true rfl) (by omega) ?_
      refine s_iconst E dX7_copyRows_10 ?_
      refine s_aload_n E dX7_copyRows_11 rfl ?_
      refine s_iload_n E dX7_copyRows_12 rfl ?_
      refine s_aaldR (r0 := 24) (n := 4) E dX7_copyRows_13 (by decide) sh23 (Nat.le_of_ble_eq_true rfl) (by omega) ?_
      refine s_iconst E dX7_copyRows_14 ?_
      refine s_bipush E dX7_copyRows_15 rfl ?_
      refine s_copy E dX7_copyRows_17 ml_X7_217 mw_copy (Nat.le_of_ble_eq_true rfl) (Nat.le_of_ble_eq_true rfl) (by omega) (by omega) (shr2 (by omega)) (shr23 (by omega)) (by decide) ?_
      refine s_iinc (ls' := [_, _, _, _]) E dX7_copyRows_20 rfl rfl ?_
      refine s_goto E 2 dX7_copyRows_23 (by decide) ?_
      have e := cpR_go (M := M) (o0 := 2) (o1 := 23) (i := i) (by omega) (by intro q h1 h2; omega)
      rw [show (2 : Int) + 1 + i = 3 + i by omega, show (23 : Int) + 1 + i = 24 + i by omega] at e
      rw [e]
      exact ih _ (by omega) (by omega)
set_option maxRecDepth 100000 in
set_option maxHeartbeats 4000000 in
theorem c_cpR_2_23 (M : Mm) : CtV yX7_copyRows cX7_copyRows 4 2 SH [rv 2, rv 23, iv 4] M (fun M' => M' = cpR M 2 23 4) := by
  refine CtV.of rfl (Nat.le_of_ble_eq_true rfl) (fun v as E hret => ?_)
  show Ws v as SH 0 0 0 [some (rv 2), some (rv 23), some (iv 4), none] [] M
  refine s_iconst E dX7_copyRows_0 ?_
  refine s_istore_n (ls' := [_, _, _, _]) E dX7_copyRows_1 (Nat.le_of_ble_eq_true rfl) rfl ?_
  rw [cpR_0 (M := M) (o0 := 2) (o1 := 23)]
  exact lp_cpR_2_23 M E hret 5 0 (by decide) (by decide)

set_option maxRecDepth 100000 in
set_option maxHeartbeats 4000000 in
theorem lp_cpR_23_2 {v : Ev} {as : List Nat} (M : Mm) (E : Cx v cX7_copyRows 4 yX7_copyRows.cls 2) (hret : RetV v as cX7_copyRows (fun M' => M' = cpR M 23 2 4)) : ∀ (N : Nat) (i : Int), (4 - i).toNat < N → (0 ≤ i ∧ i ≤ 4) → Ws v as SH 0 0 2 [some (rv 23), some (rv 2), some (iv 4), some (iv i)] [] (cpR M 23 2 i) := by
  intro N
  induction N with
  | zero =>
    intro i hN
    exact absurd hN (Nat.not_lt_zero _)
  | succ N ih =>
    intro i hN g0
    refine s_iload_n E dX7_copyRows_2 rfl ?_
    refine s_iload_n E dX7_copyRows_3 rfl ?_
    refine s_icmp_ge E 26 dX7_copyRows_4 (by decide) (by omega) (by omega) (fun h4 => ?_) (fun h4 => ?_)
    · refine hret _ ?_ _ _ dX7_copyRows_26
      rw [show i = 4 by omega]
    · refine s_aload_n E dX7_copyRows_7 rfl ?_
      refine s_iload_n E dX7_copyRows_8 rfl ?_
      refine s_aaldR (r0 := 24) (n := 4) E dX7_copyRows_9 (by decide) sh23 (Nat.le_of_ble_eq_true rfl) (by omega) ?_
      refine s_iconst E dX7_copyRows_10 ?_
      refine s_aload_n E dX7_copyRows_11 rfl ?_
      refine s_iload_n E dX7_copyRows_12 rfl ?_
      refine s_aaldR (r0 := 3) (n := 4) E dX7_copyRows_13 (by decide) sh2 (Nat.le_of_ble_eq_true rfl) (by omega) ?_
      refine s_iconst E dX7_copyRows_14 ?_
      refine s_bipush E dX7_copyRows_15 rfl ?_
      refine s_copy E dX7_copyRows_17 ml_X7_217 mw_copy (Nat.le_of_ble_eq_true rfl) (Nat.le_of_ble_eq_true rfl) (by omega) (by omega) (shr23 (by omega)) (shr2 (by omega)) (by decide) ?_
      refine s_iinc (ls' := [_, _, _, _]) E dX7_copyRows_20 rfl rfl ?_
      refine s_goto E 2 dX7_copyRows_23 (by decide) ?_
      have e := cpR_go (M := M) (o0 := 23) (o1 := 2) (i := i) (by omega) (by intro q h1 h2; omega)
      rw [show (23 : Int) + 1 + i = 24 + i by omega, show (2 : Int) + 1 + i = 3 + i by omega] at e
      rw [e]
      exact ih _ (by omega) (by omega)
set_option maxRecDepth 100000 in
set_option maxHeartbeats 4000000 in
theorem c_cpR_23_2 (M : Mm) : CtV yX7_copyRows cX7_copyRows 4 2 SH [rv 23, rv 2, iv 4] M (fun M' => M' = cpR M 23 2 4) := by
  refine CtV.of rfl (Nat.le_of_ble_eq_true rfl) (fun v as E hret => ?_)
  show Ws v as SH 0 0 0 [some (rv 23), some (rv 2), some (iv 4), none] [] M
  refine s_iconst E dX7_copyRows_0 ?_
  refine s_istore_n (ls' := [_, _, _, _]) E dX7_copyRows_1 (Nat.le_of_ble_eq_true rfl) rfl ?_
  rw [cpR_0 (M := M) (o0 := 23) (o1 := 2)]
  exact lp_cpR_23_2 M E hret 5 0 (by decide) (by decide)

set_option maxRecDepth 100000 in
set_option maxHeartbeats 4000000 in
theorem lp_cpR_2_46 {v : Ev} {as : List Nat} (M : Mm) (E : Cx v cX7_copyRows 4 yX7_copyRows.cls 2) (hret : RetV v as cX7_copyRows (fun M' => M' = cpR M 2 46 4)) : ∀ (N : Nat) (i : Int), (4 - i).toNat < N → (0 ≤ i ∧ i ≤ 4) → Ws v as SH 0 0 2 [some (rv 2), some (rv 46), some (iv 4), some (iv i)] [] (cpR M 2 46 i) := by
  intro N
  induction N with
  | zero =>
    intro i hN
    exact absurd hN (Nat.not_lt_zero _)
  | succ N ih =>
    intro i hN g0
    refine s_iload_n E dX7_copyRows_2 rfl ?_
    refine s_iload_n E dX7_copyRows_3 rfl ?_
    refine s_icmp_ge E 26 dX7_copyRows_4 (by decide) (by omega) (by omega) (fun h4 => ?_) (fun h4 => ?_)
    · refine hret _ ?_ _ _ dX7_copyRows_26
      rw [show i = 4 by omega]
    · refine s_aload_n E dX7_copyRows_7 rfl ?_
      refine s_iload_n E dX7_copyRows_8 rfl ?_
      refine s_aaldR (r0 := 3) (n := 4) E dX7_copyRows_9 (by decide) sh2 (Nat.le_of_ble_eq_true rfl) (by omega) ?_
      refine s_iconst E dX7_copyRows_10 ?_
      refine s_aload_n E dX7_copyRows_11 rfl ?_
      refine s_iload_n E dX7_copyRows_12 rfl ?_
      refine s_aaldR (r0 := 47) (n := 4) E dX7_copyRows_13 (by decide) sh46 (Nat.le_of_ble_eq_true rfl) (by omega) ?_
      refine s_iconst E dX7_copyRows_14 ?_
      refine s_bipush E dX7_copyRows_15 rfl ?_
      refine s_copy E dX7_copyRows_17 ml_X7_217 mw_copy (Nat.le_of_ble_eq_true rfl) (Nat.le_of_ble_eq_true rfl) (by omega) (by omega) (shr2 (by omega)) (shr46 (by omega)) (by decide) ?_
      refine s_iinc (ls' := [_, _, _, _]) E dX7_copyRows_20 rfl rfl ?_
      refine s_goto E 2 dX7_copyRows_23 (by decide) ?_
      have e := cpR_go (M := M) (o0 := 2) (o1 := 46) (i := i) (by omega) (by intro q h1 h2; omega)
      rw [show (2 : Int) + 1 + i = 3 + i by omega, show (46 : Int) + 1 + i = 47 + i by omega] at e
      rw [e]
      exact ih _ (by omega) (by omega)
set_option maxRecDepth 100000 in
set_option maxHeartbeats 4000000 in
theorem c_cpR_2_46 (M : Mm) : CtV yX7_copyRows cX7_copyRows 4 2 SH [rv 2, rv 46, iv 4] M (fun M' => M' = cpR M 2 46 4) := by
  refine CtV.of rfl (Nat.le_of_ble_eq_true rfl) (fun v as E hret => ?_)
  show Ws v as SH 0 0 0 [some (rv 2), some (rv 46), some (iv 4), none] [] M
  refine s_iconst E dX7_copyRows_0 ?_
  refine s_istore_n (ls' := [_, _, _, _]) E dX7_copyRows_1 (Nat.le_of_ble_eq_true rfl) rfl ?_
  rw [cpR_0 (M := M) (o0 := 2) (o1 := 46)]
  exact lp_cpR_2_46 M E hret 5 0 (by decide) (by decide)

set_option maxRecDepth 100000 in
set_option maxHeartbeats 4000000 in
theorem lp_cpR_7_51 {v : Ev} {as : List Nat} (M : Mm) (E : Cx v cX7_copyRows 4 yX7_copyRows.cls 2) (hret : RetV v as cX7_copyRows (fun M' => M' = cpR M 7 51 6)) : ∀ (N : Nat) (i : Int), (6 - i).toNat < N → (0 ≤ i ∧ i ≤ 6) → Ws v as SH 0 0 2 [some (rv 7), some (rv 51), some (iv 6), some (iv i)] [] (cpR M 7 51 i) := by
  intro N
  induction N with
  | zero =>
    intro i hN
    exact absurd hN (Nat.not_lt_zero _)
  | succ N ih =>
    intro i hN g0
    refine s_iload_n E dX7_copyRows_2 rfl ?_
    refine s_iload_n E dX7_copyRows_3 rfl ?_
    refine s_icmp_ge E 26 dX7_copyRows_4 (by decide) (by omega) (by omega) (fun h4 => ?_) (fun h4 => ?_)
    · refine hret _ ?_ _ _ dX7_copyRows_26
      rw [show i = 6 by omega]
    · refine s_aload_n E dX7_copyRows_7 rfl ?_
      refine s_iload_n E dX7_copyRows_8 rfl ?_
      refine s_aaldR (r0 := 8) (n := 6) E dX7_copyRows_9 (by decide) sh7 (Nat.le_of_ble_eq_true rfl) (by omega) ?_
      refine s_iconst E dX7_copyRows_10 ?_
      refine s_aload_n E dX7_copyRows_11 rfl ?_
      refine s_iload_n E dX7_copyRows_12 rfl ?_
      refine s_aaldR (r0 := 52) (n := 6) E dX7_copyRows_13 (by decide) sh51 (Nat.le_of_ble_eq_true rfl) (by omega) ?_
      refine s_iconst E dX7_copyRows_14 ?_
      refine s_bipush E dX7_copyRows_15 rfl ?_
      refine s_copy E dX7_copyRows_17 ml_X7_217 mw_copy (Nat.le_of_ble_eq_true rfl) (Nat.le_of_ble_eq_true rfl) (by omega) (by omega) (shr7 (by omega)) (shr51 (by omega)) (by decide) ?_
      refine s_iinc (ls' := [_, _, _, _]) E dX7_copyRows_20 rfl rfl ?_
      refine s_goto E 2 dX7_copyRows_23 (by decide) ?_
      have e := cpR_go (M := M) (o0 := 7) (o1 := 51) (i := i) (by omega) (by intro q h1 h2; omega)
      rw [show (7 : Int) + 1 + i = 8 + i by omega, show (51 : Int) + 1 + i = 52 + i by omega] at e
      rw [e]
      exact ih _ (by omega) (by omega)
set_option maxRecDepth 100000 in
set_option maxHeartbeats 4000000 in
theorem c_cpR_7_51 (M : Mm) : CtV yX7_copyRows cX7_copyRows 4 2 SH [rv 7, rv 51, iv 6] M (fun M' => M' = cpR M 7 51 6) := by
  refine CtV.of rfl (Nat.le_of_ble_eq_true rfl) (fun v as E hret => ?_)
  show Ws v as SH 0 0 0 [some (rv 7), some (rv 51), some (iv 6), none] [] M
  refine s_iconst E dX7_copyRows_0 ?_
  refine s_istore_n (ls' := [_, _, _, _]) E dX7_copyRows_1 (Nat.le_of_ble_eq_true rfl) rfl ?_
  rw [cpR_0 (M := M) (o0 := 7) (o1 := 51)]
  exact lp_cpR_7_51 M E hret 7 0 (by decide) (by decide)

set_option maxRecDepth 100000 in
set_option maxHeartbeats 4000000 in
theorem lp_cpR_2_63 {v : Ev} {as : List Nat} (M : Mm) (E : Cx v cX7_copyRows 4 yX7_copyRows.cls 2) (hret : RetV v as cX7_copyRows (fun M' => M' = cpR M 2 63 4)) : ∀ (N : Nat) (i : Int), (4 - i).toNat < N → (0 ≤ i ∧ i ≤ 4) → Ws v as SH 0 0 2 [some (rv 2), some (rv 63), some (iv 4), some (iv i)] [] (cpR M 2 63 i) := by
  intro N
  induction N with
  | zero =>
    intro i hN
    exact absurd hN (Nat.not_lt_zero _)
  | succ N ih =>
    intro i hN g0
    refine s_iload_n E dX7_copyRows_2 rfl ?_
    refine s_iload_n E dX7_copyRows_3 rfl ?_
    refine s_icmp_ge E 26 dX7_copyRows_4 (by decide) (by omega) (by omega) (fun h4 => ?_) (fun h4 => ?_)
    · refine hret _ ?_ _ _ dX7_copyRows_26
      rw [show i = 4 by omega]
    · refine s_aload_n E dX7_copyRows_7 rfl ?_
      refine s_iload_n E dX7_copyRows_8 rfl ?_
      refine s_aaldR (r0 := 3) (n := 4) E dX7_copyRows_9 (by decide) sh2 (Nat.le_of_ble_eq_true rfl) (by omega) ?_
      refine s_iconst E dX7_copyRows_10 ?_
      refine s_aload_n E dX7_copyRows_11 rfl ?_
      refine s_iload_n E dX7_copyRows_12 rfl ?_
      refine s_aaldR (r0 := 64) (n := 4) E dX7_copyRows_13 (by decide) sh63 (Nat.le_of_ble_eq_true rfl) (by omega) ?_
      refine s_iconst E dX7_copyRows_14 ?_
      refine s_bipush E dX7_copyRows_15 rfl ?_
      refine s_copy E dX7_copyRows_17 ml_X7_217 mw_copy (Nat.le_of_ble_eq_true rfl) (Nat.le_of_ble_eq_true rfl) (by omega) (by omega) (shr2 (by omega)) (shr63 (by omega)) (by decide) ?_
      refine s_iinc (ls' := [_, _, _, _]) E dX7_copyRows_20 rfl rfl ?_
      refine s_goto E 2 dX7_copyRows_23 (by decide) ?_
      have e := cpR_go (M := M) (o0 := 2) (o1 := 63) (i := i) (by omega) (by intro q h1 h2; omega)
      rw [show (2 : Int) + 1 + i = 3 + i by omega, show (63 : Int) + 1 + i = 64 + i by omega] at e
      rw [e]
      exact ih _ (by omega) (by omega)
set_option maxRecDepth 100000 in
set_option maxHeartbeats 4000000 in
theorem c_cpR_2_63 (M : Mm) : CtV yX7_copyRows cX7_copyRows 4 2 SH [rv 2, rv 63, iv 4] M (fun M' => M' = cpR M 2 63 4) := by
  refine CtV.of rfl (Nat.le_of_ble_eq_true rfl) (fun v as E hret => ?_)
  show Ws v as SH 0 0 0 [some (rv 2), some (rv 63), some (iv 4), none] [] M
  refine s_iconst E dX7_copyRows_0 ?_
  refine s_istore_n (ls' := [_, _, _, _]) E dX7_copyRows_1 (Nat.le_of_ble_eq_true rfl) rfl ?_
  rw [cpR_0 (M := M) (o0 := 2) (o1 := 63)]
  exact lp_cpR_2_63 M E hret 5 0 (by decide) (by decide)

set_option maxRecDepth 100000 in
set_option maxHeartbeats 4000000 in
theorem lp_cpR_7_68 {v : Ev} {as : List Nat} (M : Mm) (E : Cx v cX7_copyRows 4 yX7_copyRows.cls 2) (hret : RetV v as cX7_copyRows (fun M' => M' = cpR M 7 68 6)) : ∀ (N : Nat) (i : Int), (6 - i).toNat < N → (0 ≤ i ∧ i ≤ 6) → Ws v as SH 0 0 2 [some (rv 7), some (rv 68), some (iv 6), some (iv i)] [] (cpR M 7 68 i) := by
  intro N
  induction N with
  | zero =>
    intro i hN
    exact absurd hN (Nat.not_lt_zero _)
  | succ N ih =>
    intro i hN g0
    refine s_iload_n E dX7_copyRows_2 rfl ?_
    refine s_iload_n E dX7_copyRows_3 rfl ?_
    refine s_icmp_ge E 26 dX7_copyRows_4 (by decide) (by omega) (by omega) (fun h4 => ?_) (fun h4 => ?_)
    · refine hret _ ?_ _ _ dX7_copyRows_26
      rw [show i = 6 by omega]
    · refine s_aload_n E dX7_copyRows_7 rfl ?_
      refine s_iload_n E dX7_copyRows_8 rfl ?_
      refine s_aaldR (r0 := 8) (n := 6) E dX7_copyRows_9 (by decide) sh7 (Nat.le_of_ble_eq_true rfl) (by omega) ?_
      refine s_iconst E dX7_copyRows_10 ?_
      refine s_aload_n E dX7_copyRows_11 rfl ?_
      refine s_iload_n E dX7_copyRows_12 rfl ?_
      refine s_aaldR (r0 := 69) (n := 6) E dX7_copyRows_13 (by decide) sh68 (Nat.le_of_ble_eq_true rfl) (by omega) ?_
      refine s_iconst E dX7_copyRows_14 ?_
      refine s_bipush E dX7_copyRows_15 rfl ?_
      refine s_copy E dX7_copyRows_17 ml_X7_217 mw_copy (Nat.le_of_ble_eq_true rfl) (Nat.le_of_ble_eq_true rfl) (by omega) (by omega) (shr7 (by omega)) (shr68 (by omega)) (by decide) ?_
      refine s_iinc (ls' := [_, _, _, _]) E dX7_copyRows_20 rfl rfl ?_
      refine s_goto E 2 dX7_copyRows_23 (by decide) ?_
      have e := cpR_go (M := M) (o0 := 7) (o1 := 68) (i := i) (by omega) (by intro q h1 h2; omega)
      rw [show (7 : Int) + 1 + i = 8 + i by omega, show (68 : Int) + 1 + i = 69 + i by omega] at e
      rw [e]
      exact ih _ (by omega) (by omega)
set_option maxRecDepth 100000 in
set_option maxHeartbeats 4000000 in
theorem c_cpR_7_68 (M : Mm) : CtV yX7_copyRows cX7_copyRows 4 2 SH [rv 7, rv 68, iv 6] M (fun M' => M' = cpR M 7 68 6) := by
  refine CtV.of rfl (Nat.le_of_ble_eq_true rfl) (fun v as E hret => ?_)
  show Ws v as SH 0 0 0 [some (rv 7), some (rv 68), some (iv 6), none] [] M
  refine s_iconst E dX7_copyRows_0 ?_
  refine s_istore_n (ls' := [_, _, _, _]) E dX7_copyRows_1 (Nat.le_of_ble_eq_true rfl) rfl ?_
  rw [cpR_0 (M := M) (o0 := 7) (o1 := 68)]
  exact lp_cpR_7_68 M E hret 7 0 (by decide) (by decide)

set_option maxRecDepth 100000 in
set_option maxHeartbeats 4000000 in
theorem lp_cpR_46_2 {v : Ev} {as : List Nat} (M : Mm) (E : Cx v cX7_copyRows 4 yX7_copyRows.cls 2) (hret : RetV v as cX7_copyRows (fun M' => M' = cpR M 46 2 4)) : ∀ (N : Nat) (i : Int), (4 - i).toNat < N → (0 ≤ i ∧ i ≤ 4) → Ws v as SH 0 0 2 [some (rv 46), some (rv 2), some (iv 4), some (iv i)] [] (cpR M 46 2 i) := by
  intro N
  induction N with
  | zero =>
    intro i hN
    exact absurd hN (Nat.not_lt_zero _)
  | succ N ih =>
    intro i hN g0
    refine s_iload_n E dX7_copyRows_2 rfl ?_
    refine s_iload_n E dX7_copyRows_3 rfl ?_
    refine s_icmp_ge E 26 dX7_copyRows_4 (by decide) (by omega) (by omega) (fun h4 => ?_) (fun h4 => ?_)
    · refine hret _ ?_ _ _ dX7_copyRows_26
      rw [show i = 4 by omega]
    · refine s_aload_n E dX7_copyRows_7 rfl ?_
      refine s_iload_n E dX7_copyRows_8 rfl ?_
      refine s_aaldR (r0 := 47) (n := 4) E dX7_copyRows_9 (by decide) sh46 (Nat.le_of_ble_eq_true rfl) (by omega) ?_
      refine s_iconst E dX7_copyRows_10 ?_
      refine s_aload_n E dX7_copyRows_11 rfl ?_
      refine s_iload_n E dX7_copyRows_12 rfl ?_
      refine s_aaldR (r0 := 3) (n := 4) E dX7_copyRows_13 (by decide) sh2 (Nat.le_of_ble_eq_true rfl) (by omega) ?_
      refine s_iconst E dX7_copyRows_14 ?_
      refine s_bipush E dX7_copyRows_15 rfl ?_
      refine s_copy E dX7_copyRows_17 ml_X7_217 mw_copy (Nat.le_of_ble_eq_true rfl) (Nat.le_of_ble_eq_true rfl) (by omega) (by omega) (shr46 (by omega)) (shr2 (by omega)) (by decide) ?_
      refine s_iinc (ls' := [_, _, _, _]) E dX7_copyRows_20 rfl rfl ?_
      refine s_goto E 2 dX7_copyRows_23 (by decide) ?_
      have e := cpR_go (M := M) (o0 := 46) (o1 := 2) (i := i) (by omega) (by intro q h1 h2; omega)
      rw [show (46 : Int) + 1 + i = 47 + i by omega, show (2 : Int) + 1 + i = 3 + i by omega] at e
      rw [e]
      exact ih _ (by omega) (by omega)
set_option maxRecDepth 100000 in
set_option maxHeartbeats 4000000 in
theorem c_cpR_46_2 (M : Mm) : CtV yX7_copyRows cX7_copyRows 4 2 SH [rv 46, rv 2, iv 4] M (fun M' => M' = cpR M 46 2 4) := by
  refine CtV.of rfl (Nat.le_of_ble_eq_true rfl) (fun v as E hret => ?_)
  show Ws v as SH 0 0 0 [some (rv 46), some (rv 2), some (iv 4), none] [] M
  refine s_iconst E dX7_copyRows_0 ?_
  refine s_istore_n (ls' := [_, _, _, _]) E dX7_copyRows_1 (Nat.le_of_ble_eq_true rfl) rfl ?_
  rw [cpR_0 (M := M) (o0 := 46) (o1 := 2)]
  exact lp_cpR_46_2 M E hret 5 0 (by decide) (by decide)

set_option maxRecDepth 100000 in
set_option maxHeartbeats 4000000 in
theorem lp_cpR_51_7 {v : Ev} {as : List Nat} (M : Mm) (E : Cx v cX7_copyRows 4 yX7_copyRows.cls 2) (hret : RetV v as cX7_copyRows (fun M' => M' = cpR M 51 7 6)) : ∀ (N : Nat) (i : Int), (6 - i).toNat < N → (0 ≤ i ∧ i ≤ 6) → Ws v as SH 0 0 2 [some (rv 51), some (rv 7), some (iv 6), some (iv i)] [] (cpR M 51 7 i) := by
  intro N
  induction N with
  | zero =>
    intro i hN
    exact absurd hN (Nat.not_lt_zero _)
  | succ N ih =>
    intro i hN g0
    refine s_iload_n E dX7_copyRows_2 rfl ?_
    refine s_iload_n E dX7_copyRows_3 rfl ?_
    refine s_icmp_ge E 26 dX7_copyRows_4 (by decide) (by omega) (by omega) (fun h4 => ?_) (fun h4 => ?_)
    · refine hret _ ?_ _ _ dX7_copyRows_26
      rw [show i = 6 by omega]
    · refine s_aload_n E dX7_copyRows_7 rfl ?_
      refine s_iload_n E dX7_copyRows_8 rfl ?_
      refine s_aaldR (r0 := 52) (n := 6) E dX7_copyRows_9 (by decide) sh51 (Nat.le_of_ble_eq_true rfl) (by omega) ?_
      refine s_iconst E dX7_copyRows_10 ?_
      refine s_aload_n E dX7_copyRows_11 rfl ?_
      refine s_iload_n E dX7_copyRows_12 rfl ?_
      refine s_aaldR (r0 := 8) (n := 6) E dX7_copyRows_13 (by decide) sh7 (Nat.le_of_ble_eq_true rfl) (by omega) ?_
      refine s_iconst E dX7_copyRows_14 ?_
      refine s_bipush E dX7_copyRows_15 rfl ?_
      refine s_copy E dX7_copyRows_17 ml_X7_217 mw_copy (Nat.le_of_ble_eq_true rfl) (Nat.le_of_ble_eq_true rfl) (by omega) (by omega) (shr51 (by omega)) (shr7 (by omega)) (by decide) ?_
      refine s_iinc (ls' := [_, _, _, _]) E dX7_copyRows_20 rfl rfl ?_
      refine s_goto E 2 dX7_copyRows_23 (by decide) ?_
      have e := cpR_go (M := M) (o0 := 51) (o1 := 7) (i := i) (by omega) (by intro q h1 h2; omega)
      rw [show (51 : Int) + 1 + i = 52 + i by omega, show (7 : Int) + 1 + i = 8 + i by omega] at e
      rw [e]
      exact ih _ (by omega) (by omega)
set_option maxRecDepth 100000 in
set_option maxHeartbeats 4000000 in
theorem c_cpR_51_7 (M : Mm) : CtV yX7_copyRows cX7_copyRows 4 2 SH [rv 51, rv 7, iv 6] M (fun M' => M' = cpR M 51 7 6) := by
  refine CtV.of rfl (Nat.le_of_ble_eq_true rfl) (fun v as E hret => ?_)
  show Ws v as SH 0 0 0 [some (rv 51), some (rv 7), some (iv 6), none] [] M
  refine s_iconst E dX7_copyRows_0 ?_
  refine s_istore_n (ls' := [_, _, _, _]) E dX7_copyRows_1 (Nat.le_of_ble_eq_true rfl) rfl ?_
  rw [cpR_0 (M := M) (o0 := 51) (o1 := 7)]
  exact lp_cpR_51_7 M E hret 7 0 (by decide) (by decide)

set_option maxRecDepth 100000 in
set_option maxHeartbeats 4000000 in
theorem lp_cpR_63_2 {v : Ev} {as : List Nat} (M : Mm) (E : Cx v cX7_copyRows 4 yX7_copyRows.cls 2) (hret : RetV v as cX7_copyRows (fun M' => M' = cpR M 63 2 4)) : ∀ (N : Nat) (i : Int), (4 - i).toNat < N → (0 ≤ i ∧ i ≤ 4) → Ws v as SH 0 0 2 [some (rv 63), some (rv 2), some (iv 4), some (iv i)] [] (cpR M 63 2 i) := by
  intro N
  induction N with
  | zero =>
    intro i hN
    exact absurd hN (Nat.not_lt_zero _)
  | succ N ih =>
    intro i hN g0
    refine s_iload_n E dX7_copyRows_2 rfl ?_
    refine s_iload_n E dX7_copyRows_3 rfl ?_
    refine s_icmp_ge E 26 dX7_copyRows_4 (by decide) (by omega) (by omega) (fun h4 => ?_) (fun h4 => ?_)
    · refine hret _ ?_ _ _ dX7_copyRows_26
      rw [show i = 4 by omega]
    · refine s_aload_n E dX7_copyRows_7 rfl ?_
      refine s_iload_n E dX7_copyRows_8 rfl ?_
      refine s_aaldR (r0 := 64) (n := 4) E dX7_copyRows_9 (by decide) sh63 (Nat.le_of_ble_eq_true rfl) (by omega) ?_
      refine s_iconst E dX7_copyRows_10 ?_
      refine s_aload_n E dX7_copyRows_11 rfl ?_
      refine s_iload_n E dX7_copyRows_12 rfl ?_
      refine s_aaldR (r0 := 3) (n := 4) E dX7_copyRows_13 (by decide) sh2 (Nat.le_of_ble_eq_true rfl) (by omega) ?_
      refine s_iconst E dX7_copyRows_14 ?_
      refine s_bipush E dX7_copyRows_15 rfl ?_
      refine s_copy E dX7_copyRows_17 ml_X7_217 mw_copy (Nat.le_of_ble_eq_true rfl) (Nat.le_of_ble_eq_true rfl) (by omega) (by omega) (shr63 (by omega)) (shr2 (by omega)) (by decide) ?_
      refine s_iinc (ls' := [_, _, _, _]) E dX7_copyRows_20 rfl rfl ?_
      refine s_goto E 2 dX7_copyRows_23 (by decide) ?_
      have e := cpR_go (M := M) (o0 := 63) (o1 := 2) (i := i) (by omega) (by intro q h1 h2; omega)
      rw [show (63 : Int) + 1 + i = 64 + i by omega, show (2 : Int) + 1 + i = 3 + i by omega] at e
      rw [e]
      exact ih _ (by omega) (by omega)
set_option maxRecDepth 100000 in
set_option maxHeartbeats 4000000 in
theorem c_cpR_63_2 (M : Mm) : CtV yX7_copyRows cX7_copyRows 4 2 SH [rv 63, rv 2, iv 4] M (fun M' => M' = cpR M 63 2 4) := by
  refine CtV.of rfl (Nat.le_of_ble_eq_true rfl) (fun v as E hret => ?_)
  show Ws v as SH 0 0 0 [some (rv 63), some (rv 2), some (iv 4), none] [] M
  refine s_iconst E dX7_copyRows_0 ?_
  refine s_istore_n (ls' := [_, _, _, _]) E dX7_copyRows_1 (Nat.le_of_ble_eq_true rfl) rfl ?_
  rw [cpR_0 (M := M) (o0 := 63) (o1 := 2)]
  exact lp_cpR_63_2 M E hret 5 0 (by decide) (by decide)

set_option maxRecDepth 100000 in
set_option maxHeartbeats 4000000 in
theorem lp_cpR_68_7 {v : Ev} {as : List Nat} (M : Mm) (E : Cx v cX7_copyRows 4 yX7_copyRows.cls 2) (hret : RetV v as cX7_copyRows (fun M' => M' = cpR M 68 7 6)) : ∀ (N : Nat) (i : Int), (6 - i).toNat < N → (0 ≤ i ∧ i ≤ 6) → Ws v as SH 0 0 2 [some (rv 68), some (rv 7), some (iv 6), some (iv i)] [] (cpR M 68 7 i) := by
  intro N
  induction N with
  | zero =>
    intro i hN
    exact absurd hN (Nat.not_lt_zero _)
  | succ N ih =>
    intro i hN g0
    refine s_iload_n E dX7_copyRows_2 rfl ?_
    refine s_iload_n E dX7_copyRows_3 rfl ?_
    refine s_icmp_ge E 26 dX7_copyRows_4 (by decide) (by omega) (by omega) (fun h4 => ?_) (fun h4 => ?_)
    · refine hret _ ?_ _ _ dX7_copyRows_26
      rw [show i = 6 by omega]
    · refine s_aload_n E dX7_copyRows_7 rfl ?_
      refine s_iload_n E dX7_copyRows_8 rfl ?_
      refine s_aaldR (r0 := 69) (n := 6) E dX7_copyRows_9 (by decide) sh68 (Nat.le_of_ble_eq_true rfl) (by omega) ?_
      refine s_iconst E dX7_copyRows_10 ?_
      refine s_aload_n E dX7_copyRows_11 rfl ?_
      refine s_iload_n E dX7_copyRows_12 rfl ?_
      refine s_aaldR (r0 := 8) (n := 6) E dX7_copyRows_13 (by decide) sh7 (Nat.le_of_ble_eq_true rfl) (by omega) ?_
      refine s_iconst E dX7_copyRows_14 ?_
      refine s_bipush E dX7_copyRows_15 rfl ?_
      refine s_copy E dX7_copyRows_17 ml_X7_217 mw_copy (Nat.le_of_ble_eq_true rfl) (Nat.le_of_ble_eq_true rfl) (by omega) (by omega) (shr68 (by omega)) (shr7 (by omega)) (by decide) ?_
      refine s_iinc (ls' := [_, _, _, _]) E dX7_copyRows_20 rfl rfl ?_
      refine s_goto E 2 dX7_copyRows_23 (by decide) ?_
      have e := cpR_go (M := M) (o0 := 68) (o1 := 7) (i := i) (by omega) (by intro q h1 h2; omega)
      rw [show (68 : Int) + 1 + i = 69 + i by omega, show (7 : Int) + 1 + i = 8 + i by omega] at e
      rw [e]
      exact ih _ (by omega) (by omega)
set_option maxRecDepth 100000 in
set_option maxHeartbeats 4000000 in
theorem c_cpR_68_7 (M : Mm) : CtV yX7_copyRows cX7_copyRows 4 2 SH [rv 68, rv 7, iv 6] M (fun M' => M' = cpR M 68 7 6) := by
  refine CtV.of rfl (Nat.le_of_ble_eq_true rfl) (fun v as E hret => ?_)
  show Ws v as SH 0 0 0 [some (rv 68), some (rv 7), some (iv 6), none] [] M
  refine s_iconst E dX7_copyRows_0 ?_
  refine s_istore_n (ls' := [_, _, _, _]) E dX7_copyRows_1 (Nat.le_of_ble_eq_true rfl) rfl ?_
  rw [cpR_0 (M := M) (o0 := 68) (o1 := 7)]
  exact lp_cpR_68_7 M E hret 7 0 (by decide) (by decide)

/-- what matters at m2 take from m1 -/
def mtk (M : Mm) (d s : Int) : Mm := upm (cp0 (cp0 (cp0 M (s + 1) (d + 1) 8) (s + 2) (d + 2) 8) (s + 3) (d + 3) 8) d 3 (M s 3)
/-- what one kept takes from another -/
def ktk (M : Mm) (d s : Int) : Mm := upm (upm (mtk (cpR (cpR M (s + 1) (d + 1) 4) (s + 6) (d + 6) 6) (d + 13) (s + 13)) d 3 (M s 3)) d 4 (M s 4)

set_option maxRecDepth 100000 in
set_option maxHeartbeats 4000000 in
theorem c_mtk_58_14 (M : Mm) : CtV yX4_take cX4_take 2 2 SH [rv 58, rv 14] M (fun M' => M' = mtk M 58 14) := by
  refine CtV.of rfl (Nat.le_of_ble_eq_true rfl) (fun v as E hret => ?_)
  show Ws v as SH 0 0 0 [some (rv 58), some (rv 14)] [] M
  refine s_aload_n E dX4_take_0 rfl ?_
  refine s_getR (kf := 0) E dX4_take_1 rfl inb_X4 (Nat.le_of_ble_eq_true rfl) fl_X4_9 (by decide) sh14 rfl ?_
  refine s_iconst E dX4_take_4 ?_
  refine s_aload_n E dX4_take_5 rfl ?_
  refine s_getR (kf := 0) E dX4_take_6 rfl inb_X4 (Nat.le_of_ble_eq_true rfl) fl_X4_9 (by decide) sh58 rfl ?_
  refine s_iconst E dX4_take_9 ?_
  refine s_bipush E dX4_take_10 rfl ?_
  refine s_copy E dX4_take_12 ml_X4_29 mw_copy (Nat.le_of_ble_eq_true rfl) (Nat.le_of_ble_eq_true rfl) (by decide) (by decide) sh15 sh59 (by decide) ?_
  refine s_aload_n E dX4_take_15 rfl ?_
  refine s_getR (kf := 1) E dX4_take_16 rfl inb_X4 (Nat.le_of_ble_eq_true rfl) fl_X4_15 (by decide) sh14 rfl ?_
  refine s_iconst E dX4_take_19 ?_
  refine s_aload_n E dX4_take_20 rfl ?_
  refine s_getR (kf := 1) E dX4_take_21 rfl inb_X4 (Nat.le_of_ble_eq_true rfl) fl_X4_15 (by decide) sh58 rfl ?_
  refine s_iconst E dX4_take_24 ?_
  refine s_bipush E dX4_take_25 rfl ?_
  refine s_copy E dX4_take_27 ml_X4_29 mw_copy (Nat.le_of_ble_eq_true rfl) (Nat.le_of_ble_eq_true rfl) (by decide) (by decide) sh16 sh60 (by decide) ?_
  refine s_aload_n E dX4_take_30 rfl ?_
  refine s_getR (kf := 2) E dX4_take_31 rfl inb_X4 (Nat.le_of_ble_eq_true rfl) fl_X4_18 (by decide) sh14 rfl ?_
  refine s_iconst E dX4_take_34 ?_
  refine s_aload_n E dX4_take_35 rfl ?_
  refine s_getR (kf := 2) E dX4_take_36 rfl inb_X4 (Nat.le_of_ble_eq_true rfl) fl_X4_18 (by decide) sh58 rfl ?_
  refine s_iconst E dX4_take_39 ?_
  refine s_bipush E dX4_take_40 rfl ?_
  refine s_copy E dX4_take_42 ml_X4_29 mw_copy (Nat.le_of_ble_eq_true rfl) (Nat.le_of_ble_eq_true rfl) (by decide) (by decide) sh17 sh61 (by decide) ?_
  refine s_aload_n E dX4_take_45 rfl ?_
  refine s_aload_n E dX4_take_46 rfl ?_
  refine s_getI (kf := 3) E 3 rfl dX4_take_47 rfl inb_X4 (Nat.le_of_ble_eq_true rfl) fl_X4_21 (by decide) sh14 rfl ?_
  simp only [cp0_row (show (14 : Int) ≠ 59 by decide), cp0_row (show (14 : Int) ≠ 60 by decide), cp0_row (show (14 : Int) ≠ 61 by decide)]
  refine s_putI (kf := 3) E 3 rfl dX4_take_50 rfl inb_X4 tyX4_ok nmX4 (Nat.le_of_ble_eq_true rfl) ⟨rfl, rfl⟩ fl_X4_21 (by decide) sh58 rfl ?_
  refine hret _ ?_ _ _ dX4_take_53
  rfl

set_option maxRecDepth 100000 in
set_option maxHeartbeats 4000000 in
theorem c_mtk_75_14 (M : Mm) : CtV yX4_take cX4_take 2 2 SH [rv 75, rv 14] M (fun M' => M' = mtk M 75 14) := by
  refine CtV.of rfl (Nat.le_of_ble_eq_true rfl) (fun v as E hret => ?_)
  show Ws v as SH 0 0 0 [some (rv 75), some (rv 14)] [] M
  refine s_aload_n E dX4_take_0 rfl ?_
  refine s_getR (kf := 0) E dX4_take_1 rfl inb_X4 (Nat.le_of_ble_eq_true rfl) fl_X4_9 (by decide) sh14 rfl ?_
  refine s_iconst E dX4_take_4 ?_
  refine s_aload_n E dX4_take_5 rfl ?_
  refine s_getR (kf := 0) E dX4_take_6 rfl inb_X4 (Nat.le_of_ble_eq_true rfl) fl_X4_9 (by decide) sh75 rfl ?_
  refine s_iconst E dX4_take_9 ?_
  refine s_bipush E dX4_take_10 rfl ?_
  refine s_copy E dX4_take_12 ml_X4_29 mw_copy (Nat.le_of_ble_eq_true rfl) (Nat.le_of_ble_eq_true rfl) (by decide) (by decide) sh15 sh76 (by decide) ?_
  refine s_aload_n E dX4_take_15 rfl ?_
  refine s_getR (kf := 1) E dX4_take_16 rfl inb_X4 (Nat.le_of_ble_eq_true rfl) fl_X4_15 (by decide) sh14 rfl ?_
  refine s_iconst E dX4_take_19 ?_
  refine s_aload_n E dX4_take_20 rfl ?_
  refine s_getR (kf := 1) E dX4_take_21 rfl inb_X4 (Nat.le_of_ble_eq_true rfl) fl_X4_15 (by decide) sh75 rfl ?_
  refine s_iconst E dX4_take_24 ?_
  refine s_bipush E dX4_take_25 rfl ?_
  refine s_copy E dX4_take_27 ml_X4_29 mw_copy (Nat.le_of_ble_eq_true rfl) (Nat.le_of_ble_eq_true rfl) (by decide) (by decide) sh16 sh77 (by decide) ?_
  refine s_aload_n E dX4_take_30 rfl ?_
  refine s_getR (kf := 2) E dX4_take_31 rfl inb_X4 (Nat.le_of_ble_eq_true rfl) fl_X4_18 (by decide) sh14 rfl ?_
  refine s_iconst E dX4_take_34 ?_
  refine s_aload_n E dX4_take_35 rfl ?_
  refine s_getR (kf := 2) E dX4_take_36 rfl inb_X4 (Nat.le_of_ble_eq_true rfl) fl_X4_18 (by decide) sh75 rfl ?_
  refine s_iconst E dX4_take_39 ?_
  refine s_bipush E dX4_take_40 rfl ?_
  refine s_copy E dX4_take_42 ml_X4_29 mw_copy (Nat.le_of_ble_eq_true rfl) (Nat.le_of_ble_eq_true rfl) (by decide) (by decide) sh17 sh78 (by decide) ?_
  refine s_aload_n E dX4_take_45 rfl ?_
  refine s_aload_n E dX4_take_46 rfl ?_
  refine s_getI (kf := 3) E 3 rfl dX4_take_47 rfl inb_X4 (Nat.le_of_ble_eq_true rfl) fl_X4_21 (by decide) sh14 rfl ?_
  simp only [cp0_row (show (14 : Int) ≠ 76 by decide), cp0_row (show (14 : Int) ≠ 77 by decide), cp0_row (show (14 : Int) ≠ 78 by decide)]
  refine s_putI (kf := 3) E 3 rfl dX4_take_50 rfl inb_X4 tyX4_ok nmX4 (Nat.le_of_ble_eq_true rfl) ⟨rfl, rfl⟩ fl_X4_21 (by decide) sh75 rfl ?_
  refine hret _ ?_ _ _ dX4_take_53
  rfl

set_option maxRecDepth 100000 in
set_option maxHeartbeats 4000000 in
theorem c_mtk_14_58 (M : Mm) : CtV yX4_take cX4_take 2 2 SH [rv 14, rv 58] M (fun M' => M' = mtk M 14 58) := by
  refine CtV.of rfl (Nat.le_of_ble_eq_true rfl) (fun v as E hret => ?_)
  show Ws v as SH 0 0 0 [some (rv 14), some (rv 58)] [] M
  refine s_aload_n E dX4_take_0 rfl ?_
  refine s_getR (kf := 0) E dX4_take_1 rfl inb_X4 (Nat.le_of_ble_eq_true rfl) fl_X4_9 (by decide) sh58 rfl ?_
  refine s_iconst E dX4_take_4 ?_
  refine s_aload_n E dX4_take_5 rfl ?_
  refine s_getR (kf := 0) E dX4_take_6 rfl inb_X4 (Nat.le_of_ble_eq_true rfl) fl_X4_9 (by decide) sh14 rfl ?_
  refine s_iconst E dX4_take_9 ?_
  refine s_bipush E dX4_take_10 rfl ?_
  refine s_copy E dX4_take_12 ml_X4_29 mw_copy (Nat.le_of_ble_eq_true rfl) (Nat.le_of_ble_eq_true rfl) (by decide) (by decide) sh59 sh15 (by decide) ?_
  refine s_aload_n E dX4_take_15 rfl ?_
  refine s_getR (kf := 1) E dX4_take_16 rfl inb_X4 (Nat.le_of_ble_eq_true rfl) fl_X4_15 (by decide) sh58 rfl ?_
  refine s_iconst E dX4_take_19 ?_
  refine s_aload_n E dX4_take_20 rfl ?_
  refine s_getR (kf := 1) E dX4_take_21 rfl inb_X4 (Nat.le_of_ble_eq_true rfl) fl_X4_15 (by decide) sh14 rfl ?_
  refine s_iconst E dX4_take_24 ?_
  refine s_bipush E dX4_take_25 rfl ?_
  refine s_copy E dX4_take_27 ml_X4_29 mw_copy (Nat.le_of_ble_eq_true rfl) (Nat.le_of_ble_eq_true rfl) (by decide) (by decide) sh60 sh16 (by decide) ?_
  refine s_aload_n E dX4_take_30 rfl ?_
  refine s_getR (kf := 2) E dX4_take_31 rfl inb_X4 (Nat.le_of_ble_eq_true rfl) fl_X4_18 (by decide) sh58 rfl ?_
  refine s_iconst E dX4_take_34 ?_
  refine s_aload_n E dX4_take_35 rfl ?_
  refine s_getR (kf := 2) E dX4_take_36 rfl inb_X4 (Nat.le_of_ble_eq_true rfl) fl_X4_18 (by decide) sh14 rfl ?_
  refine s_iconst E dX4_take_39 ?_
  refine s_bipush E dX4_take_40 rfl ?_
  refine s_copy E dX4_take_42 ml_X4_29 mw_copy (Nat.le_of_ble_eq_true rfl) (Nat.le_of_ble_eq_true rfl) (by decide) (by decide) sh61 sh17 (by decide) ?_
  refine s_aload_n E dX4_take_45 rfl ?_
  refine s_aload_n E dX4_take_46 rfl ?_
  refine s_getI (kf := 3) E 3 rfl dX4_take_47 rfl inb_X4 (Nat.le_of_ble_eq_true rfl) fl_X4_21 (by decide) sh58 rfl ?_
  simp only [cp0_row (show (58 : Int) ≠ 15 by decide), cp0_row (show (58 : Int) ≠ 16 by decide), cp0_row (show (58 : Int) ≠ 17 by decide)]
  refine s_putI (kf := 3) E 3 rfl dX4_take_50 rfl inb_X4 tyX4_ok nmX4 (Nat.le_of_ble_eq_true rfl) ⟨rfl, rfl⟩ fl_X4_21 (by decide) sh14 rfl ?_
  refine hret _ ?_ _ _ dX4_take_53
  rfl

set_option maxRecDepth 100000 in
set_option maxHeartbeats 4000000 in
theorem c_mtk_14_75 (M : Mm) : CtV yX4_take cX4_take 2 2 SH [rv 14, rv 75] M (fun M' => M' = mtk M 14 75) := by
  refine CtV.of rfl (Nat.le_of_ble_eq_true rfl) (fun v as E hret => ?_)
  show Ws v as SH 0 0 0 [some (rv 14), some (rv 75)] [] M
  refine s_aload_n E dX4_take_0 rfl ?_
  refine s_getR (kf := 0) E dX4_take_1 rfl inb_X4 (Nat.le_of_ble_eq_true rfl) fl_X4_9 (by decide) sh75 rfl ?_
  refine s_iconst E dX4_take_4 ?_
  refine s_aload_n E dX4_take_5 rfl ?_
  refine s_getR (kf := 0) E dX4_take_6 rfl inb_X4 (Nat.le_of_ble_eq_true rfl) fl_X4_9 (by decide) sh14 rfl ?_
  refine s_iconst E dX4_take_9 ?_
  refine s_bipush E dX4_take_10 rfl ?_
  refine s_copy E dX4_take_12 ml_X4_29 mw_copy (Nat.le_of_ble_eq_true rfl) (Nat.le_of_ble_eq_true rfl) (by decide) (by decide) sh76 sh15 (by decide) ?_
  refine s_aload_n E dX4_take_15 rfl ?_
  refine s_getR (kf := 1) E dX4_take_16 rfl inb_X4 (Nat.le_of_ble_eq_true rfl) fl_X4_15 (by decide) sh75 rfl ?_
  refine s_iconst E dX4_take_19 ?_
  refine s_aload_n E dX4_take_20 rfl ?_
  refine s_getR (kf := 1) E dX4_take_21 rfl inb_X4 (Nat.le_of_ble_eq_true rfl) fl_X4_15 (by decide) sh14 rfl ?_
  refine s_iconst E dX4_take_24 ?_
  refine s_bipush E dX4_take_25 rfl ?_
  refine s_copy E dX4_take_27 ml_X4_29 mw_copy (Nat.le_of_ble_eq_true rfl) (Nat.le_of_ble_eq_true rfl) (by decide) (by decide) sh77 sh16 (by decide) ?_
  refine s_aload_n E dX4_take_30 rfl ?_
  refine s_getR (kf := 2) E dX4_take_31 rfl inb_X4 (Nat.le_of_ble_eq_true rfl) fl_X4_18 (by decide) sh75 rfl ?_
  refine s_iconst E dX4_take_34 ?_
  refine s_aload_n E dX4_take_35 rfl ?_
  refine s_getR (kf := 2) E dX4_take_36 rfl inb_X4 (Nat.le_of_ble_eq_true rfl) fl_X4_18 (by decide) sh14 rfl ?_
  refine s_iconst E dX4_take_39 ?_
  refine s_bipush E dX4_take_40 rfl ?_
  refine s_copy E dX4_take_42 ml_X4_29 mw_copy (Nat.le_of_ble_eq_true rfl) (Nat.le_of_ble_eq_true rfl) (by decide) (by decide) sh78 sh17 (by decide) ?_
  refine s_aload_n E dX4_take_45 rfl ?_
  refine s_aload_n E dX4_take_46 rfl ?_
  refine s_getI (kf := 3) E 3 rfl dX4_take_47 rfl inb_X4 (Nat.le_of_ble_eq_true rfl) fl_X4_21 (by decide) sh75 rfl ?_
  simp only [cp0_row (show (75 : Int) ≠ 15 by decide), cp0_row (show (75 : Int) ≠ 16 by decide), cp0_row (show (75 : Int) ≠ 17 by decide)]
  refine s_putI (kf := 3) E 3 rfl dX4_take_50 rfl inb_X4 tyX4_ok nmX4 (Nat.le_of_ble_eq_true rfl) ⟨rfl, rfl⟩ fl_X4_21 (by decide) sh14 rfl ?_
  refine hret _ ?_ _ _ dX4_take_53
  rfl

theorem ktk_row (M : Mm) {o0 o1 p0 p1 d s k : Int} (h1 : k < o1 + 1 ∨ o1 + 1 + 4 ≤ k) (h2 : k < p1 + 1 ∨ p1 + 1 + 6 ≤ k) (h3 : k ≠ d) (h4 : k ≠ d + 1) (h5 : k ≠ d + 2) (h6 : k ≠ d + 3) : mtk (cpR (cpR M o0 o1 4) p0 p1 6) d s k = M k := by
  unfold mtk
  rw [upm_row h3, cp0_row h6, cp0_row h5, cp0_row h4]
  funext j
  unfold cpR
  rw [if_neg (by omega), if_neg (by omega)]

set_option maxRecDepth 100000 in
set_option maxHeartbeats 4000000 in
theorem c_ktk_45_1 (M : Mm) : CtV yX2_take cX2_take 2 3 SH [rv 45, rv 1] M (fun M' => M' = ktk M 45 1) := by
  refine CtV.of rfl (Nat.le_of_ble_eq_true rfl) (fun v as E hret => ?_)
  show Ws v as SH 0 0 0 [some (rv 45), some (rv 1)] [] M
  refine s_aload_n E dX2_take_0 rfl ?_
  refine s_getR (kf := 0) E dX2_take_1 rfl inb_X2 (Nat.le_of_ble_eq_true rfl) fl_X2_11 (by decide) sh1 rfl ?_
  refine s_aload_n E dX2_take_4 rfl ?_
  refine s_getR (kf := 0) E dX2_take_5 rfl inb_X2 (Nat.le_of_ble_eq_true rfl) fl_X2_11 (by decide) sh45 rfl ?_
  refine s_iconst E dX2_take_8 ?_
  refine s_callSNv E (c_cpR_2_46 _) dX2_take_9 mf_X7_copyRows ml_X2_33 rfl (Nat.le_of_ble_eq_true rfl) (Nat.le_of_ble_eq_true rfl) rfl (fun M9 h9 => ?_)
  subst M9
  refine s_aload_n E dX2_take_12 rfl ?_
  refine s_getR (kf := 1) E dX2_take_13 rfl inb_X2 (Nat.le_of_ble_eq_true rfl) fl_X2_16 (by decide) sh1 rfl ?_
  refine s_aload_n E dX2_take_16 rfl ?_
  refine s_getR (kf := 1) E dX2_take_17 rfl inb_X2 (Nat.le_of_ble_eq_true rfl) fl_X2_16 (by decide) sh45 rfl ?_
  refine s_bipush E dX2_take_20 rfl ?_
  refine s_callSNv E (c_cpR_7_51 _) dX2_take_22 mf_X7_copyRows ml_X2_33 rfl (Nat.le_of_ble_eq_true rfl) (Nat.le_of_ble_eq_true rfl) rfl (fun M22 h22 => ?_)
  subst M22
  refine s_aload_n E dX2_take_25 rfl ?_
  refine s_getR (kf := 2) E dX2_take_26 rfl inb_X2 (Nat.le_of_ble_eq_true rfl) fl_X2_22 (by decide) sh45 rfl ?_
  refine s_aload_n E dX2_take_29 rfl ?_
  refine s_getR (kf := 2) E dX2_take_30 rfl inb_X2 (Nat.le_of_ble_eq_true rfl) fl_X2_22 (by decide) sh1 rfl ?_
  refine s_callVv E (c_mtk_58_14 _) dX2_take_33 mf_X4_take ml_X2_37 rfl (Nat.le_of_ble_eq_true rfl) (Nat.le_of_ble_eq_true rfl) (by decide) sh58 rfl rfl (fun M33 h33 => ?_)
  subst M33
  refine s_aload_n E dX2_take_36 rfl ?_
  refine s_aload_n E dX2_take_37 rfl ?_
  refine s_getI (kf := 3) E 3 rfl dX2_take_38 rfl inb_X2 (Nat.le_of_ble_eq_true rfl) fl_X2_26 (by decide) sh1 rfl ?_
  have e41 : (mtk (cpR (cpR M 2 46 4) 7 51 6) 58 14) 1 = M 1 := ktk_row M (by decide) (by decide) (by decide) (by decide) (by decide) (by decide)
  rw [e41]
  refine s_putI (kf := 3) E 3 rfl dX2_take_41 rfl inb_X2 tyX2_ok nmX2 (Nat.le_of_ble_eq_true rfl) ⟨rfl, rfl⟩ fl_X2_26 (by decide) sh45 rfl ?_
  refine s_aload_n E dX2_take_44 rfl ?_
  refine s_aload_n E dX2_take_45 rfl ?_
  refine s_getI (kf := 4) E 4 rfl dX2_take_46 rfl inb_X2 (Nat.le_of_ble_eq_true rfl) fl_X2_30 (by decide) sh1 rfl ?_
  rw [upm_row (show (1 : Int) ≠ 45 by decide), e41]
  refine s_putI (kf := 4) E 4 rfl dX2_take_49 rfl inb_X2 tyX2_ok nmX2 (Nat.le_of_ble_eq_true rfl) ⟨rfl, rfl⟩ fl_X2_30 (by decide) sh45 rfl ?_
  refine hret _ ?_ _ _ dX2_take_52
  rfl

set_option maxRecDepth 100000 in
set_option maxHeartbeats 4000000 in
theorem c_ktk_62_1 (M : Mm) : CtV yX2_take cX2_take 2 3 SH [rv 62, rv 1] M (fun M' => M' = ktk M 62 1) := by
  refine CtV.of rfl (Nat.le_of_ble_eq_true rfl) (fun v as E hret => ?_)
  show Ws v as SH 0 0 0 [some (rv 62), some (rv 1)] [] M
  refine s_aload_n E dX2_take_0 rfl ?_
  refine s_getR (kf := 0) E dX2_take_1 rfl inb_X2 (Nat.le_of_ble_eq_true rfl) fl_X2_11 (by decide) sh1 rfl ?_
  refine s_aload_n E dX2_take_4 rfl ?_
  refine s_getR (kf := 0) E dX2_take_5 rfl inb_X2 (Nat.le_of_ble_eq_true rfl) fl_X2_11 (by decide) sh62 rfl ?_
  refine s_iconst E dX2_take_8 ?_
  refine s_callSNv E (c_cpR_2_63 _) dX2_take_9 mf_X7_copyRows ml_X2_33 rfl (Nat.le_of_ble_eq_true rfl) (Nat.le_of_ble_eq_true rfl) rfl (fun M9 h9 => ?_)
  subst M9
  refine s_aload_n E dX2_take_12 rfl ?_
  refine s_getR (kf := 1) E dX2_take_13 rfl inb_X2 (Nat.le_of_ble_eq_true rfl) fl_X2_16 (by decide) sh1 rfl ?_
  refine s_aload_n E dX2_take_16 rfl ?_
  refine s_getR (kf := 1) E dX2_take_17 rfl inb_X2 (Nat.le_of_ble_eq_true rfl) fl_X2_16 (by decide) sh62 rfl ?_
  refine s_bipush E dX2_take_20 rfl ?_
  refine s_callSNv E (c_cpR_7_68 _) dX2_take_22 mf_X7_copyRows ml_X2_33 rfl (Nat.le_of_ble_eq_true rfl) (Nat.le_of_ble_eq_true rfl) rfl (fun M22 h22 => ?_)
  subst M22
  refine s_aload_n E dX2_take_25 rfl ?_
  refine s_getR (kf := 2) E dX2_take_26 rfl inb_X2 (Nat.le_of_ble_eq_true rfl) fl_X2_22 (by decide) sh62 rfl ?_
  refine s_aload_n E dX2_take_29 rfl ?_
  refine s_getR (kf := 2) E dX2_take_30 rfl inb_X2 (Nat.le_of_ble_eq_true rfl) fl_X2_22 (by decide) sh1 rfl ?_
  refine s_callVv E (c_mtk_75_14 _) dX2_take_33 mf_X4_take ml_X2_37 rfl (Nat.le_of_ble_eq_true rfl) (Nat.le_of_ble_eq_true rfl) (by decide) sh75 rfl rfl (fun M33 h33 => ?_)
  subst M33
  refine s_aload_n E dX2_take_36 rfl ?_
  refine s_aload_n E dX2_take_37 rfl ?_
  refine s_getI (kf := 3) E 3 rfl dX2_take_38 rfl inb_X2 (Nat.le_of_ble_eq_true rfl) fl_X2_26 (by decide) sh1 rfl ?_
  have e41 : (mtk (cpR (cpR M 2 63 4) 7 68 6) 75 14) 1 = M 1 := ktk_row M (by decide) (by decide) (by decide) (by decide) (by decide) (by decide)
  rw [e41]
  refine s_putI (kf := 3) E 3 rfl dX2_take_41 rfl inb_X2 tyX2_ok nmX2 (Nat.le_of_ble_eq_true rfl) ⟨rfl, rfl⟩ fl_X2_26 (by decide) sh62 rfl ?_
  refine s_aload_n E dX2_take_44 rfl ?_
  refine s_aload_n E dX2_take_45 rfl ?_
  refine s_getI (kf := 4) E 4 rfl dX2_take_46 rfl inb_X2 (Nat.le_of_ble_eq_true rfl) fl_X2_30 (by decide) sh1 rfl ?_
  rw [upm_row (show (1 : Int) ≠ 62 by decide), e41]
  refine s_putI (kf := 4) E 4 rfl dX2_take_49 rfl inb_X2 tyX2_ok nmX2 (Nat.le_of_ble_eq_true rfl) ⟨rfl, rfl⟩ fl_X2_30 (by decide) sh62 rfl ?_
  refine hret _ ?_ _ _ dX2_take_52
  rfl

set_option maxRecDepth 100000 in
set_option maxHeartbeats 4000000 in
theorem c_ktk_1_45 (M : Mm) : CtV yX2_take cX2_take 2 3 SH [rv 1, rv 45] M (fun M' => M' = ktk M 1 45) := by
  refine CtV.of rfl (Nat.le_of_ble_eq_true rfl) (fun v as E hret => ?_)
  show Ws v as SH 0 0 0 [some (rv 1), some (rv 45)] [] M
  refine s_aload_n E dX2_take_0 rfl ?_
  refine s_getR (kf := 0) E dX2_take_1 rfl inb_X2 (Nat.le_of_ble_eq_true rfl) fl_X2_11 (by decide) sh45 rfl ?_
  refine s_aload_n E dX2_take_4 rfl ?_
  refine s_getR (kf := 0) E dX2_take_5 rfl inb_X2 (Nat.le_of_ble_eq_true rfl) fl_X2_11 (by decide) sh1 rfl ?_
  refine s_iconst E dX2_take_8 ?_
  refine s_callSNv E (c_cpR_46_2 _) dX2_take_9 mf_X7_copyRows ml_X2_33 rfl (Nat.le_of_ble_eq_true rfl) (Nat.le_of_ble_eq_true rfl) rfl (fun M9 h9 => ?_)
  subst M9
  refine s_aload_n E dX2_take_12 rfl ?_
  refine s_getR (kf := 1) E dX2_take_13 rfl inb_X2 (Nat.le_of_ble_eq_true rfl) fl_X2_16 (by decide) sh45 rfl ?_
  refine s_aload_n E dX2_take_16 rfl ?_
  refine s_getR (kf := 1) E dX2_take_17 rfl inb_X2 (Nat.le_of_ble_eq_true rfl) fl_X2_16 (by decide) sh1 rfl ?_
  refine s_bipush E dX2_take_20 rfl ?_
  refine s_callSNv E (c_cpR_51_7 _) dX2_take_22 mf_X7_copyRows ml_X2_33 rfl (Nat.le_of_ble_eq_true rfl) (Nat.le_of_ble_eq_true rfl) rfl (fun M22 h22 => ?_)
  subst M22
  refine s_aload_n E dX2_take_25 rfl ?_
  refine s_getR (kf := 2) E dX2_take_26 rfl inb_X2 (Nat.le_of_ble_eq_true rfl) fl_X2_22 (by decide) sh1 rfl ?_
  refine s_aload_n E dX2_take_29 rfl ?_
  refine s_getR (kf := 2) E dX2_take_30 rfl inb_X2 (Nat.le_of_ble_eq_true rfl) fl_X2_22 (by decide) sh45 rfl ?_
  refine s_callVv E (c_mtk_14_58 _) dX2_take_33 mf_X4_take ml_X2_37 rfl (Nat.le_of_ble_eq_true rfl) (Nat.le_of_ble_eq_true rfl) (by decide) sh14 rfl rfl (fun M33 h33 => ?_)
  subst M33
  refine s_aload_n E dX2_take_36 rfl ?_
  refine s_aload_n E dX2_take_37 rfl ?_
  refine s_getI (kf := 3) E 3 rfl dX2_take_38 rfl inb_X2 (Nat.le_of_ble_eq_true rfl) fl_X2_26 (by decide) sh45 rfl ?_
  have e41 : (mtk (cpR (cpR M 46 2 4) 51 7 6) 14 58) 45 = M 45 := ktk_row M (by decide) (by decide) (by decide) (by decide) (by decide) (by decide)
  rw [e41]
  refine s_putI (kf := 3) E 3 rfl dX2_take_41 rfl inb_X2 tyX2_ok nmX2 (Nat.le_of_ble_eq_true rfl) ⟨rfl, rfl⟩ fl_X2_26 (by decide) sh1 rfl ?_
  refine s_aload_n E dX2_take_44 rfl ?_
  refine s_aload_n E dX2_take_45 rfl ?_
  refine s_getI (kf := 4) E 4 rfl dX2_take_46 rfl inb_X2 (Nat.le_of_ble_eq_true rfl) fl_X2_30 (by decide) sh45 rfl ?_
  rw [upm_row (show (45 : Int) ≠ 1 by decide), e41]
  refine s_putI (kf := 4) E 4 rfl dX2_take_49 rfl inb_X2 tyX2_ok nmX2 (Nat.le_of_ble_eq_true rfl) ⟨rfl, rfl⟩ fl_X2_30 (by decide) sh1 rfl ?_
  refine hret _ ?_ _ _ dX2_take_52
  rfl

set_option maxRecDepth 100000 in
set_option maxHeartbeats 4000000 in
theorem c_ktk_1_62 (M : Mm) : CtV yX2_take cX2_take 2 3 SH [rv 1, rv 62] M (fun M' => M' = ktk M 1 62) := by
  refine CtV.of rfl (Nat.le_of_ble_eq_true rfl) (fun v as E hret => ?_)
  show Ws v as SH 0 0 0 [some (rv 1), some (rv 62)] [] M
  refine s_aload_n E dX2_take_0 rfl ?_
  refine s_getR (kf := 0) E dX2_take_1 rfl inb_X2 (Nat.le_of_ble_eq_true rfl) fl_X2_11 (by decide) sh62 rfl ?_
  refine s_aload_n E dX2_take_4 rfl ?_
  refine s_getR (kf := 0) E dX2_take_5 rfl inb_X2 (Nat.le_of_ble_eq_true rfl) fl_X2_11 (by decide) sh1 rfl ?_
  refine s_iconst E dX2_take_8 ?_
  refine s_callSNv E (c_cpR_63_2 _) dX2_take_9 mf_X7_copyRows ml_X2_33 rfl (Nat.le_of_ble_eq_true rfl) (Nat.le_of_ble_eq_true rfl) rfl (fun M9 h9 => ?_)
  subst M9
  refine s_aload_n E dX2_take_12 rfl ?_
  refine s_getR (kf := 1) E dX2_take_13 rfl inb_X2 (Nat.le_of_ble_eq_true rfl) fl_X2_16 (by decide) sh62 rfl ?_
  refine s_aload_n E dX2_take_16 rfl ?_
  refine s_getR (kf := 1) E dX2_take_17 rfl inb_X2 (Nat.le_of_ble_eq_true rfl) fl_X2_16 (by decide) sh1 rfl ?_
  refine s_bipush E dX2_take_20 rfl ?_
  refine s_callSNv E (c_cpR_68_7 _) dX2_take_22 mf_X7_copyRows ml_X2_33 rfl (Nat.le_of_ble_eq_true rfl) (Nat.le_of_ble_eq_true rfl) rfl (fun M22 h22 => ?_)
  subst M22
  refine s_aload_n E dX2_take_25 rfl ?_
  refine s_getR (kf := 2) E dX2_take_26 rfl inb_X2 (Nat.le_of_ble_eq_true rfl) fl_X2_22 (by decide) sh1 rfl ?_
  refine s_aload_n E dX2_take_29 rfl ?_
  refine s_getR (kf := 2) E dX2_take_30 rfl inb_X2 (Nat.le_of_ble_eq_true rfl) fl_X2_22 (by decide) sh62 rfl ?_
  refine s_callVv E (c_mtk_14_75 _) dX2_take_33 mf_X4_take ml_X2_37 rfl (Nat.le_of_ble_eq_true rfl) (Nat.le_of_ble_eq_true rfl) (by decide) sh14 rfl rfl (fun M33 h33 => ?_)
  subst M33
  refine s_aload_n E dX2_take_36 rfl ?_
  refine s_aload_n E dX2_take_37 rfl ?_
  refine s_getI (kf := 3) E 3 rfl dX2_take_38 rfl inb_X2 (Nat.le_of_ble_eq_true rfl) fl_X2_26 (by decide) sh62 rfl ?_
  have e41 : (mtk (cpR (cpR M 63 2 4) 68 7 6) 14 75) 62 = M 62 := ktk_row M (by decide) (by decide) (by decide) (by decide) (by decide) (by decide)
  rw [e41]
  refine s_putI (kf := 3) E 3 rfl dX2_take_41 rfl inb_X2 tyX2_ok nmX2 (Nat.le_of_ble_eq_true rfl) ⟨rfl, rfl⟩ fl_X2_26 (by decide) sh1 rfl ?_
  refine s_aload_n E dX2_take_44 rfl ?_
  refine s_aload_n E dX2_take_45 rfl ?_
  refine s_getI (kf := 4) E 4 rfl dX2_take_46 rfl inb_X2 (Nat.le_of_ble_eq_true rfl) fl_X2_30 (by decide) sh62 rfl ?_
  rw [upm_row (show (62 : Int) ≠ 1 by decide), e41]
  refine s_putI (kf := 4) E 4 rfl dX2_take_49 rfl inb_X2 tyX2_ok nmX2 (Nat.le_of_ble_eq_true rfl) ⟨rfl, rfl⟩ fl_X2_30 (by decide) sh1 rfl ?_
  refine hret _ ?_ _ _ dX2_take_52
  rfl

set_option maxRecDepth 100000 in
set_option maxHeartbeats 4000000 in
theorem c_X7_image_0 (M : Mm) : CtI yX7_image cX7_image 2 .int 4 SH [rv 0, iv 0] M (fun r M' => r = 1 ∧ M' = upm (ktk M 45 1) 19 0 1) := by
  refine CtI.of rfl (Nat.le_of_ble_eq_true rfl) (Or.inl rfl) (fun v as E hret => ?_)
  show Ws v as SH 0 0 0 [some (rv 0), some (iv 0)] [] M
  refine s_iload_n E dX7_image_0 rfl ?_
  refine s_if_lt E 9 dX7_image_1 (by decide) (by omega) (fun h1 => ?_) (fun h1 => ?_)
  · exact absurd h1 (by decide)
  · refine s_iload_n E dX7_image_4 rfl ?_
    refine s_iconst E dX7_image_5 ?_
    refine s_icmp_lt E 12 dX7_image_6 (by decide) (by omega) (by omega) (fun h6 => ?_) (fun h6 => ?_)
    · refine s_aload_n E dX7_image_12 rfl ?_
      refine s_getR (kf := 1) E dX7_image_13 rfl inb_X7 (Nat.le_of_ble_eq_true rfl) fl_X7_16 (by decide) sh0 rfl ?_
      refine s_iload_n E dX7_image_16 rfl ?_
      refine s_aald (kd := 1) (r := 45) E dX7_image_17 (by decide) sh18 (Nat.le_of_ble_eq_true rfl) (by decide) rfl ?_
      refine s_aload_n E dX7_image_18 rfl ?_
      refine s_getR (kf := 0) E dX7_image_19 rfl inb_X7 (Nat.le_of_ble_eq_true rfl) fl_X7_10 (by decide) sh0 rfl ?_
      refine s_callVv E (c_ktk_45_1 _) dX7_image_22 mf_X2_take ml_X7_213 rfl (Nat.le_of_ble_eq_true rfl) (Nat.le_of_ble_eq_true rfl) (by decide) sh45 rfl rfl (fun M22 h22 => ?_)
      subst M22
      refine s_aload_n E dX7_image_25 rfl ?_
      refine s_getR (kf := 2) E dX7_image_26 rfl inb_X7 (Nat.le_of_ble_eq_true rfl) fl_X7_20 (by decide) sh0 rfl ?_
      refine s_iload_n E dX7_image_29 rfl ?_
      refine s_iconst E dX7_image_30 ?_
      refine s_bast E dX7_image_31 (by decide) sh19 (Nat.le_of_ble_eq_true rfl) (by omega) (Or.inr rfl) ?_
      refine s_iconst E dX7_image_32 ?_
      refine hret _ _ ?_ (fun q => by cases q) _ _ dX7_image_33
      exact ⟨rfl, rfl⟩
    · exact absurd h6 (by decide)

set_option maxRecDepth 100000 in
set_option maxHeartbeats 4000000 in
theorem c_X7_restore_0 (M : Mm) (h : M 19 0 = 0 ∨ M 19 0 = 1) : CtI yX7_restore cX7_restore 2 .int 4 SH [rv 0, iv 0] M (fun r M' => r = (if M 19 0 = 0 then -3 else 1) ∧ M' = (if M 19 0 = 0 then M else ktk M 1 45)) := by
  refine CtI.of rfl (Nat.le_of_ble_eq_true rfl) (Or.inl rfl) (fun v as E hret => ?_)
  show Ws v as SH 0 0 0 [some (rv 0), some (iv 0)] [] M
  refine s_iload_n E dX7_restore_0 rfl ?_
  refine s_if_lt E 9 dX7_restore_1 (by decide) (by omega) (fun h1 => ?_) (fun h1 => ?_)
  · exact absurd h1 (by decide)
  · refine s_iload_n E dX7_restore_4 rfl ?_
    refine s_iconst E dX7_restore_5 ?_
    refine s_icmp_lt E 12 dX7_restore_6 (by decide) (by omega) (by omega) (fun h6 => ?_) (fun h6 => ?_)
    · refine s_aload_n E dX7_restore_12 rfl ?_
      refine s_getR (kf := 2) E dX7_restore_13 rfl inb_X7 (Nat.le_of_ble_eq_true rfl) fl_X7_20 (by decide) sh0 rfl ?_
      refine s_iload_n E dX7_restore_16 rfl ?_
      refine s_bald E dX7_restore_17 (by decide) sh19 (Nat.le_of_ble_eq_true rfl) (by omega) ?_
      refine s_if_ne E 24 dX7_restore_18 (by decide) (by omega) (fun h18 => ?_) (fun h18 => ?_)
      · refine s_aload_n E dX7_restore_24 rfl ?_
        refine s_getR (kf := 0) E dX7_restore_25 rfl inb_X7 (Nat.le_of_ble_eq_true rfl) fl_X7_10 (by decide) sh0 rfl ?_
        refine s_aload_n E dX7_restore_28 rfl ?_
        refine s_getR (kf := 1) E dX7_restore_29 rfl inb_X7 (Nat.le_of_ble_eq_true rfl) fl_X7_16 (by decide) sh0 rfl ?_
        refine s_iload_n E dX7_restore_32 rfl ?_
        refine s_aald (kd := 1) (r := 45) E dX7_restore_33 (by decide) sh18 (Nat.le_of_ble_eq_true rfl) (by decide) rfl ?_
        refine s_callVv E (c_ktk_1_45 _) dX7_restore_34 mf_X2_take ml_X7_213 rfl (Nat.le_of_ble_eq_true rfl) (Nat.le_of_ble_eq_true rfl) (by decide) sh1 rfl rfl (fun M34 h34 => ?_)
        subst M34
        refine s_iconst E dX7_restore_37 ?_
        refine hret _ _ ?_ (fun q => by cases q) _ _ dX7_restore_38
        exact ⟨by split <;> first | rfl | omega, by split <;> first | rfl | omega⟩
      · refine s_bipush E dX7_restore_21 rfl ?_
        refine hret _ _ ?_ (fun q => by cases q) _ _ dX7_restore_23
        exact ⟨by split <;> first | rfl | omega, by split <;> first | rfl | omega⟩
    · exact absurd h6 (by decide)

set_option maxRecDepth 100000 in
set_option maxHeartbeats 4000000 in
theorem c_X7_image_1 (M : Mm) : CtI yX7_image cX7_image 2 .int 4 SH [rv 0, iv 1] M (fun r M' => r = 1 ∧ M' = upm (ktk M 62 1) 19 1 1) := by
  refine CtI.of rfl (Nat.le_of_ble_eq_true rfl) (Or.inl rfl) (fun v as E hret => ?_)
  show Ws v as SH 0 0 0 [some (rv 0), some (iv 1)] [] M
  refine s_iload_n E dX7_image_0 rfl ?_
  refine s_if_lt E 9 dX7_image_1 (by decide) (by omega) (fun h1 => ?_) (fun h1 => ?_)
  · exact absurd h1 (by decide)
  · refine s_iload_n E dX7_image_4 rfl ?_
    refine s_iconst E dX7_image_5 ?_
    refine s_icmp_lt E 12 dX7_image_6 (by decide) (by omega) (by omega) (fun h6 => ?_) (fun h6 => ?_)
    · refine s_aload_n E dX7_image_12 rfl ?_
      refine s_getR (kf := 1) E dX7_image_13 rfl inb_X7 (Nat.le_of_ble_eq_true rfl) fl_X7_16 (by decide) sh0 rfl ?_
      refine s_iload_n E dX7_image_16 rfl ?_
      refine s_aald (kd := 1) (r := 62) E dX7_image_17 (by decide) sh18 (Nat.le_of_ble_eq_true rfl) (by decide) rfl ?_
      refine s_aload_n E dX7_image_18 rfl ?_
      refine s_getR (kf := 0) E dX7_image_19 rfl inb_X7 (Nat.le_of_ble_eq_true rfl) fl_X7_10 (by decide) sh0 rfl ?_
      refine s_callVv E (c_ktk_62_1 _) dX7_image_22 mf_X2_take ml_X7_213 rfl (Nat.le_of_ble_eq_true rfl) (Nat.le_of_ble_eq_true rfl) (by decide) sh62 rfl rfl (fun M22 h22 => ?_)
      subst M22
      refine s_aload_n E dX7_image_25 rfl ?_
      refine s_getR (kf := 2) E dX7_image_26 rfl inb_X7 (Nat.le_of_ble_eq_true rfl) fl_X7_20 (by decide) sh0 rfl ?_
      refine s_iload_n E dX7_image_29 rfl ?_
      refine s_iconst E dX7_image_30 ?_
      refine s_bast E dX7_image_31 (by decide) sh19 (Nat.le_of_ble_eq_true rfl) (by omega) (Or.inr rfl) ?_
      refine s_iconst E dX7_image_32 ?_
      refine hret _ _ ?_ (fun q => by cases q) _ _ dX7_image_33
      exact ⟨rfl, rfl⟩
    · exact absurd h6 (by decide)

set_option maxRecDepth 100000 in
set_option maxHeartbeats 4000000 in
theorem c_X7_restore_1 (M : Mm) (h : M 19 1 = 0 ∨ M 19 1 = 1) : CtI yX7_restore cX7_restore 2 .int 4 SH [rv 0, iv 1] M (fun r M' => r = (if M 19 1 = 0 then -3 else 1) ∧ M' = (if M 19 1 = 0 then M else ktk M 1 62)) := by
  refine CtI.of rfl (Nat.le_of_ble_eq_true rfl) (Or.inl rfl) (fun v as E hret => ?_)
  show Ws v as SH 0 0 0 [some (rv 0), some (iv 1)] [] M
  refine s_iload_n E dX7_restore_0 rfl ?_
  refine s_if_lt E 9 dX7_restore_1 (by decide) (by omega) (fun h1 => ?_) (fun h1 => ?_)
  · exact absurd h1 (by decide)
  · refine s_iload_n E dX7_restore_4 rfl ?_
    refine s_iconst E dX7_restore_5 ?_
    refine s_icmp_lt E 12 dX7_restore_6 (by decide) (by omega) (by omega) (fun h6 => ?_) (fun h6 => ?_)
    · refine s_aload_n E dX7_restore_12 rfl ?_
      refine s_getR (kf := 2) E dX7_restore_13 rfl inb_X7 (Nat.le_of_ble_eq_true rfl) fl_X7_20 (by decide) sh0 rfl ?_
      refine s_iload_n E dX7_restore_16 rfl ?_
      refine s_bald E dX7_restore_17 (by decide) sh19 (Nat.le_of_ble_eq_true rfl) (by omega) ?_
      refine s_if_ne E 24 dX7_restore_18 (by decide) (by omega) (fun h18 => ?_) (fun h18 => ?_)
      · refine s_aload_n E dX7_restore_24 rfl ?_
        refine s_getR (kf := 0) E dX7_restore_25 rfl inb_X7 (Nat.le_of_ble_eq_true rfl) fl_X7_10 (by decide) sh0 rfl ?_
        refine s_aload_n E dX7_restore_28 rfl ?_
        refine s_getR (kf := 1) E dX7_restore_29 rfl inb_X7 (Nat.le_of_ble_eq_true rfl) fl_X7_16 (by decide) sh0 rfl ?_
        refine s_iload_n E dX7_restore_32 rfl ?_
        refine s_aald (kd := 1) (r := 62) E dX7_restore_33 (by decide) sh18 (Nat.le_of_ble_eq_true rfl) (by decide) rfl ?_
        refine s_callVv E (c_ktk_1_62 _) dX7_restore_34 mf_X2_take ml_X7_213 rfl (Nat.le_of_ble_eq_true rfl) (Nat.le_of_ble_eq_true rfl) (by decide) sh1 rfl rfl (fun M34 h34 => ?_)
        subst M34
        refine s_iconst E dX7_restore_37 ?_
        refine hret _ _ ?_ (fun q => by cases q) _ _ dX7_restore_38
        exact ⟨by split <;> first | rfl | omega, by split <;> first | rfl | omega⟩
      · refine s_bipush E dX7_restore_21 rfl ?_
        refine hret _ _ ?_ (fun q => by cases q) _ _ dX7_restore_23
        exact ⟨by split <;> first | rfl | omega, by split <;> first | rfl | omega⟩
    · exact absurd h6 (by decide)

set_option maxRecDepth 100000 in
set_option maxHeartbeats 4000000 in
theorem c_X7_image_x (M : Mm) (n : Int) (hn : inI n) (h : ¬ (0 ≤ n ∧ n < 2)) : CtI yX7_image cX7_image 2 .int 4 SH [rv 0, iv n] M (fun r M' => r = -2 ∧ M' = M) := by
  refine CtI.of rfl (Nat.le_of_ble_eq_true rfl) (Or.inl rfl) (fun v as E hret => ?_)
  show Ws v as SH 0 0 0 [some (rv 0), some (iv n)] [] M
  refine s_iload_n E dX7_image_0 rfl ?_
  refine s_if_lt E 9 dX7_image_1 (by decide) (by omega) (fun h1 => ?_) (fun h1 => ?_)
  · refine s_bipush E dX7_image_9 rfl ?_
    refine hret _ _ ?_ (fun q => by cases q) _ _ dX7_image_11
    exact ⟨rfl, rfl⟩
  · refine s_iload_n E dX7_image_4 rfl ?_
    refine s_iconst E dX7_image_5 ?_
    refine s_icmp_lt E 12 dX7_image_6 (by decide) (by omega) (by omega) (fun h6 => ?_) (fun h6 => ?_)
    · exfalso; omega
    · refine s_bipush E dX7_image_9 rfl ?_
      refine hret _ _ ?_ (fun q => by cases q) _ _ dX7_image_11
      exact ⟨rfl, rfl⟩

set_option maxRecDepth 100000 in
set_option maxHeartbeats 4000000 in
theorem c_X7_restore_x (M : Mm) (n : Int) (hn : inI n) (h : ¬ (0 ≤ n ∧ n < 2)) : CtI yX7_restore cX7_restore 2 .int 4 SH [rv 0, iv n] M (fun r M' => r = -2 ∧ M' = M) := by
  refine CtI.of rfl (Nat.le_of_ble_eq_true rfl) (Or.inl rfl) (fun v as E hret => ?_)
  show Ws v as SH 0 0 0 [some (rv 0), some (iv n)] [] M
  refine s_iload_n E dX7_restore_0 rfl ?_
  refine s_if_lt E 9 dX7_restore_1 (by decide) (by omega) (fun h1 => ?_) (fun h1 => ?_)
  · refine s_bipush E dX7_restore_9 rfl ?_
    refine hret _ _ ?_ (fun q => by cases q) _ _ dX7_restore_11
    exact ⟨rfl, rfl⟩
  · refine s_iload_n E dX7_restore_4 rfl ?_
    refine s_iconst E dX7_restore_5 ?_
    refine s_icmp_lt E 12 dX7_restore_6 (by decide) (by omega) (by omega) (fun h6 => ?_) (fun h6 => ?_)
    · exfalso; omega
    · refine s_bipush E dX7_restore_9 rfl ?_
      refine hret _ _ ?_ (fun q => by cases q) _ _ dX7_restore_11
      exact ⟨rfl, rfl⟩

/-- the reference's image, laid up to i ones and matters -/
def im1 (M : Mm) (t i : Int) : Mm := fun k j => if k = 93 ∧ t ≤ j ∧ j < t + i then M 80 (j - t) else if k = 93 ∧ t + 24 ≤ j ∧ j < t + 24 + i then M 82 (j - t - 24) else M k j
def im2 (M : Mm) (t i : Int) : Mm := fun k j => if k = 93 ∧ t + 48 ≤ j ∧ j < t + 48 + i then M 83 (j - t - 48) else im1 M t 24 k j
def im3 (M : Mm) (t n : Int) : Mm := upm (upm (upm (upm (im2 M t 36) 93 (t + 84) (M 79 5)) 93 (t + 85) (M 79 1)) 93 (t + 86) (M 79 2)) 94 n 1
theorem im1_0 {M : Mm} {t : Int} : im1 M t 0 = M := by
  funext k j
  unfold im1
  rw [if_neg (by omega), if_neg (by omega)]
theorem im2_0 {M : Mm} {t : Int} : im2 M t 0 = im1 M t 24 := by
  funext k j
  unfold im2
  rw [if_neg (by omega)]
theorem im1_row {M : Mm} {t i k : Int} (h : k ≠ 93) : im1 M t i k = M k := by
  funext j
  unfold im1
  rw [if_neg (by omega), if_neg (by omega)]
theorem im2_row {M : Mm} {t i k : Int} (h : k ≠ 93) : im2 M t i k = M k := by
  funext j
  unfold im2
  rw [if_neg (by omega), im1_row h]
theorem im1_go {M : Mm} {t i : Int} (h : 0 ≤ i ∧ i < 24) : upm (upm (im1 M t i) 93 (t + i) (M 80 i)) 93 (t + 24 + i) (M 82 i) = im1 M t (i + 1) := by
  funext k j
  by_cases e : k = 93
  · subst e
    by_cases e1 : j = t + 24 + i
    · subst e1
      rw [upm_eq]
      unfold im1
      rw [if_neg (by omega), if_pos (by omega)]
      congr 1
      omega
    · rw [upm_ne (Or.inr e1)]
      by_cases e2 : j = t + i
      · subst e2
        rw [upm_eq]
        unfold im1
        rw [if_pos (by omega)]
        congr 1
        omega
      · rw [upm_ne (Or.inr e2)]
        unfold im1
        (repeat' split) <;> first | rfl | omega
  · rw [upm_row e, upm_row e, im1_row e, im1_row e]
theorem im2_go {M : Mm} {t i : Int} (h : 0 ≤ i ∧ i < 36) : upm (im2 M t i) 93 (t + 48 + i) (M 83 i) = im2 M t (i + 1) := by
  funext k j
  by_cases e : k = 93
  · subst e
    by_cases e2 : j = t + 48 + i
    · subst e2
      rw [upm_eq]
      unfold im2
      rw [if_pos (by omega)]
      congr 1
      omega
    · rw [upm_ne (Or.inr e2)]
      unfold im2
      (repeat' split) <;> first | rfl | omega
  · rw [upm_row e, im2_row e, im2_row e]
/-- the reference restored, up to i ones and matters -/
def rs1 (M : Mm) (t i : Int) : Mm := fun k j => if k = 80 ∧ 0 ≤ j ∧ j < i then M 93 (t + j) else if k = 82 ∧ 0 ≤ j ∧ j < i then M 93 (t + 24 + j) else M k j
def rs2 (M : Mm) (t i : Int) : Mm := fun k j => if k = 83 ∧ 0 ≤ j ∧ j < i then M 93 (t + 48 + j) else rs1 M t 24 k j
def rs3 (M : Mm) (t : Int) : Mm := upm (upm (upm (rs2 M t 36) 79 5 (M 93 (t + 84))) 79 1 (M 93 (t + 85))) 79 2 (M 93 (t + 86))
theorem rs1_0 {M : Mm} {t : Int} : rs1 M t 0 = M := by
  funext k j
  unfold rs1
  rw [if_neg (by omega), if_neg (by omega)]
theorem rs2_0 {M : Mm} {t : Int} : rs2 M t 0 = rs1 M t 24 := by
  funext k j
  unfold rs2
  rw [if_neg (by omega)]
theorem rs1_row {M : Mm} {t i k : Int} (h : k ≠ 80 ∧ k ≠ 82) : rs1 M t i k = M k := by
  funext j
  unfold rs1
  rw [if_neg (by omega), if_neg (by omega)]
theorem rs2_row {M : Mm} {t i k : Int} (h : k ≠ 80 ∧ k ≠ 82 ∧ k ≠ 83) : rs2 M t i k = M k := by
  funext j
  unfold rs2
  rw [if_neg (by omega), rs1_row (by omega)]
theorem rs1_go {M : Mm} {t i : Int} (h : 0 ≤ i ∧ i < 24) : upm (upm (rs1 M t i) 80 i (M 93 (t + i))) 82 i (M 93 (t + 24 + i)) = rs1 M t (i + 1) := by
  funext k j
  unfold upm rs1
  (repeat' split) <;> first | rfl | omega | (congr 1; omega)
theorem rs2_go {M : Mm} {t i : Int} (h : 0 ≤ i ∧ i < 36) : upm (rs2 M t i) 83 i (M 93 (t + 48 + i)) = rs2 M t (i + 1) := by
  funext k j
  unfold upm rs2
  (repeat' split) <;> first | rfl | omega | (congr 1; omega)

set_option maxRecDepth 100000 in
set_option maxHeartbeats 4000000 in
theorem lp_X8_im2 {v : Ev} {as : List Nat} (M : Mm) (n : Int) (hn : 0 ≤ n ∧ n < 2) (E : Cx v cX8_image 4 yX8_image.cls 2) (hret : RetI v as cX8_image .int (fun r M' => r = 1 ∧ M' = im3 M (88 * n) n)) : ∀ (N : Nat) (i : Int), (36 - i).toNat < N → (0 ≤ i ∧ i ≤ 36) → Ws v as SH 0 0 64 [some (rv 79), some (iv n), some (iv (88 * n)), some (iv i)] [] (im2 M (88 * n) i) := by
  intro N
  induction N with
  | zero =>
    intro i hN
    exact absurd hN (Nat.not_lt_zero _)
  | succ N ih =>
    intro i hN g0
    refine s_iload_n E dX8_image_64 rfl ?_
    refine s_bipush E dX8_image_65 rfl ?_
    refine s_icmp_ge E 93 dX8_image_67 (by decide) (by omega) (by omega) (fun h67 => ?_) (fun h67 => ?_)
    · obtain rfl : i = 36 := by omega
      refine s_aload_n E dX8_image_93 rfl ?_
      refine s_getR (kf := 20) E dX8_image_94 rfl inb_X8 (Nat.le_of_ble_eq_true rfl) fl_X8_56 (by decide) sh79 rfl ?_
      refine s_iload_n E dX8_image_97 rfl ?_
      refine s_bipush E dX8_image_98 rfl ?_
      refine s_iadd E dX8_image_100 ?_
      refine s_aload_n E dX8_image_101 rfl ?_
      refine s_getI (kf := 5) E 5 rfl dX8_image_102 rfl inb_X8 (Nat.le_of_ble_eq_true rfl) fl_X8_117 (by decide) sh79 rfl ?_
      rw [im2_row (show (79 : Int) ≠ 93 by decide)]
      refine s_iast E dX8_image_105 (by decide) sh93 (Nat.le_of_ble_eq_true rfl) (by omega) ?_
      refine s_aload_n E dX8_image_106 rfl ?_
      refine s_getR (kf := 20) E dX8_image_107 rfl inb_X8 (Nat.le_of_ble_eq_true rfl) fl_X8_56 (by decide) sh79 rfl ?_
      refine s_iload_n E dX8_image_110 rfl ?_
      refine s_bipush E dX8_image_111 rfl ?_
      refine s_iadd E dX8_image_113 ?_
      refine s_aload_n E dX8_image_114 rfl ?_
      refine s_getI (kf := 1) E 1 rfl dX8_image_115 rfl inb_X8 (Nat.le_of_ble_eq_true rfl) fl_X8_13 (by decide) sh79 rfl ?_
      simp only [upm_ne (Or.inl (show (79 : Int) ≠ 93 by decide))]
      rw [im2_row (show (79 : Int) ≠ 93 by decide)]
      refine s_iast E dX8_image_118 (by decide) sh93 (Nat.le_of_ble_eq_true rfl) (by omega) ?_
      refine s_aload_n E dX8_image_119 rfl ?_
      refine s_getR (kf := 20) E dX8_image_120 rfl inb_X8 (Nat.le_of_ble_eq_true rfl) fl_X8_56 (by decide) sh79 rfl ?_
      refine s_iload_n E dX8_image_123 rfl ?_
      refine s_bipush E dX8_image_124 rfl ?_
      refine s_iadd E dX8_image_126 ?_
      refine s_aload_n E dX8_image_127 rfl ?_
      refine s_getI (kf := 2) E 2 rfl dX8_image_128 rfl inb_X8 (Nat.le_of_ble_eq_true rfl) fl_X8_17 (by decide) sh79 rfl ?_
      simp only [upm_ne (Or.inl (show (79 : Int) ≠ 93 by decide))]
      rw [im2_row (show (79 : Int) ≠ 93 by decide)]
      refine s_iast E dX8_image_131 (by decide) sh93 (Nat.le_of_ble_eq_true rfl) (by omega) ?_
      refine s_aload_n E dX8_image_132 rfl ?_
      refine s_getR (kf := 21) E dX8_image_133 rfl inb_X8 (Nat.le_of_ble_eq_true rfl) fl_X8_59 (by decide) sh79 rfl ?_
      refine s_iload_n E dX8_image_136 rfl ?_
      refine s_iconst E dX8_image_137 ?_
      refine s_bast E dX8_image_138 (by decide) sh94 (Nat.le_of_ble_eq_true rfl) (by omega) (Or.inr rfl) ?_
      refine s_iconst E dX8_image_139 ?_
      refine hret _ _ ?_ (fun q => by cases q) _ _ dX8_image_140
      exact ⟨rfl, rfl⟩
    · refine s_aload_n E dX8_image_70 rfl ?_
      refine s_getR (kf := 20) E dX8_image_71 rfl inb_X8 (Nat.le_of_ble_eq_true rfl) fl_X8_56 (by decide) sh79 rfl ?_
      refine s_iload_n E dX8_image_74 rfl ?_
      refine s_bipush E dX8_image_75 rfl ?_
      refine s_iadd E dX8_image_77 ?_
      refine s_iload_n E dX8_image_78 rfl ?_
      refine s_iadd E dX8_image_79 ?_
      refine s_aload_n E dX8_image_80 rfl ?_
      refine s_getR (kf := 7) E dX8_image_81 rfl inb_X8 (Nat.le_of_ble_eq_true rfl) fl_X8_26 (by decide) sh79 rfl ?_
      refine s_iload_n E dX8_image_84 rfl ?_
      refine s_iald E dX8_image_85 (by decide) sh83 (Nat.le_of_ble_eq_true rfl) (by omega) ?_
      rw [im2_row (show (83 : Int) ≠ 93 by decide)]
      refine s_iast E dX8_image_86 (by decide) sh93 (Nat.le_of_ble_eq_true rfl) (by omega) ?_
      refine s_iinc (ls' := [_, _, _, _]) E dX8_image_87 rfl rfl ?_
      refine s_goto E 64 dX8_image_90 (by decide) ?_
      rw [im2_go (by omega)]
      exact ih _ (by omega) (by omega)

set_option maxRecDepth 100000 in
set_option maxHeartbeats 4000000 in
theorem lp_X8_im1 {v : Ev} {as : List Nat} (M : Mm) (n : Int) (hn : 0 ≤ n ∧ n < 2) (E : Cx v cX8_image 4 yX8_image.cls 2) (hret : RetI v as cX8_image .int (fun r M' => r = 1 ∧ M' = im3 M (88 * n) n)) : ∀ (N : Nat) (i : Int), (24 - i).toNat < N → (0 ≤ i ∧ i ≤ 24) → Ws v as SH 0 0 19 [some (rv 79), some (iv n), some (iv (88 * n)), some (iv i)] [] (im1 M (88 * n) i) := by
  intro N
  induction N with
  | zero =>
    intro i hN
    exact absurd hN (Nat.not_lt_zero _)
  | succ N ih =>
    intro i hN g0
    refine s_iload_n E dX8_image_19 rfl ?_
    refine s_bipush E dX8_image_20 rfl ?_
    refine s_icmp_ge E 62 dX8_image_22 (by decide) (by omega) (by omega) (fun h22 => ?_) (fun h22 => ?_)
    · obtain rfl : i = 24 := by omega
      rw [← im2_0]
      refine s_iconst E dX8_image_62 ?_
      refine s_istore_n (ls' := [_, _, _, _]) E dX8_image_63 (Nat.le_of_ble_eq_true rfl) rfl ?_
      exact lp_X8_im2 M n hn E hret 37 0 (by decide) (by decide)
    · refine s_aload_n E dX8_image_25 rfl ?_
      refine s_getR (kf := 20) E dX8_image_26 rfl inb_X8 (Nat.le_of_ble_eq_true rfl) fl_X8_56 (by decide) sh79 rfl ?_
      refine s_iload_n E dX8_image_29 rfl ?_
      refine s_iload_n E dX8_image_30 rfl ?_
      refine s_iadd E dX8_image_31 ?_
      refine s_aload_n E dX8_image_32 rfl ?_
      refine s_getR (kf := 0) E dX8_image_33 rfl inb_X8 (Nat.le_of_ble_eq_true rfl) fl_X8_7 (by decide) sh79 rfl ?_
      refine s_iload_n E dX8_image_36 rfl ?_
      refine s_iald E dX8_image_37 (by decide) sh80 (Nat.le_of_ble_eq_true rfl) (by omega) ?_
      rw [im1_row (show (80 : Int) ≠ 93 by decide)]
      refine s_iast E dX8_image_38 (by decide) sh93 (Nat.le_of_ble_eq_true rfl) (by omega) ?_
      refine s_aload_n E dX8_image_39 rfl ?_
      refine s_getR (kf := 20) E dX8_image_40 rfl inb_X8 (Nat.le_of_ble_eq_true rfl) fl_X8_56 (by decide) sh79 rfl ?_
      refine s_iload_n E dX8_image_43 rfl ?_
      refine s_bipush E dX8_image_44 rfl ?_
      refine s_iadd E dX8_image_46 ?_
      refine s_iload_n E dX8_image_47 rfl ?_
      refine s_iadd E dX8_image_48 ?_
      refine s_aload_n E dX8_image_49 rfl ?_
      refine s_getR (kf := 6) E dX8_image_50 rfl inb_X8 (Nat.le_of_ble_eq_true rfl) fl_X8_23 (by decide) sh79 rfl ?_
      refine s_iload_n E dX8_image_53 rfl ?_
      refine s_iald E dX8_image_54 (by decide) sh82 (Nat.le_of_ble_eq_true rfl) (by omega) ?_
      simp only [upm_ne (Or.inl (show (82 : Int) ≠ 93 by decide))]
      rw [im1_row (show (82 : Int) ≠ 93 by decide)]
      refine s_iast E dX8_image_55 (by decide) sh93 (Nat.le_of_ble_eq_true rfl) (by omega) ?_
      refine s_iinc (ls' := [_, _, _, _]) E dX8_image_56 rfl rfl ?_
      refine s_goto E 19 dX8_image_59 (by decide) ?_
      rw [im1_go (by omega)]
      exact ih _ (by omega) (by omega)

set_option maxRecDepth 100000 in
set_option maxHeartbeats 4000000 in
theorem c_X8_image (M : Mm) (n : Int) (hn : inI n) : CtI yX8_image cX8_image 4 .int 2 SH [rv 79, iv n] M (fun r M' => r = (if 0 ≤ n ∧ n < 2 then 1 else -2) ∧ M' = (if 0 ≤ n ∧ n < 2 then im3 M (88 * n) n else M)) := by
  refine CtI.of rfl (Nat.le_of_ble_eq_true rfl) (Or.inl rfl) (fun v as E hret => ?_)
  show Ws v as SH 0 0 0 [some (rv 79), some (iv n), none, none] [] M
  refine s_iload_n E dX8_image_0 rfl ?_
  refine s_iconst E dX8_image_1 ?_
  refine s_iconst E dX8_image_2 ?_
  refine s_callSi E (c_X8_in _ _ _ _ (by omega) (by omega) (by omega)) dX8_image_3 mf_X8_in ml_X8_63 rfl (Nat.le_of_ble_eq_true rfl) (Nat.le_of_ble_eq_true rfl) rfl (fun r3 M3 h3 => ?_)
  obtain ⟨e3, f3⟩ := h3; subst r3; subst M3
  refine s_ifneB E 12 dX8_image_6 (by decide) (fun h6 => ?_) (fun h6 => ?_)
  · refine s_bipush E dX8_image_12 rfl ?_
    refine s_iload_n E dX8_image_14 rfl ?_
    refine s_imul E dX8_image_15 ?_
    refine s_istore_n (ls' := [_, _, _, _]) E dX8_image_16 (Nat.le_of_ble_eq_true rfl) rfl ?_
    refine s_iconst E dX8_image_17 ?_
    refine s_istore_n (ls' := [_, _, _, _]) E dX8_image_18 (Nat.le_of_ble_eq_true rfl) rfl ?_
    have hn2 : 0 ≤ n ∧ n < 2 := by omega
    refine lp_X8_im1 M n hn2 E (fun r M' h => hret r M' ⟨by rw [if_pos hn2]; exact h.1, by rw [if_pos hn2]; exact h.2⟩) 25 0 (by decide) (by decide) |> fun h => ?_
    rw [im1_0] at h
    exact h
  · refine s_bipush E dX8_image_9 rfl ?_
    refine hret _ _ ?_ (fun q => by cases q) _ _ dX8_image_11
    exact ⟨(if_neg (by omega)).symm, (if_neg (by omega)).symm⟩

set_option maxRecDepth 100000 in
set_option maxHeartbeats 4000000 in
theorem lp_X8_rs2 {v : Ev} {as : List Nat} (M : Mm) (n : Int) (hn : 0 ≤ n ∧ n < 2) (E : Cx v cX8_restore 4 yX8_restore.cls 2) (hret : RetI v as cX8_restore .int (fun r M' => r = 1 ∧ M' = rs3 M (88 * n))) : ∀ (N : Nat) (i : Int), (36 - i).toNat < N → (0 ≤ i ∧ i ≤ 36) → Ws v as SH 0 0 76 [some (rv 79), some (iv n), some (iv (88 * n)), some (iv i)] [] (rs2 M (88 * n) i) := by
  intro N
  induction N with
  | zero =>
    intro i hN
    exact absurd hN (Nat.not_lt_zero _)
  | succ N ih =>
    intro i hN g0
    refine s_iload_n E dX8_restore_76 rfl ?_
    refine s_bipush E dX8_restore_77 rfl ?_
    refine s_icmp_ge E 105 dX8_restore_79 (by decide) (by omega) (by omega) (fun h79 => ?_) (fun h79 => ?_)
    · obtain rfl : i = 36 := by omega
      refine s_aload_n E dX8_restore_105 rfl ?_
      refine s_aload_n E dX8_restore_106 rfl ?_
      refine s_getR (kf := 20) E dX8_restore_107 rfl inb_X8 (Nat.le_of_ble_eq_true rfl) fl_X8_56 (by decide) sh79 rfl ?_
      refine s_iload_n E dX8_restore_110 rfl ?_
      refine s_bipush E dX8_restore_111 rfl ?_
      refine s_iadd E dX8_restore_113 ?_
      refine s_iald E dX8_restore_114 (by decide) sh93 (Nat.le_of_ble_eq_true rfl) (by omega) ?_
      rw [rs2_row (show (93 : Int) ≠ 80 ∧ (93 : Int) ≠ 82 ∧ (93 : Int) ≠ 83 by decide)]
      refine s_putI (kf := 5) E 5 rfl dX8_restore_115 rfl inb_X8 tyX8_ok nmX8 (Nat.le_of_ble_eq_true rfl) ⟨rfl, rfl⟩ fl_X8_117 (by decide) sh79 rfl ?_
      refine s_aload_n E dX8_restore_118 rfl ?_
      refine s_aload_n E dX8_restore_119 rfl ?_
      refine s_getR (kf := 20) E dX8_restore_120 rfl inb_X8 (Nat.le_of_ble_eq_true rfl) fl_X8_56 (by decide) sh79 rfl ?_
      refine s_iload_n E dX8_restore_123 rfl ?_
      refine s_bipush E dX8_restore_124 rfl ?_
      refine s_iadd E dX8_restore_126 ?_
      refine s_iald E dX8_restore_127 (by decide) sh93 (Nat.le_of_ble_eq_true rfl) (by omega) ?_
      simp only [upm_ne (Or.inl (show (93 : Int) ≠ 79 by decide))]
      rw [rs2_row (show (93 : Int) ≠ 80 ∧ (93 : Int) ≠ 82 ∧ (93 : Int) ≠ 83 by decide)]
      refine s_putI (kf := 1) E 1 rfl dX8_restore_128 rfl inb_X8 tyX8_ok nmX8 (Nat.le_of_ble_eq_true rfl) ⟨rfl, rfl⟩ fl_X8_13 (by decide) sh79 rfl ?_
      refine s_aload_n E dX8_restore_131 rfl ?_
      refine s_aload_n E dX8_restore_132 rfl ?_
      refine s_getR (kf := 20) E dX8_restore_133 rfl inb_X8 (Nat.le_of_ble_eq_true rfl) fl_X8_56 (by decide) sh79 rfl ?_
      refine s_iload_n E dX8_restore_136 rfl ?_
      refine s_bipush E dX8_restore_137 rfl ?_
      refine s_iadd E dX8_restore_139 ?_
      refine s_iald E dX8_restore_140 (by decide) sh93 (Nat.le_of_ble_eq_true rfl) (by omega) ?_
      simp only [upm_ne (Or.inl (show (93 : Int) ≠ 79 by decide))]
      rw [rs2_row (show (93 : Int) ≠ 80 ∧ (93 : Int) ≠ 82 ∧ (93 : Int) ≠ 83 by decide)]
      refine s_putI (kf := 2) E 2 rfl dX8_restore_141 rfl inb_X8 tyX8_ok nmX8 (Nat.le_of_ble_eq_true rfl) ⟨rfl, rfl⟩ fl_X8_17 (by decide) sh79 rfl ?_
      refine s_iconst E dX8_restore_144 ?_
      refine hret _ _ ?_ (fun q => by cases q) _ _ dX8_restore_145
      exact ⟨rfl, rfl⟩
    · refine s_aload_n E dX8_restore_82 rfl ?_
      refine s_getR (kf := 7) E dX8_restore_83 rfl inb_X8 (Nat.le_of_ble_eq_true rfl) fl_X8_26 (by decide) sh79 rfl ?_
      refine s_iload_n E dX8_restore_86 rfl ?_
      refine s_aload_n E dX8_restore_87 rfl ?_
      refine s_getR (kf := 20) E dX8_restore_88 rfl inb_X8 (Nat.le_of_ble_eq_true rfl) fl_X8_56 (by decide) sh79 rfl ?_
      refine s_iload_n E dX8_restore_91 rfl ?_
      refine s_bipush E dX8_restore_92 rfl ?_
      refine s_iadd E dX8_restore_94 ?_
      refine s_iload_n E dX8_restore_95 rfl ?_
      refine s_iadd E dX8_restore_96 ?_
      refine s_iald E dX8_restore_97 (by decide) sh93 (Nat.le_of_ble_eq_true rfl) (by omega) ?_
      rw [rs2_row (show (93 : Int) ≠ 80 ∧ (93 : Int) ≠ 82 ∧ (93 : Int) ≠ 83 by decide)]
      refine s_iast E dX8_restore_98 (by decide) sh83 (Nat.le_of_ble_eq_true rfl) (by omega) ?_
      refine s_iinc (ls' := [_, _, _, _]) E dX8_restore_99 rfl rfl ?_
      refine s_goto E 76 dX8_restore_102 (by decide) ?_
      rw [rs2_go (by omega)]
      exact ih _ (by omega) (by omega)

set_option maxRecDepth 100000 in
set_option maxHeartbeats 4000000 in
theorem lp_X8_rs1 {v : Ev} {as : List Nat} (M : Mm) (n : Int) (hn : 0 ≤ n ∧ n < 2) (E : Cx v cX8_restore 4 yX8_restore.cls 2) (hret : RetI v as cX8_restore .int (fun r M' => r = 1 ∧ M' = rs3 M (88 * n))) : ∀ (N : Nat) (i : Int), (24 - i).toNat < N → (0 ≤ i ∧ i ≤ 24) → Ws v as SH 0 0 31 [some (rv 79), some (iv n), some (iv (88 * n)), some (iv i)] [] (rs1 M (88 * n) i) := by
  intro N
  induction N with
  | zero =>
    intro i hN
    exact absurd hN (Nat.not_lt_zero _)
  | succ N ih =>
    intro i hN g0
    refine s_iload_n E dX8_restore_31 rfl ?_
    refine s_bipush E dX8_restore_32 rfl ?_
    refine s_icmp_ge E 74 dX8_restore_34 (by decide) (by omega) (by omega) (fun h34 => ?_) (fun h34 => ?_)
    · obtain rfl : i = 24 := by omega
      rw [← rs2_0]
      refine s_iconst E dX8_restore_74 ?_
      refine s_istore_n (ls' := [_, _, _, _]) E dX8_restore_75 (Nat.le_of_ble_eq_true rfl) rfl ?_
      exact lp_X8_rs2 M n hn E hret 37 0 (by decide) (by decide)
    · refine s_aload_n E dX8_restore_37 rfl ?_
      refine s_getR (kf := 0) E dX8_restore_38 rfl inb_X8 (Nat.le_of_ble_eq_true rfl) fl_X8_7 (by decide) sh79 rfl ?_
      refine s_iload_n E dX8_restore_41 rfl ?_
      refine s_aload_n E dX8_restore_42 rfl ?_
      refine s_getR (kf := 20) E dX8_restore_43 rfl inb_X8 (Nat.le_of_ble_eq_true rfl) fl_X8_56 (by decide) sh79 rfl ?_
      refine s_iload_n E dX8_restore_46 rfl ?_
      refine s_iload_n E dX8_restore_47 rfl ?_
      refine s_iadd E dX8_restore_48 ?_
      refine s_iald E dX8_restore_49 (by decide) sh93 (Nat.le_of_ble_eq_true rfl) (by omega) ?_
      rw [rs1_row (show (93 : Int) ≠ 80 ∧ (93 : Int) ≠ 82 by decide)]
      refine s_iast E dX8_restore_50 (by decide) sh80 (Nat.le_of_ble_eq_true rfl) (by omega) ?_
      refine s_aload_n E dX8_restore_51 rfl ?_
      refine s_getR (kf := 6) E dX8_restore_52 rfl inb_X8 (Nat.le_of_ble_eq_true rfl) fl_X8_23 (by decide) sh79 rfl ?_
      refine s_iload_n E dX8_restore_55 rfl ?_
      refine s_aload_n E dX8_restore_56 rfl ?_
      refine s_getR (kf := 20) E dX8_restore_57 rfl inb_X8 (Nat.le_of_ble_eq_true rfl) fl_X8_56 (by decide) sh79 rfl ?_
      refine s_iload_n E dX8_restore_60 rfl ?_
      refine s_bipush E dX8_restore_61 rfl ?_
      refine s_iadd E dX8_restore_63 ?_
      refine s_iload_n E dX8_restore_64 rfl ?_
      refine s_iadd E dX8_restore_65 ?_
      refine s_iald E dX8_restore_66 (by decide) sh93 (Nat.le_of_ble_eq_true rfl) (by omega) ?_
      simp only [upm_ne (Or.inl (show (93 : Int) ≠ 80 by decide))]
      rw [rs1_row (show (93 : Int) ≠ 80 ∧ (93 : Int) ≠ 82 by decide)]
      refine s_iast E dX8_restore_67 (by decide) sh82 (Nat.le_of_ble_eq_true rfl) (by omega) ?_
      refine s_iinc (ls' := [_, _, _, _]) E dX8_restore_68 rfl rfl ?_
      refine s_goto E 31 dX8_restore_71 (by decide) ?_
      rw [rs1_go (by omega)]
      exact ih _ (by omega) (by omega)

set_option maxRecDepth 100000 in
set_option maxHeartbeats 4000000 in
theorem c_X8_restore (M : Mm) (n : Int) (hn : inI n) (hk : 0 ≤ n → n < 2 → (M 94 n = 0 ∨ M 94 n = 1)) : CtI yX8_restore cX8_restore 4 .int 2 SH [rv 79, iv n] M (fun r M' => r = (if 0 ≤ n ∧ n < 2 then (if M 94 n = 0 then -3 else 1) else -2) ∧ M' = (if 0 ≤ n ∧ n < 2 then (if M 94 n = 0 then M else rs3 M (88 * n)) else M)) := by
  refine CtI.of rfl (Nat.le_of_ble_eq_true rfl) (Or.inl rfl) (fun v as E hret => ?_)
  show Ws v as SH 0 0 0 [some (rv 79), some (iv n), none, none] [] M
  refine s_iload_n E dX8_restore_0 rfl ?_
  refine s_iconst E dX8_restore_1 ?_
  refine s_iconst E dX8_restore_2 ?_
  refine s_callSi E (c_X8_in _ _ _ _ (by omega) (by omega) (by omega)) dX8_restore_3 mf_X8_in ml_X8_63 rfl (Nat.le_of_ble_eq_true rfl) (Nat.le_of_ble_eq_true rfl) rfl (fun r3 M3 h3 => ?_)
  obtain ⟨e3, f3⟩ := h3; subst r3; subst M3
  refine s_ifneB E 12 dX8_restore_6 (by decide) (fun h6 => ?_) (fun h6 => ?_)
  · refine s_aload_n E dX8_restore_12 rfl ?_
    refine s_getR (kf := 21) E dX8_restore_13 rfl inb_X8 (Nat.le_of_ble_eq_true rfl) fl_X8_59 (by decide) sh79 rfl ?_
    refine s_iload_n E dX8_restore_16 rfl ?_
    refine s_bald E dX8_restore_17 (by decide) sh94 (Nat.le_of_ble_eq_true rfl) (by omega) ?_
    have k18 := hk (by omega) (by omega)
    refine s_if_ne E 24 dX8_restore_18 (by decide) (by omega) (fun h18 => ?_) (fun h18 => ?_)
    · refine s_bipush E dX8_restore_24 rfl ?_
      refine s_iload_n E dX8_restore_26 rfl ?_
      refine s_imul E dX8_restore_27 ?_
      refine s_istore_n (ls' := [_, _, _, _]) E dX8_restore_28 (Nat.le_of_ble_eq_true rfl) rfl ?_
      refine s_iconst E dX8_restore_29 ?_
      refine s_istore_n (ls' := [_, _, _, _]) E dX8_restore_30 (Nat.le_of_ble_eq_true rfl) rfl ?_
      have hn2 : 0 ≤ n ∧ n < 2 := by omega
      refine lp_X8_rs1 M n hn2 E (fun r M' h => hret r M' ⟨by rw [if_pos hn2, if_neg (by omega)]; exact h.1, by rw [if_pos hn2, if_neg (by omega)]; exact h.2⟩) 25 0 (by decide) (by decide) |> fun h => ?_
      rw [rs1_0] at h
      exact h
    · refine s_bipush E dX8_restore_21 rfl ?_
      refine hret _ _ ?_ (fun q => by cases q) _ _ dX8_restore_23
      exact ⟨by (repeat' split) <;> first | rfl | omega, by (repeat' split) <;> first | rfl | omega⟩
  · refine s_bipush E dX8_restore_9 rfl ?_
    refine hret _ _ ?_ (fun q => by cases q) _ _ dX8_restore_11
    exact ⟨by (repeat' split) <;> first | rfl | omega, by (repeat' split) <;> first | rfl | omega⟩
