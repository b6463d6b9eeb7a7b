/-! ===== the pad ===== -/
def sgn (M : Mm) (i : Int) : Int := if 0 ≤ i ∧ i < M 20 1 then M 21 i else 0
theorem sgn_in {M : Mm} {i : Int} (h : 0 ≤ i ∧ i < M 20 1) : sgn M i = M 21 i := if_pos h
theorem sgn_out {M : Mm} {i : Int} (h : ¬ (0 ≤ i ∧ i < M 20 1)) : sgn M i = 0 := if_neg h
def hd0 (s : Int) : Int := if s = 46 then 1 else if s = 63 then 3 else if s = 105 ∨ s = 107 ∨ s = 120 ∨ s = 121 ∨ s = 122 then 2 else if 97 ≤ s ∧ s < 103 then 1 else -1
def nxt (st s b : Int) : Int := if st = 0 then hd0 s else if st = 1 then (if 49 ≤ s ∧ s ≤ 57 then 0 else -1) else if st = 2 then (if 97 ≤ s ∧ s < 103 then 0 else -1) else if st = 3 then (if 97 ≤ s ∧ s < 103 then 4 else -1) else (if (97 ≤ s ∧ s < 103) ∧ s ≠ b then 0 else -1)
def pv (p : Int → Int) (k : Int) : Int := if k ≤ 0 then 0 else p (k - 1)
def sfl (p : Int → Int) : Nat → Int → Int → Int
  | 0, k, st => if st = 0 then -6 else k
  | r + 1, k, st => if nxt st (p k) (pv p k) = -1 then k else sfl p r (k + 1) (nxt st (p k) (pv p k))
theorem sfl_end {p : Int → Int} {n k st : Int} (h : n ≤ k) : sfl p (n - k).toNat k st = if st = 0 then -6 else k := by
  rw [show (n - k).toNat = 0 by omega]
  rfl
theorem sfl_step {p : Int → Int} {n k st : Int} (h : k < n) : sfl p (n - k).toNat k st = if nxt st (p k) (pv p k) = -1 then k else sfl p (n - (k + 1)).toNat (k + 1) (nxt st (p k) (pv p k)) := by
  rw [show (n - k).toNat = (n - (k + 1)).toNat + 1 by omega]
  rfl
theorem hd0_rng (s : Int) : -1 ≤ hd0 s ∧ hd0 s ≤ 4 := by
  unfold hd0
  repeat' split
  all_goals omega
theorem nxt_rng (st s b : Int) : -1 ≤ nxt st s b ∧ nxt st s b ≤ 4 := by
  have := hd0_rng s
  unfold nxt
  repeat' split
  all_goals omega
/-- the fault of the pad as a sitting -/
def sFault (p : Int → Int) (n : Int) : Int := sfl p n.toNat 0 0
/-- the fault of the pad as a book -/
def bfl (p : Int → Int) (n : Int) : Nat → Int → Int → Int
  | 0, _, _ => if n = 0 then 0 else -6
  | r + 1, k, h => if (¬ ((97 ≤ p k ∧ p k < 103) ∨ p k = 46 ∨ p k = 42)) ∨ k ≥ 12 ∨ (if p k = 42 then h + 1 else h) > 5 then k else bfl p n r (k + 1) (if p k = 42 then h + 1 else h)
theorem bfl_end {p : Int → Int} {n k h : Int} (hk : n ≤ k) : bfl p n (n - k).toNat k h = if n = 0 then 0 else -6 := by
  rw [show (n - k).toNat = 0 by omega]
  rfl
theorem bfl_step {p : Int → Int} {n k h : Int} (hk : k < n) : bfl p n (n - k).toNat k h = if (¬ ((97 ≤ p k ∧ p k < 103) ∨ p k = 46 ∨ p k = 42)) ∨ k ≥ 12 ∨ (if p k = 42 then h + 1 else h) > 5 then k else bfl p n (n - (k + 1)).toNat (k + 1) (if p k = 42 then h + 1 else h) := by
  rw [show (n - k).toNat = (n - (k + 1)).toNat + 1 by omega]
  rfl
def bFault (p : Int → Int) (n : Int) : Int := bfl p n n.toNat 0 0
/-- what is known of a pad of n signs -/
def PadOK (p : Int → Int) (n : Int) : Prop := 0 ≤ n ∧ n ≤ 40 ∧ ∀ i, 0 ≤ i → i < 40 → 0 ≤ p i ∧ p i ≤ 126

set_option maxRecDepth 100000 in
set_option maxHeartbeats 4000000 in
theorem c_X5_sign (M : Mm) (i : Int) (hi : inI i) (hn : 0 ≤ M 20 1 ∧ M 20 1 ≤ 40) : CtI yX5_sign cX5_sign 2 .int 1 SH [rv 20, iv i] M (fun r M' => r = sgn M i ∧ M' = M) := by
  refine CtI.of rfl (Nat.le_of_ble_eq_true rfl) (Or.inl rfl) (fun v as E hret => ?_)
  show Ws v as SH 0 0 0 [some (rv 20), some (iv i)] [] M
  refine s_iload_n E dX5_sign_0 rfl ?_
  refine s_if_lt E 27 dX5_sign_1 (by decide) (by omega) (fun h1 => ?_) (fun h1 => ?_)
  · refine s_iconst E dX5_sign_27 ?_
    refine hret _ _ ?_ (fun q => by cases q) _ _ dX5_sign_28
    exact ⟨(sgn_out (by omega)).symm, rfl⟩
  · refine s_iload_n E dX5_sign_4 rfl ?_
    refine s_aload_n E dX5_sign_5 rfl ?_
    refine s_getI (kf := 1) E 1 rfl dX5_sign_6 rfl inb_X5 (Nat.le_of_ble_eq_true rfl) fl_X5_15 (by decide) sh20 rfl ?_
    refine s_icmp_ge E 27 dX5_sign_9 (by decide) (by omega) (by omega) (fun h9 => ?_) (fun h9 => ?_)
    · refine s_iconst E dX5_sign_27 ?_
      refine hret _ _ ?_ (fun q => by cases q) _ _ dX5_sign_28
      exact ⟨(sgn_out (by omega)).symm, rfl⟩
    · refine s_iload_n E dX5_sign_12 rfl ?_
      refine s_bipush E dX5_sign_13 rfl ?_
      refine s_icmp_ge E 27 dX5_sign_15 (by decide) (by omega) (by omega) (fun h15 => ?_) (fun h15 => ?_)
      · refine s_iconst E dX5_sign_27 ?_
        refine hret _ _ ?_ (fun q => by cases q) _ _ dX5_sign_28
        exact ⟨(sgn_out (by omega)).symm, rfl⟩
      · refine s_aload_n E dX5_sign_18 rfl ?_
        refine s_getR (kf := 0) E dX5_sign_19 rfl inb_X5 (Nat.le_of_ble_eq_true rfl) fl_X5_9 (by decide) sh20 rfl ?_
        refine s_iload_n E dX5_sign_22 rfl ?_
        refine s_iald E dX5_sign_23 (by decide) sh21 (Nat.le_of_ble_eq_true rfl) (by omega) ?_
        refine s_goto E 28 dX5_sign_24 (by decide) ?_
        refine hret _ _ ?_ (fun q => by cases q) _ _ dX5_sign_28
        exact ⟨(sgn_in ⟨by omega, by omega⟩).symm, rfl⟩

set_option maxRecDepth 100000 in
set_option maxHeartbeats 4000000 in
theorem c_X5_add (M : Mm) (s : Int) (hn : 0 ≤ M 20 1 ∧ M 20 1 ≤ 40) : CtI yX5_add cX5_add 2 .boolean 1 SH [rv 20, iv s] M (fun r M' => r = b2 (M 20 1 < 40) ∧ M' = if M 20 1 < 40 then upm (upm M 21 (M 20 1) s) 20 1 (M 20 1 + 1) else M) := by
  refine CtI.of rfl (Nat.le_of_ble_eq_true rfl) (Or.inr rfl) (fun v as E hret => ?_)
  show Ws v as SH 0 0 0 [some (rv 20), some (iv s)] [] M
  refine s_aload_n E dX5_add_0 rfl ?_
  refine s_getI (kf := 1) E 1 rfl dX5_add_1 rfl inb_X5 (Nat.le_of_ble_eq_true rfl) fl_X5_15 (by decide) sh20 rfl ?_
  refine s_if_lt E 16 dX5_add_4 (by decide) (by omega) (fun h4 => ?_) (fun h4 => ?_)
  · refine s_iconst E dX5_add_16 ?_
    refine hret _ _ ?_ (fun _ => Or.inl rfl) _ _ dX5_add_17
    exact ⟨(b2_neg (by omega)).symm, (if_neg (by omega)).symm⟩
  · refine s_aload_n E dX5_add_7 rfl ?_
    refine s_getI (kf := 1) E 1 rfl dX5_add_8 rfl inb_X5 (Nat.le_of_ble_eq_true rfl) fl_X5_15 (by decide) sh20 rfl ?_
    refine s_bipush E dX5_add_11 rfl ?_
    refine s_icmp_lt E 18 dX5_add_13 (by decide) (by omega) (by omega) (fun h13 => ?_) (fun h13 => ?_)
    · refine s_aload_n E dX5_add_18 rfl ?_
      refine s_getR (kf := 0) E dX5_add_19 rfl inb_X5 (Nat.le_of_ble_eq_true rfl) fl_X5_9 (by decide) sh20 rfl ?_
      refine s_aload_n E dX5_add_22 rfl ?_
      refine s_getI (kf := 1) E 1 rfl dX5_add_23 rfl inb_X5 (Nat.le_of_ble_eq_true rfl) fl_X5_15 (by decide) sh20 rfl ?_
      refine s_iload_n E dX5_add_26 rfl ?_
      refine s_iast E dX5_add_27 (by decide) sh21 (Nat.le_of_ble_eq_true rfl) (by omega) ?_
      refine s_aload_n E dX5_add_28 rfl ?_
      refine s_dup E dX5_add_29 ?_
      refine s_getI (kf := 1) E 1 rfl dX5_add_30 rfl inb_X5 (Nat.le_of_ble_eq_true rfl) fl_X5_15 (by decide) sh20 rfl ?_
      refine s_iconst E dX5_add_33 ?_
      refine s_iadd E dX5_add_34 ?_
      refine s_putI (kf := 1) E 1 rfl dX5_add_35 rfl inb_X5 tyX5_ok nmX5 (Nat.le_of_ble_eq_true rfl) ⟨rfl, rfl⟩ fl_X5_15 (by decide) sh20 rfl ?_
      refine s_iconst E dX5_add_38 ?_
      refine hret _ _ ?_ (fun _ => Or.inr rfl) _ _ dX5_add_39
      exact ⟨(b2_pos (by omega)).symm, (if_pos (by omega)).symm⟩
    · refine s_iconst E dX5_add_16 ?_
      refine hret _ _ ?_ (fun _ => Or.inl rfl) _ _ dX5_add_17
      exact ⟨(b2_neg (by omega)).symm, (if_neg (by omega)).symm⟩

set_option maxRecDepth 100000 in
set_option maxHeartbeats 4000000 in
theorem c_X5_wantedBehindHead (M : Mm) (s : Int) (hs : 0 ≤ s ∧ s ≤ 126) : CtI yX5_wantedBehindHead cX5_wantedBehindHead 1 .int 3 SH [iv s] M (fun r M' => r = hd0 s ∧ M' = M) := by
  refine CtI.of rfl (Nat.le_of_ble_eq_true rfl) (Or.inl rfl) (fun v as E hret => ?_)
  show Ws v as SH 0 0 0 [some (iv s)] [] M
  refine s_iload_n E dX5_wantedBehindHead_0 rfl ?_
  refine s_lcase E (46) 72 dX5_wantedBehindHead_1 (by decide) rfl rfl (by decide) (fun h1_46 => ?_) (fun h1_46 => ?_)
  · refine s_iconst E dX5_wantedBehindHead_72 ?_
    refine hret _ _ ?_ (fun q => by cases q) _ _ dX5_wantedBehindHead_73
    exact ⟨by unfold hd0; (repeat' split) <;> omega, rfl⟩
  refine s_lcase E (63) 70 dX5_wantedBehindHead_1 (by decide) rfl rfl (by decide) (fun h1_63 => ?_) (fun h1_63 => ?_)
  · refine s_iconst E dX5_wantedBehindHead_70 ?_
    refine hret _ _ ?_ (fun q => by cases q) _ _ dX5_wantedBehindHead_71
    exact ⟨by unfold hd0; (repeat' split) <;> omega, rfl⟩
  refine s_lcase E (105) 68 dX5_wantedBehindHead_1 (by decide) rfl rfl (by decide) (fun h1_105 => ?_) (fun h1_105 => ?_)
  · refine s_iconst E dX5_wantedBehindHead_68 ?_
    refine hret _ _ ?_ (fun q => by cases q) _ _ dX5_wantedBehindHead_69
    exact ⟨by unfold hd0; (repeat' split) <;> omega, rfl⟩
  refine s_lcase E (107) 68 dX5_wantedBehindHead_1 (by decide) rfl rfl (by decide) (fun h1_107 => ?_) (fun h1_107 => ?_)
  · refine s_iconst E dX5_wantedBehindHead_68 ?_
    refine hret _ _ ?_ (fun q => by cases q) _ _ dX5_wantedBehindHead_69
    exact ⟨by unfold hd0; (repeat' split) <;> omega, rfl⟩
  refine s_lcase E (120) 68 dX5_wantedBehindHead_1 (by decide) rfl rfl (by decide) (fun h1_120 => ?_) (fun h1_120 => ?_)
  · refine s_iconst E dX5_wantedBehindHead_68 ?_
    refine hret _ _ ?_ (fun q => by cases q) _ _ dX5_wantedBehindHead_69
    exact ⟨by unfold hd0; (repeat' split) <;> omega, rfl⟩
  refine s_lcase E (121) 68 dX5_wantedBehindHead_1 (by decide) rfl rfl (by decide) (fun h1_121 => ?_) (fun h1_121 => ?_)
  · refine s_iconst E dX5_wantedBehindHead_68 ?_
    refine hret _ _ ?_ (fun q => by cases q) _ _ dX5_wantedBehindHead_69
    exact ⟨by unfold hd0; (repeat' split) <;> omega, rfl⟩
  refine s_lcase E (122) 68 dX5_wantedBehindHead_1 (by decide) rfl rfl (by decide) (fun h1_122 => ?_) (fun h1_122 => ?_)
  · refine s_iconst E dX5_wantedBehindHead_68 ?_
    refine hret _ _ ?_ (fun q => by cases q) _ _ dX5_wantedBehindHead_69
    exact ⟨by unfold hd0; (repeat' split) <;> omega, rfl⟩
  refine s_lout E 74 dX5_wantedBehindHead_1 (by omega) rfl ((if_neg (Ne.symm h1_46)).trans ((if_neg (Ne.symm h1_63)).trans ((if_neg (Ne.symm h1_105)).trans ((if_neg (Ne.symm h1_107)).trans ((if_neg (Ne.symm h1_120)).trans ((if_neg (Ne.symm h1_121)).trans ((if_neg (Ne.symm h1_122)).trans rfl))))))) (by decide) ?_
  refine s_iload_n E dX5_wantedBehindHead_74 rfl ?_
  refine s_callSNi E (c_X7_isOneSign _ _ (by omega)) dX5_wantedBehindHead_75 mf_X7_isOneSign ml_X5_27 rfl (Nat.le_of_ble_eq_true rfl) (Nat.le_of_ble_eq_true rfl) rfl (fun r75 M75 h75 => ?_)
  obtain ⟨e75, f75⟩ := h75; subst r75; subst M75
  refine s_ifeqB E 85 dX5_wantedBehindHead_78 (by decide) (fun h78 => ?_) (fun h78 => ?_)
  · refine s_iconst E dX5_wantedBehindHead_85 ?_
    refine hret _ _ ?_ (fun q => by cases q) _ _ dX5_wantedBehindHead_86
    exact ⟨by unfold hd0; (repeat' split) <;> omega, rfl⟩
  · refine s_iconst E dX5_wantedBehindHead_81 ?_
    refine s_goto E 86 dX5_wantedBehindHead_82 (by decide) ?_
    refine hret _ _ ?_ (fun q => by cases q) _ _ dX5_wantedBehindHead_86
    exact ⟨by unfold hd0; (repeat' split) <;> omega, rfl⟩

set_option maxRecDepth 100000 in
set_option maxHeartbeats 4000000 in
theorem c_X5_wantedBehind (M : Mm) (st s b : Int) (ht : 0 ≤ st ∧ st ≤ 4) (hs : 0 ≤ s ∧ s ≤ 126) (hb : inI b) : CtI yX5_wantedBehind cX5_wantedBehind 3 .int 4 SH [iv st, iv s, iv b] M (fun r M' => r = nxt st s b ∧ M' = M) := by
  refine CtI.of rfl (Nat.le_of_ble_eq_true rfl) (Or.inl rfl) (fun v as E hret => ?_)
  show Ws v as SH 0 0 0 [some (iv st), some (iv s), some (iv b)] [] M
  refine s_iload_n E dX5_wantedBehind_0 rfl ?_
  refine s_tcase E (0) 32 dX5_wantedBehind_1 (by decide) rfl (by decide) (fun h1_0 => ?_) (fun h1_0 => ?_)
  · refine s_iload_n E dX5_wantedBehind_32 rfl ?_
    refine s_callSi E (c_X5_wantedBehindHead _ _ (by omega)) dX5_wantedBehind_33 mf_X5_wantedBehindHead ml_X5_31 rfl (Nat.le_of_ble_eq_true rfl) (Nat.le_of_ble_eq_true rfl) rfl (fun r33 M33 h33 => ?_)
    obtain ⟨e33, f33⟩ := h33; subst r33; subst M33
    refine hret _ _ ?_ (fun q => by cases q) _ _ dX5_wantedBehind_36
    exact ⟨by unfold nxt; (repeat' split) <;> first | rfl | omega, rfl⟩
  refine s_tcase E (1) 37 dX5_wantedBehind_1 (by decide) rfl (by decide) (fun h1_1 => ?_) (fun h1_1 => ?_)
  · refine s_iload_n E dX5_wantedBehind_37 rfl ?_
    refine s_bipush E dX5_wantedBehind_38 rfl ?_
    refine s_icmp_lt E 53 dX5_wantedBehind_40 (by decide) (by omega) (by omega) (fun h40 => ?_) (fun h40 => ?_)
    · refine s_iconst E dX5_wantedBehind_53 ?_
      refine hret _ _ ?_ (fun q => by cases q) _ _ dX5_wantedBehind_54
      exact ⟨by unfold nxt; (repeat' split) <;> first | rfl | omega, rfl⟩
    · refine s_iload_n E dX5_wantedBehind_43 rfl ?_
      refine s_bipush E dX5_wantedBehind_44 rfl ?_
      refine s_icmp_gt E 53 dX5_wantedBehind_46 (by decide) (by omega) (by omega) (fun h46 => ?_) (fun h46 => ?_)
      · refine s_iconst E dX5_wantedBehind_53 ?_
        refine hret _ _ ?_ (fun q => by cases q) _ _ dX5_wantedBehind_54
        exact ⟨by unfold nxt; (repeat' split) <;> first | rfl | omega, rfl⟩
      · refine s_iconst E dX5_wantedBehind_49 ?_
        refine s_goto E 54 dX5_wantedBehind_50 (by decide) ?_
        refine hret _ _ ?_ (fun q => by cases q) _ _ dX5_wantedBehind_54
        exact ⟨by unfold nxt; (repeat' split) <;> first | rfl | omega, rfl⟩
  refine s_tcase E (2) 55 dX5_wantedBehind_1 (by decide) rfl (by decide) (fun h1_2 => ?_) (fun h1_2 => ?_)
  · refine s_iload_n E dX5_wantedBehind_55 rfl ?_
    refine s_callSNi E (c_X7_isOneSign _ _ (by omega)) dX5_wantedBehind_56 mf_X7_isOneSign ml_X5_27 rfl (Nat.le_of_ble_eq_true rfl) (Nat.le_of_ble_eq_true rfl) rfl (fun r56 M56 h56 => ?_)
    obtain ⟨e56, f56⟩ := h56; subst r56; subst M56
    refine s_ifeqB E 66 dX5_wantedBehind_59 (by decide) (fun h59 => ?_) (fun h59 => ?_)
    · refine s_iconst E dX5_wantedBehind_66 ?_
      refine hret _ _ ?_ (fun q => by cases q) _ _ dX5_wantedBehind_67
      exact ⟨by unfold nxt; (repeat' split) <;> first | rfl | omega, rfl⟩
    · refine s_iconst E dX5_wantedBehind_62 ?_
      refine s_goto E 67 dX5_wantedBehind_63 (by decide) ?_
      refine hret _ _ ?_ (fun q => by cases q) _ _ dX5_wantedBehind_67
      exact ⟨by unfold nxt; (repeat' split) <;> first | rfl | omega, rfl⟩
  refine s_tcase E (3) 68 dX5_wantedBehind_1 (by decide) rfl (by decide) (fun h1_3 => ?_) (fun h1_3 => ?_)
  · refine s_iload_n E dX5_wantedBehind_68 rfl ?_
    refine s_callSNi E (c_X7_isOneSign _ _ (by omega)) dX5_wantedBehind_69 mf_X7_isOneSign ml_X5_27 rfl (Nat.le_of_ble_eq_true rfl) (Nat.le_of_ble_eq_true rfl) rfl (fun r69 M69 h69 => ?_)
    obtain ⟨e69, f69⟩ := h69; subst r69; subst M69
    refine s_ifeqB E 79 dX5_wantedBehind_72 (by decide) (fun h72 => ?_) (fun h72 => ?_)
    · refine s_iconst E dX5_wantedBehind_79 ?_
      refine hret _ _ ?_ (fun q => by cases q) _ _ dX5_wantedBehind_80
      exact ⟨by unfold nxt; (repeat' split) <;> first | rfl | omega, rfl⟩
    · refine s_iconst E dX5_wantedBehind_75 ?_
      refine s_goto E 80 dX5_wantedBehind_76 (by decide) ?_
      refine hret _ _ ?_ (fun q => by cases q) _ _ dX5_wantedBehind_80
      exact ⟨by unfold nxt; (repeat' split) <;> first | rfl | omega, rfl⟩
  refine s_tout E 81 dX5_wantedBehind_1 (by omega) (by omega) (by decide) ?_
  refine s_iload_n E dX5_wantedBehind_81 rfl ?_
  refine s_callSNi E (c_X7_isOneSign _ _ (by omega)) dX5_wantedBehind_82 mf_X7_isOneSign ml_X5_27 rfl (Nat.le_of_ble_eq_true rfl) (Nat.le_of_ble_eq_true rfl) rfl (fun r82 M82 h82 => ?_)
  obtain ⟨e82, f82⟩ := h82; subst r82; subst M82
  refine s_ifeqB E 97 dX5_wantedBehind_85 (by decide) (fun h85 => ?_) (fun h85 => ?_)
  · refine s_iconst E dX5_wantedBehind_97 ?_
    refine hret _ _ ?_ (fun q => by cases q) _ _ dX5_wantedBehind_98
    exact ⟨by unfold nxt; (repeat' split) <;> first | rfl | omega, rfl⟩
  · refine s_iload_n E dX5_wantedBehind_88 rfl ?_
    refine s_iload_n E dX5_wantedBehind_89 rfl ?_
    refine s_icmp_eq E 97 dX5_wantedBehind_90 (by decide) (by omega) (by omega) (fun h90 => ?_) (fun h90 => ?_)
    · refine s_iconst E dX5_wantedBehind_97 ?_
      refine hret _ _ ?_ (fun q => by cases q) _ _ dX5_wantedBehind_98
      exact ⟨by unfold nxt; (repeat' split) <;> first | rfl | omega, rfl⟩
    · refine s_iconst E dX5_wantedBehind_93 ?_
      refine s_goto E 98 dX5_wantedBehind_94 (by decide) ?_
      refine hret _ _ ?_ (fun q => by cases q) _ _ dX5_wantedBehind_98
      exact ⟨by unfold nxt; (repeat' split) <;> first | rfl | omega, rfl⟩

theorem sfl_go {p : Int → Int} {n k st c : Int} (hk : k < n) (e : nxt st (p k) (pv p k) = c) (hc : c ≠ -1) : sfl p (n - k).toNat k st = sfl p (n - (k + 1)).toNat (k + 1) c := by
  rw [sfl_step hk, e, if_neg hc]
theorem sfl_stop {p : Int → Int} {n k st : Int} (hk : k < n) (e : nxt st (p k) (pv p k) = -1) : sfl p (n - k).toNat k st = k := by
  rw [sfl_step hk, e, if_pos rfl]
theorem bfl_go {p : Int → Int} {n k h c : Int} (hk : k < n) (e : (if p k = 42 then h + 1 else h) = c) (hc : ¬ ((¬ ((97 ≤ p k ∧ p k < 103) ∨ p k = 46 ∨ p k = 42)) ∨ k ≥ 12 ∨ c > 5)) : bfl p n (n - k).toNat k h = bfl p n (n - (k + 1)).toNat (k + 1) c := by
  rw [bfl_step hk, e, if_neg hc]
theorem bfl_stop {p : Int → Int} {n k h c : Int} (hk : k < n) (e : (if p k = 42 then h + 1 else h) = c) (hc : (¬ ((97 ≤ p k ∧ p k < 103) ∨ p k = 46 ∨ p k = 42)) ∨ k ≥ 12 ∨ c > 5) : bfl p n (n - k).toNat k h = k := by
  rw [bfl_step hk, e, if_pos hc]
theorem sgn_pv {M : Mm} {k : Int} (h : 0 ≤ k ∧ k ≤ M 20 1) : sgn M (k - 1) = pv (M 21) k := by
  unfold pv
  split
  · exact sgn_out (by omega)
  · exact sgn_in ⟨by omega, by omega⟩
theorem pv_rng {p : Int → Int} {n k : Int} (hp : PadOK p n) (hk : 0 ≤ k ∧ k ≤ 40) : 0 ≤ pv p k ∧ pv p k ≤ 126 := by
  unfold pv
  split
  · omega
  · exact hp.2.2 (k - 1) (by omega) (by omega)

set_option maxRecDepth 100000 in
set_option maxHeartbeats 4000000 in
theorem lp_X5_sf {v : Ev} {as : List Nat} (M : Mm) (hp : PadOK (M 21) (M 20 1)) (E : Cx v cX5_sittingFault 3 yX5_sittingFault.cls 5) (hret : RetI v as cX5_sittingFault .int (fun r M' => r = sFault (M 21) (M 20 1) ∧ M' = M)) : ∀ (N : Nat) (k st : Int), (M 20 1 - k).toNat < N → (0 ≤ k ∧ k ≤ M 20 1) → (0 ≤ st ∧ st ≤ 4) → (sfl (M 21) (M 20 1 - k).toNat k st = sFault (M 21) (M 20 1)) → Ws v as SH 0 0 4 [some (rv 20), some (iv st), some (iv k)] [] M := by
  intro N
  induction N with
  | zero =>
    intro k st hN
    exact absurd hN (Nat.not_lt_zero _)
  | succ N ih =>
    intro k st hN g0 g1 g2
    have hp0 := hp.1; have hp1 := hp.2.1; have hp2 := hp.2.2
    refine s_iload_n E dX5_sittingFault_4 rfl ?_
    refine s_aload_n E dX5_sittingFault_5 rfl ?_
    refine s_getI (kf := 1) E 1 rfl dX5_sittingFault_6 rfl inb_X5 (Nat.le_of_ble_eq_true rfl) fl_X5_15 (by decide) sh20 rfl ?_
    refine s_icmp_ge E 42 dX5_sittingFault_9 (by decide) (by omega) (by omega) (fun h9 => ?_) (fun h9 => ?_)
    · refine s_iload_n E dX5_sittingFault_42 rfl ?_
      refine s_if_ne E 51 dX5_sittingFault_43 (by decide) (by omega) (fun h43 => ?_) (fun h43 => ?_)
      · refine s_aload_n E dX5_sittingFault_51 rfl ?_
        refine s_getI (kf := 1) E 1 rfl dX5_sittingFault_52 rfl inb_X5 (Nat.le_of_ble_eq_true rfl) fl_X5_15 (by decide) sh20 rfl ?_
        refine hret _ _ ?_ (fun q => by cases q) _ _ dX5_sittingFault_55
        exact ⟨by rw [← g2, sfl_end (by omega)]; split <;> omega, rfl⟩
      · refine s_bipush E dX5_sittingFault_46 rfl ?_
        refine s_goto E 55 dX5_sittingFault_48 (by decide) ?_
        refine hret _ _ ?_ (fun q => by cases q) _ _ dX5_sittingFault_55
        exact ⟨by rw [← g2, sfl_end (by omega)]; split <;> omega, rfl⟩
    · refine s_iload_n E dX5_sittingFault_12 rfl ?_
      refine s_aload_n E dX5_sittingFault_13 rfl ?_
      refine s_iload_n E dX5_sittingFault_14 rfl ?_
      refine s_callVi E (c_X5_sign _ _ (by omega) (by omega)) dX5_sittingFault_15 mf_X5_sign ml_X5_19 rfl (Nat.le_of_ble_eq_true rfl) (Nat.le_of_ble_eq_true rfl) (by decide) sh20 rfl rfl (fun r15 M15 h15 => ?_)
      obtain ⟨e15, f15⟩ := h15; subst r15; subst M15
      rw [sgn_in (M := M) (i := k) ⟨by omega, by omega⟩]
      have b15 := hp2 k (by omega) (by omega)
      refine s_aload_n E dX5_sittingFault_18 rfl ?_
      refine s_iload_n E dX5_sittingFault_19 rfl ?_
      refine s_iconst E dX5_sittingFault_20 ?_
      refine s_isub E dX5_sittingFault_21 ?_
      refine s_callVi E (c_X5_sign _ _ (by omega) (by omega)) dX5_sittingFault_22 mf_X5_sign ml_X5_19 rfl (Nat.le_of_ble_eq_true rfl) (Nat.le_of_ble_eq_true rfl) (by decide) sh20 rfl rfl (fun r22 M22 h22 => ?_)
      obtain ⟨e22, f22⟩ := h22; subst r22; subst M22
      rw [sgn_pv (M := M) (k := k) ⟨by omega, by omega⟩]
      have b22 := pv_rng hp (k := k) (by omega)
      refine s_callSi E (c_X5_wantedBehind _ _ _ _ (by omega) (by omega) (by omega)) dX5_sittingFault_25 mf_X5_wantedBehind ml_X5_23 rfl (Nat.le_of_ble_eq_true rfl) (Nat.le_of_ble_eq_true rfl) rfl (fun r25 M25 h25 => ?_)
      obtain ⟨e25, f25⟩ := h25; subst r25; subst M25
      have b25 := nxt_rng st (M 21 k) (pv (M 21) k)
      refine s_istore_n (ls' := [_, _, _]) E dX5_sittingFault_28 (Nat.le_of_ble_eq_true rfl) rfl ?_
      refine s_iload_n E dX5_sittingFault_29 rfl ?_
      refine s_iconst E dX5_sittingFault_30 ?_
      refine s_icmp_ne E 36 dX5_sittingFault_31 (by decide) (by omega) (by omega) (fun h31 => ?_) (fun h31 => ?_)
      · refine s_iinc (ls' := [_, _, _]) E dX5_sittingFault_36 rfl rfl ?_
        refine s_goto E 4 dX5_sittingFault_39 (by decide) ?_
        exact ih _ _ (by omega) (by omega) (by omega) (by rw [← g2]; exact (sfl_go (by omega) rfl h31).symm)
      · refine s_iload_n E dX5_sittingFault_34 rfl ?_
        refine hret _ _ ?_ (fun q => by cases q) _ _ dX5_sittingFault_35
        exact ⟨by rw [← g2]; exact (sfl_stop (by omega) (Classical.byContradiction h31)).symm, rfl⟩

set_option maxRecDepth 100000 in
set_option maxHeartbeats 4000000 in
theorem c_X5_sittingFault (M : Mm) (hp : PadOK (M 21) (M 20 1)) : CtI yX5_sittingFault cX5_sittingFault 3 .int 5 SH [rv 20] M (fun r M' => r = sFault (M 21) (M 20 1) ∧ M' = M) := by
  refine CtI.of rfl (Nat.le_of_ble_eq_true rfl) (Or.inl rfl) (fun v as E hret => ?_)
  show Ws v as SH 0 0 0 [some (rv 20), none, none] [] M
  refine s_iconst E dX5_sittingFault_0 ?_
  refine s_istore_n (ls' := [_, _, _]) E dX5_sittingFault_1 (Nat.le_of_ble_eq_true rfl) rfl ?_
  refine s_iconst E dX5_sittingFault_2 ?_
  refine s_istore_n (ls' := [_, _, _]) E dX5_sittingFault_3 (Nat.le_of_ble_eq_true rfl) rfl ?_
  exact lp_X5_sf M hp E hret ((M 20 1 - 0).toNat + 1) 0 0 (Nat.lt_succ_self _) (by have := hp.1; omega) (by omega) (by rw [Int.sub_zero]; rfl)

set_option maxRecDepth 100000 in
set_option maxHeartbeats 4000000 in
theorem lp_X5_bf {v : Ev} {as : List Nat} (M : Mm) (hp : PadOK (M 21) (M 20 1)) (E : Cx v cX5_bookFault 5 yX5_bookFault.cls 5) (hret : RetI v as cX5_bookFault .int (fun r M' => r = bFault (M 21) (M 20 1) ∧ M' = M)) : ∀ (N : Nat) (k h : Int) (o3 o4 : Option Vv), (M 20 1 - k).toNat < N → (0 ≤ k ∧ k ≤ M 20 1) → (0 ≤ h ∧ h ≤ k) → (bfl (M 21) (M 20 1) (M 20 1 - k).toNat k h = bFault (M 21) (M 20 1)) → Ws v as SH 0 0 4 [some (rv 20), some (iv h), some (iv k), o3, o4] [] M := by
  intro N
  induction N with
  | zero =>
    intro k h o3 o4 hN
    exact absurd hN (Nat.not_lt_zero _)
  | succ N ih =>
    intro k h o3 o4 hN g0 g1 g2
    have hp0 := hp.1; have hp1 := hp.2.1; have hp2 := hp.2.2
    refine s_iload_n E dX5_bookFault_4 rfl ?_
    refine s_aload_n E dX5_bookFault_5 rfl ?_
    refine s_getI (kf := 1) E 1 rfl dX5_bookFault_6 rfl inb_X5 (Nat.le_of_ble_eq_true rfl) fl_X5_15 (by decide) sh20 rfl ?_
    refine s_icmp_ge E 82 dX5_bookFault_9 (by decide) (by omega) (by omega) (fun h9 => ?_) (fun h9 => ?_)
    · refine s_aload_n E dX5_bookFault_82 rfl ?_
      refine s_getI (kf := 1) E 1 rfl dX5_bookFault_83 rfl inb_X5 (Nat.le_of_ble_eq_true rfl) fl_X5_15 (by decide) sh20 rfl ?_
      refine s_if_ne E 93 dX5_bookFault_86 (by decide) (by omega) (fun h86 => ?_) (fun h86 => ?_)
      · refine s_bipush E dX5_bookFault_93 rfl ?_
        refine hret _ _ ?_ (fun q => by cases q) _ _ dX5_bookFault_95
        exact ⟨by rw [← g2, bfl_end (by omega)]; split <;> omega, rfl⟩
      · refine s_iconst E dX5_bookFault_89 ?_
        refine s_goto E 95 dX5_bookFault_90 (by decide) ?_
        refine hret _ _ ?_ (fun q => by cases q) _ _ dX5_bookFault_95
        exact ⟨by rw [← g2, bfl_end (by omega)]; split <;> omega, rfl⟩
    · refine s_aload_n E dX5_bookFault_12 rfl ?_
      refine s_iload_n E dX5_bookFault_13 rfl ?_
      refine s_callVi E (c_X5_sign _ _ (by omega) (by omega)) dX5_bookFault_14 mf_X5_sign ml_X5_19 rfl (Nat.le_of_ble_eq_true rfl) (Nat.le_of_ble_eq_true rfl) (by decide) sh20 rfl rfl (fun r14 M14 h14 => ?_)
      obtain ⟨e14, f14⟩ := h14; subst r14; subst M14
      rw [sgn_in (M := M) (i := k) ⟨by omega, by omega⟩]
      have b14 := hp2 k (by omega) (by omega)
      refine s_istore_n (ls' := [_, _, _, _, _]) E dX5_bookFault_17 (Nat.le_of_ble_eq_true rfl) rfl ?_
      refine s_iload_n E dX5_bookFault_18 rfl ?_
      refine s_iload_n E dX5_bookFault_19 rfl ?_
      refine s_bipush E dX5_bookFault_20 rfl ?_
      refine s_icmp_ne E 29 dX5_bookFault_22 (by decide) (by omega) (by omega) (fun h22 => ?_) (fun h22 => ?_)
      · refine s_iconst E dX5_bookFault_29 ?_
        refine s_iadd E dX5_bookFault_30 ?_
        refine s_istore_n (ls' := [_, _, _, _, _]) E dX5_bookFault_31 (Nat.le_of_ble_eq_true rfl) rfl ?_
        refine s_iload_n E dX5_bookFault_32 rfl ?_
        refine s_callSNi E (c_X7_isOneSign _ _ (by omega)) dX5_bookFault_33 mf_X7_isOneSign ml_X5_27 rfl (Nat.le_of_ble_eq_true rfl) (Nat.le_of_ble_eq_true rfl) rfl (fun r33 M33 h33 => ?_)
        obtain ⟨e33, f33⟩ := h33; subst r33; subst M33
        refine s_ifneB E 51 dX5_bookFault_36 (by decide) (fun h36 => ?_) (fun h36 => ?_)
        · refine s_iconst E dX5_bookFault_51 ?_
          refine s_goto E 56 dX5_bookFault_52 (by decide) ?_
          refine s_istore (ls' := [_, _, _, _, _]) E dX5_bookFault_56 (Nat.le_of_ble_eq_true rfl) rfl ?_
          refine s_iload E dX5_bookFault_58 rfl ?_
          refine s_if_eq E 74 dX5_bookFault_60 (by decide) (by omega) (fun h60 => ?_) (fun h60 => ?_)
          · exact absurd h60 (by decide)
          · refine s_iload_n E dX5_bookFault_63 rfl ?_
            refine s_bipush E dX5_bookFault_64 rfl ?_
            refine s_icmp_ge E 74 dX5_bookFault_66 (by decide) (by omega) (by omega) (fun h66 => ?_) (fun h66 => ?_)
            · refine s_iload_n E dX5_bookFault_74 rfl ?_
              refine hret _ _ ?_ (fun q => by cases q) _ _ dX5_bookFault_75
              exact ⟨by rw [← g2]; exact (bfl_stop (c := h + 0) (by omega) (by split <;> omega) (by omega)).symm, rfl⟩
            · refine s_iload_n E dX5_bookFault_69 rfl ?_
              refine s_iconst E dX5_bookFault_70 ?_
              refine s_icmp_le E 76 dX5_bookFault_71 (by decide) (by omega) (by omega) (fun h71 => ?_) (fun h71 => ?_)
              · refine s_iinc (ls' := [_, _, _, _, _]) E dX5_bookFault_76 rfl rfl ?_
                refine s_goto E 4 dX5_bookFault_79 (by decide) ?_
                exact ih _ _ _ _ (by omega) (by omega) (by omega) (by rw [← g2]; exact (bfl_go (by omega) (by split <;> omega) (by omega)).symm)
              · refine s_iload_n E dX5_bookFault_74 rfl ?_
                refine hret _ _ ?_ (fun q => by cases q) _ _ dX5_bookFault_75
                exact ⟨by rw [← g2]; exact (bfl_stop (c := h + 0) (by omega) (by split <;> omega) (by omega)).symm, rfl⟩
        · refine s_iload_n E dX5_bookFault_39 rfl ?_
          refine s_bipush E dX5_bookFault_40 rfl ?_
          refine s_icmp_eq E 51 dX5_bookFault_42 (by decide) (by omega) (by omega) (fun h42 => ?_) (fun h42 => ?_)
          · refine s_iconst E dX5_bookFault_51 ?_
            refine s_goto E 56 dX5_bookFault_52 (by decide) ?_
            refine s_istore (ls' := [_, _, _, _, _]) E dX5_bookFault_56 (Nat.le_of_ble_eq_true rfl) rfl ?_
            refine s_iload E dX5_bookFault_58 rfl ?_
            refine s_if_eq E 74 dX5_bookFault_60 (by decide) (by omega) (fun h60 => ?_) (fun h60 => ?_)
            · exact absurd h60 (by decide)
            · refine s_iload_n E dX5_bookFault_63 rfl ?_
              refine s_bipush E dX5_bookFault_64 rfl ?_
              refine s_icmp_ge E 74 dX5_bookFault_66 (by decide) (by omega) (by omega) (fun h66 => ?_) (fun h66 => ?_)
              · refine s_iload_n E dX5_bookFault_74 rfl ?_
                refine hret _ _ ?_ (fun q => by cases q) _ _ dX5_bookFault_75
                exact ⟨by rw [← g2]; exact (bfl_stop (c := h + 0) (by omega) (by split <;> omega) (by omega)).symm, rfl⟩
              · refine s_iload_n E dX5_bookFault_69 rfl ?_
                refine s_iconst E dX5_bookFault_70 ?_
                refine s_icmp_le E 76 dX5_bookFault_71 (by decide) (by omega) (by omega) (fun h71 => ?_) (fun h71 => ?_)
                · refine s_iinc (ls' := [_, _, _, _, _]) E dX5_bookFault_76 rfl rfl ?_
                  refine s_goto E 4 dX5_bookFault_79 (by decide) ?_
                  exact ih _ _ _ _ (by omega) (by omega) (by omega) (by rw [← g2]; exact (bfl_go (by omega) (by split <;> omega) (by omega)).symm)
                · refine s_iload_n E dX5_bookFault_74 rfl ?_
                  refine hret _ _ ?_ (fun q => by cases q) _ _ dX5_bookFault_75
                  exact ⟨by rw [← g2]; exact (bfl_stop (c := h + 0) (by omega) (by split <;> omega) (by omega)).symm, rfl⟩
          · refine s_iload_n E dX5_bookFault_45 rfl ?_
            refine s_bipush E dX5_bookFault_46 rfl ?_
            refine s_icmp_ne E 55 dX5_bookFault_48 (by decide) (by omega) (by omega) (fun h48 => ?_) (fun h48 => ?_)
            · refine s_iconst E dX5_bookFault_55 ?_
              refine s_istore (ls' := [_, _, _, _, _]) E dX5_bookFault_56 (Nat.le_of_ble_eq_true rfl) rfl ?_
              refine s_iload E dX5_bookFault_58 rfl ?_
              refine s_if_eq E 74 dX5_bookFault_60 (by decide) (by omega) (fun h60 => ?_) (fun h60 => ?_)
              · refine s_iload_n E dX5_bookFault_74 rfl ?_
                refine hret _ _ ?_ (fun q => by cases q) _ _ dX5_bookFault_75
                exact ⟨by rw [← g2]; exact (bfl_stop (c := h + 0) (by omega) (by split <;> omega) (by omega)).symm, rfl⟩
              · exact absurd h60 (by decide)
            · refine s_iconst E dX5_bookFault_51 ?_
              refine s_goto E 56 dX5_bookFault_52 (by decide) ?_
              refine s_istore (ls' := [_, _, _, _, _]) E dX5_bookFault_56 (Nat.le_of_ble_eq_true rfl) rfl ?_
              refine s_iload E dX5_bookFault_58 rfl ?_
              refine s_if_eq E 74 dX5_bookFault_60 (by decide) (by omega) (fun h60 => ?_) (fun h60 => ?_)
              · exact absurd h60 (by decide)
              · refine s_iload_n E dX5_bookFault_63 rfl ?_
                refine s_bipush E dX5_bookFault_64 rfl ?_
                refine s_icmp_ge E 74 dX5_bookFault_66 (by decide) (by omega) (by omega) (fun h66 => ?_) (fun h66 => ?_)
                · refine s_iload_n E dX5_bookFault_74 rfl ?_
                  refine hret _ _ ?_ (fun q => by cases q) _ _ dX5_bookFault_75
                  exact ⟨by rw [← g2]; exact (bfl_stop (c := h + 0) (by omega) (by split <;> omega) (by omega)).symm, rfl⟩
                · refine s_iload_n E dX5_bookFault_69 rfl ?_
                  refine s_iconst E dX5_bookFault_70 ?_
                  refine s_icmp_le E 76 dX5_bookFault_71 (by decide) (by omega) (by omega) (fun h71 => ?_) (fun h71 => ?_)
                  · refine s_iinc (ls' := [_, _, _, _, _]) E dX5_bookFault_76 rfl rfl ?_
                    refine s_goto E 4 dX5_bookFault_79 (by decide) ?_
                    exact ih _ _ _ _ (by omega) (by omega) (by omega) (by rw [← g2]; exact (bfl_go (by omega) (by split <;> omega) (by omega)).symm)
                  · refine s_iload_n E dX5_bookFault_74 rfl ?_
                    refine hret _ _ ?_ (fun q => by cases q) _ _ dX5_bookFault_75
                    exact ⟨by rw [← g2]; exact (bfl_stop (c := h + 0) (by omega) (by split <;> omega) (by omega)).symm, rfl⟩
      · refine s_iconst E dX5_bookFault_25 ?_
        refine s_goto E 30 dX5_bookFault_26 (by decide) ?_
        refine s_iadd E dX5_bookFault_30 ?_
        refine s_istore_n (ls' := [_, _, _, _, _]) E dX5_bookFault_31 (Nat.le_of_ble_eq_true rfl) rfl ?_
        refine s_iload_n E dX5_bookFault_32 rfl ?_
        refine s_callSNi E (c_X7_isOneSign _ _ (by omega)) dX5_bookFault_33 mf_X7_isOneSign ml_X5_27 rfl (Nat.le_of_ble_eq_true rfl) (Nat.le_of_ble_eq_true rfl) rfl (fun r33 M33 h33 => ?_)
        obtain ⟨e33, f33⟩ := h33; subst r33; subst M33
        refine s_ifneB E 51 dX5_bookFault_36 (by decide) (fun h36 => ?_) (fun h36 => ?_)
        · refine s_iconst E dX5_bookFault_51 ?_
          refine s_goto E 56 dX5_bookFault_52 (by decide) ?_
          refine s_istore (ls' := [_, _, _, _, _]) E dX5_bookFault_56 (Nat.le_of_ble_eq_true rfl) rfl ?_
          refine s_iload E dX5_bookFault_58 rfl ?_
          refine s_if_eq E 74 dX5_bookFault_60 (by decide) (by omega) (fun h60 => ?_) (fun h60 => ?_)
          · exact absurd h60 (by decide)
          · refine s_iload_n E dX5_bookFault_63 rfl ?_
            refine s_bipush E dX5_bookFault_64 rfl ?_
            refine s_icmp_ge E 74 dX5_bookFault_66 (by decide) (by omega) (by omega) (fun h66 => ?_) (fun h66 => ?_)
            · refine s_iload_n E dX5_bookFault_74 rfl ?_
              refine hret _ _ ?_ (fun q => by cases q) _ _ dX5_bookFault_75
              exact ⟨by rw [← g2]; exact (bfl_stop (c := h + 1) (by omega) (by split <;> omega) (by omega)).symm, rfl⟩
            · refine s_iload_n E dX5_bookFault_69 rfl ?_
              refine s_iconst E dX5_bookFault_70 ?_
              refine s_icmp_le E 76 dX5_bookFault_71 (by decide) (by omega) (by omega) (fun h71 => ?_) (fun h71 => ?_)
              · refine s_iinc (ls' := [_, _, _, _, _]) E dX5_bookFault_76 rfl rfl ?_
                refine s_goto E 4 dX5_bookFault_79 (by decide) ?_
                exact ih _ _ _ _ (by omega) (by omega) (by omega) (by rw [← g2]; exact (bfl_go (by omega) (by split <;> omega) (by omega)).symm)
              · refine s_iload_n E dX5_bookFault_74 rfl ?_
                refine hret _ _ ?_ (fun q => by cases q) _ _ dX5_bookFault_75
                exact ⟨by rw [← g2]; exact (bfl_stop (c := h + 1) (by omega) (by split <;> omega) (by omega)).symm, rfl⟩
        · refine s_iload_n E dX5_bookFault_39 rfl ?_
          refine s_bipush E dX5_bookFault_40 rfl ?_
          refine s_icmp_eq E 51 dX5_bookFault_42 (by decide) (by omega) (by omega) (fun h42 => ?_) (fun h42 => ?_)
          · refine s_iconst E dX5_bookFault_51 ?_
            refine s_goto E 56 dX5_bookFault_52 (by decide) ?_
            refine s_istore (ls' := [_, _, _, _, _]) E dX5_bookFault_56 (Nat.le_of_ble_eq_true rfl) rfl ?_
            refine s_iload E dX5_bookFault_58 rfl ?_
            refine s_if_eq E 74 dX5_bookFault_60 (by decide) (by omega) (fun h60 => ?_) (fun h60 => ?_)
            · exact absurd h60 (by decide)
            · refine s_iload_n E dX5_bookFault_63 rfl ?_
              refine s_bipush E dX5_bookFault_64 rfl ?_
              refine s_icmp_ge E 74 dX5_bookFault_66 (by decide) (by omega) (by omega) (fun h66 => ?_) (fun h66 => ?_)
              · refine s_iload_n E dX5_bookFault_74 rfl ?_
                refine hret _ _ ?_ (fun q => by cases q) _ _ dX5_bookFault_75
                exact ⟨by rw [← g2]; exact (bfl_stop (c := h + 1) (by omega) (by split <;> omega) (by omega)).symm, rfl⟩
              · refine s_iload_n E dX5_bookFault_69 rfl ?_
                refine s_iconst E dX5_bookFault_70 ?_
                refine s_icmp_le E 76 dX5_bookFault_71 (by decide) (by omega) (by omega) (fun h71 => ?_) (fun h71 => ?_)
                · refine s_iinc (ls' := [_, _, _, _, _]) E dX5_bookFault_76 rfl rfl ?_
                  refine s_goto E 4 dX5_bookFault_79 (by decide) ?_
                  exact ih _ _ _ _ (by omega) (by omega) (by omega) (by rw [← g2]; exact (bfl_go (by omega) (by split <;> omega) (by omega)).symm)
                · refine s_iload_n E dX5_bookFault_74 rfl ?_
                  refine hret _ _ ?_ (fun q => by cases q) _ _ dX5_bookFault_75
                  exact ⟨by rw [← g2]; exact (bfl_stop (c := h + 1) (by omega) (by split <;> omega) (by omega)).symm, rfl⟩
          · refine s_iload_n E dX5_bookFault_45 rfl ?_
            refine s_bipush E dX5_bookFault_46 rfl ?_
            refine s_icmp_ne E 55 dX5_bookFault_48 (by decide) (by omega) (by omega) (fun h48 => ?_) (fun h48 => ?_)
            · refine s_iconst E dX5_bookFault_55 ?_
              refine s_istore (ls' := [_, _, _, _, _]) E dX5_bookFault_56 (Nat.le_of_ble_eq_true rfl) rfl ?_
              refine s_iload E dX5_bookFault_58 rfl ?_
              refine s_if_eq E 74 dX5_bookFault_60 (by decide) (by omega) (fun h60 => ?_) (fun h60 => ?_)
              · refine s_iload_n E dX5_bookFault_74 rfl ?_
                refine hret _ _ ?_ (fun q => by cases q) _ _ dX5_bookFault_75
                exact ⟨by rw [← g2]; exact (bfl_stop (c := h + 1) (by omega) (by split <;> omega) (by omega)).symm, rfl⟩
              · exact absurd h60 (by decide)
            · refine s_iconst E dX5_bookFault_51 ?_
              refine s_goto E 56 dX5_bookFault_52 (by decide) ?_
              refine s_istore (ls' := [_, _, _, _, _]) E dX5_bookFault_56 (Nat.le_of_ble_eq_true rfl) rfl ?_
              refine s_iload E dX5_bookFault_58 rfl ?_
              refine s_if_eq E 74 dX5_bookFault_60 (by decide) (by omega) (fun h60 => ?_) (fun h60 => ?_)
              · exact absurd h60 (by decide)
              · refine s_iload_n E dX5_bookFault_63 rfl ?_
                refine s_bipush E dX5_bookFault_64 rfl ?_
                refine s_icmp_ge E 74 dX5_bookFault_66 (by decide) (by omega) (by omega) (fun h66 => ?_) (fun h66 => ?_)
                · refine s_iload_n E dX5_bookFault_74 rfl ?_
                  refine hret _ _ ?_ (fun q => by cases q) _ _ dX5_bookFault_75
                  exact ⟨by rw [← g2]; exact (bfl_stop (c := h + 1) (by omega) (by split <;> omega) (by omega)).symm, rfl⟩
                · refine s_iload_n E dX5_bookFault_69 rfl ?_
                  refine s_iconst E dX5_bookFault_70 ?_
                  refine s_icmp_le E 76 dX5_bookFault_71 (by decide) (by omega) (by omega) (fun h71 => ?_) (fun h71 => ?_)
                  · refine s_iinc (ls' := [_, _, _, _, _]) E dX5_bookFault_76 rfl rfl ?_
                    refine s_goto E 4 dX5_bookFault_79 (by decide) ?_
                    exact ih _ _ _ _ (by omega) (by omega) (by omega) (by rw [← g2]; exact (bfl_go (by omega) (by split <;> omega) (by omega)).symm)
                  · refine s_iload_n E dX5_bookFault_74 rfl ?_
                    refine hret _ _ ?_ (fun q => by cases q) _ _ dX5_bookFault_75
                    exact ⟨by rw [← g2]; exact (bfl_stop (c := h + 1) (by omega) (by split <;> omega) (by omega)).symm, rfl⟩

set_option maxRecDepth 100000 in
set_option maxHeartbeats 4000000 in
theorem c_X5_bookFault (M : Mm) (hp : PadOK (M 21) (M 20 1)) : CtI yX5_bookFault cX5_bookFault 5 .int 5 SH [rv 20] M (fun r M' => r = bFault (M 21) (M 20 1) ∧ M' = M) := by
  refine CtI.of rfl (Nat.le_of_ble_eq_true rfl) (Or.inl rfl) (fun v as E hret => ?_)
  show Ws v as SH 0 0 0 [some (rv 20), none, none, none, none] [] M
  refine s_iconst E dX5_bookFault_0 ?_
  refine s_istore_n (ls' := [_, _, _, _, _]) E dX5_bookFault_1 (Nat.le_of_ble_eq_true rfl) rfl ?_
  refine s_iconst E dX5_bookFault_2 ?_
  refine s_istore_n (ls' := [_, _, _, _, _]) E dX5_bookFault_3 (Nat.le_of_ble_eq_true rfl) rfl ?_
  exact lp_X5_bf M hp E hret ((M 20 1 - 0).toNat + 1) 0 0 _ _ (Nat.lt_succ_self _) (by have := hp.1; omega) (by omega) (by rw [Int.sub_zero]; rfl)

set_option maxRecDepth 100000 in
set_option maxHeartbeats 4000000 in
theorem lp_X8_sf {v : Ev} {as : List Nat} (M : Mm) (hp : PadOK (M 81) (M 79 3)) (E : Cx v cX8_sittingFault 5 yX8_sittingFault.cls 5) (hret : RetI v as cX8_sittingFault .int (fun r M' => r = sFault (M 81) (M 79 3) ∧ M' = M)) : ∀ (N : Nat) (k st : Int) (o3 o4 : Option Vv), (M 79 3 - k).toNat < N → (0 ≤ k ∧ k ≤ M 79 3) → (0 ≤ st ∧ st ≤ 4) → (sfl (M 81) (M 79 3 - k).toNat k st = sFault (M 81) (M 79 3)) → (k = 0 → st = 0) → Ws v as SH 0 0 4 [some (rv 79), some (iv st), some (iv k), o3, o4] [] M := by
  intro N
  induction N with
  | zero =>
    intro k st o3 o4 hN
    exact absurd hN (Nat.not_lt_zero _)
  | succ N ih =>
    intro k st o3 o4 hN g0 g1 g2 g3
    have hp0 := hp.1; have hp1 := hp.2.1; have hp2 := hp.2.2
    refine s_iload_n E dX8_sittingFault_4 rfl ?_
    refine s_aload_n E dX8_sittingFault_5 rfl ?_
    refine s_getI (kf := 3) E 3 rfl dX8_sittingFault_6 rfl inb_X8 (Nat.le_of_ble_eq_true rfl) fl_X8_75 (by decide) sh79 rfl ?_
    refine s_icmp_ge E 188 dX8_sittingFault_9 (by decide) (by omega) (by omega) (fun h9 => ?_) (fun h9 => ?_)
    · refine s_iload_n E dX8_sittingFault_188 rfl ?_
      refine s_if_ne E 197 dX8_sittingFault_189 (by decide) (by omega) (fun h189 => ?_) (fun h189 => ?_)
      · refine s_aload_n E dX8_sittingFault_197 rfl ?_
        refine s_getI (kf := 3) E 3 rfl dX8_sittingFault_198 rfl inb_X8 (Nat.le_of_ble_eq_true rfl) fl_X8_75 (by decide) sh79 rfl ?_
        refine hret _ _ ?_ (fun q => by cases q) _ _ dX8_sittingFault_201
        exact ⟨by rw [← g2, sfl_end (by omega)]; split <;> omega, rfl⟩
      · refine s_bipush E dX8_sittingFault_192 rfl ?_
        refine s_goto E 201 dX8_sittingFault_194 (by decide) ?_
        refine hret _ _ ?_ (fun q => by cases q) _ _ dX8_sittingFault_201
        exact ⟨by rw [← g2, sfl_end (by omega)]; split <;> omega, rfl⟩
    · have b12 := hp2 k (by omega) (by omega)
      refine s_aload_n E dX8_sittingFault_12 rfl ?_
      refine s_getR (kf := 4) E dX8_sittingFault_13 rfl inb_X8 (Nat.le_of_ble_eq_true rfl) fl_X8_20 (by decide) sh79 rfl ?_
      refine s_iload_n E dX8_sittingFault_16 rfl ?_
      refine s_iald E dX8_sittingFault_17 (by decide) sh81 (Nat.le_of_ble_eq_true rfl) (by omega) ?_
      refine s_istore_n (ls' := [_, _, _, _, _]) E dX8_sittingFault_18 (Nat.le_of_ble_eq_true rfl) rfl ?_
      refine s_bipush E dX8_sittingFault_19 rfl ?_
      refine s_istore (ls' := [_, _, _, _, _]) E dX8_sittingFault_21 (Nat.le_of_ble_eq_true rfl) rfl ?_
      refine s_iload_n E dX8_sittingFault_23 rfl ?_
      refine s_if_ne E 72 dX8_sittingFault_24 (by decide) (by omega) (fun h24 => ?_) (fun h24 => ?_)
      · refine s_iload_n E dX8_sittingFault_72 rfl ?_
        refine s_iconst E dX8_sittingFault_73 ?_
        refine s_icmp_ne E 99 dX8_sittingFault_74 (by decide) (by omega) (by omega) (fun h74 => ?_) (fun h74 => ?_)
        · refine s_iload_n E dX8_sittingFault_99 rfl ?_
          refine s_iconst E dX8_sittingFault_100 ?_
          refine s_icmp_ne E 122 dX8_sittingFault_101 (by decide) (by omega) (by omega) (fun h101 => ?_) (fun h101 => ?_)
          · refine s_iload_n E dX8_sittingFault_122 rfl ?_
            refine s_iconst E dX8_sittingFault_123 ?_
            refine s_icmp_ne E 145 dX8_sittingFault_124 (by decide) (by omega) (by omega) (fun h124 => ?_) (fun h124 => ?_)
            · refine s_iload_n E dX8_sittingFault_145 rfl ?_
              refine s_callSi E (c_X8_isName _ _ (by omega)) dX8_sittingFault_146 mf_X8_isName ml_X8_78 rfl (Nat.le_of_ble_eq_true rfl) (Nat.le_of_ble_eq_true rfl) rfl (fun r146 M146 h146 => ?_)
              obtain ⟨e146, f146⟩ := h146; subst r146; subst M146
              refine s_ifeqB E 168 dX8_sittingFault_149 (by decide) (fun h149 => ?_) (fun h149 => ?_)
              · refine s_bipush E dX8_sittingFault_168 rfl ?_
                refine s_istore (ls' := [_, _, _, _, _]) E dX8_sittingFault_170 (Nat.le_of_ble_eq_true rfl) rfl ?_
                refine s_iload E dX8_sittingFault_172 rfl ?_
                refine s_if_ge E 179 dX8_sittingFault_174 (by decide) (by omega) (fun h174 => ?_) (fun h174 => ?_)
                · exact absurd h174 (by decide)
                · refine s_iload_n E dX8_sittingFault_177 rfl ?_
                  refine hret _ _ ?_ (fun q => by cases q) _ _ dX8_sittingFault_178
                  exact ⟨by rw [← g2]; exact (sfl_stop (by omega) (by unfold nxt hd0 pv; (repeat' split) <;> omega)).symm, rfl⟩
              · have b152 := hp2 (k - 1) (by omega) (by omega)
                refine s_iload_n E dX8_sittingFault_152 rfl ?_
                refine s_aload_n E dX8_sittingFault_153 rfl ?_
                refine s_getR (kf := 4) E dX8_sittingFault_154 rfl inb_X8 (Nat.le_of_ble_eq_true rfl) fl_X8_20 (by decide) sh79 rfl ?_
                refine s_iload_n E dX8_sittingFault_157 rfl ?_
                refine s_iconst E dX8_sittingFault_158 ?_
                refine s_isub E dX8_sittingFault_159 ?_
                refine s_iald E dX8_sittingFault_160 (by decide) sh81 (Nat.le_of_ble_eq_true rfl) (by omega) ?_
                refine s_icmp_eq E 168 dX8_sittingFault_161 (by decide) (by omega) (by omega) (fun h161 => ?_) (fun h161 => ?_)
                · refine s_bipush E dX8_sittingFault_168 rfl ?_
                  refine s_istore (ls' := [_, _, _, _, _]) E dX8_sittingFault_170 (Nat.le_of_ble_eq_true rfl) rfl ?_
                  refine s_iload E dX8_sittingFault_172 rfl ?_
                  refine s_if_ge E 179 dX8_sittingFault_174 (by decide) (by omega) (fun h174 => ?_) (fun h174 => ?_)
                  · exact absurd h174 (by decide)
                  · refine s_iload_n E dX8_sittingFault_177 rfl ?_
                    refine hret _ _ ?_ (fun q => by cases q) _ _ dX8_sittingFault_178
                    exact ⟨by rw [← g2]; exact (sfl_stop (by omega) (by unfold nxt hd0 pv; (repeat' split) <;> omega)).symm, rfl⟩
                · refine s_iconst E dX8_sittingFault_164 ?_
                  refine s_goto E 170 dX8_sittingFault_165 (by decide) ?_
                  refine s_istore (ls' := [_, _, _, _, _]) E dX8_sittingFault_170 (Nat.le_of_ble_eq_true rfl) rfl ?_
                  refine s_iload E dX8_sittingFault_172 rfl ?_
                  refine s_if_ge E 179 dX8_sittingFault_174 (by decide) (by omega) (fun h174 => ?_) (fun h174 => ?_)
                  · refine s_iload E dX8_sittingFault_179 rfl ?_
                    refine s_istore_n (ls' := [_, _, _, _, _]) E dX8_sittingFault_181 (Nat.le_of_ble_eq_true rfl) rfl ?_
                    refine s_iinc (ls' := [_, _, _, _, _]) E dX8_sittingFault_182 rfl rfl ?_
                    refine s_goto E 4 dX8_sittingFault_185 (by decide) ?_
                    exact ih _ _ _ _ (by omega) (by omega) (by omega) (by rw [← g2]; exact (sfl_go (by omega) (by unfold nxt hd0 pv; (repeat' split) <;> omega) (by decide)).symm) (by omega)
                  · exact absurd h174 (by decide)
            · refine s_iload_n E dX8_sittingFault_127 rfl ?_
              refine s_callSi E (c_X8_isName _ _ (by omega)) dX8_sittingFault_128 mf_X8_isName ml_X8_78 rfl (Nat.le_of_ble_eq_true rfl) (Nat.le_of_ble_eq_true rfl) rfl (fun r128 M128 h128 => ?_)
              obtain ⟨e128, f128⟩ := h128; subst r128; subst M128
              refine s_ifeqB E 138 dX8_sittingFault_131 (by decide) (fun h131 => ?_) (fun h131 => ?_)
              · refine s_bipush E dX8_sittingFault_138 rfl ?_
                refine s_istore (ls' := [_, _, _, _, _]) E dX8_sittingFault_140 (Nat.le_of_ble_eq_true rfl) rfl ?_
                refine s_goto E 172 dX8_sittingFault_142 (by decide) ?_
                refine s_iload E dX8_sittingFault_172 rfl ?_
                refine s_if_ge E 179 dX8_sittingFault_174 (by decide) (by omega) (fun h174 => ?_) (fun h174 => ?_)
                · exact absurd h174 (by decide)
                · refine s_iload_n E dX8_sittingFault_177 rfl ?_
                  refine hret _ _ ?_ (fun q => by cases q) _ _ dX8_sittingFault_178
                  exact ⟨by rw [← g2]; exact (sfl_stop (by omega) (by unfold nxt hd0 pv; (repeat' split) <;> omega)).symm, rfl⟩
              · refine s_iconst E dX8_sittingFault_134 ?_
                refine s_goto E 140 dX8_sittingFault_135 (by decide) ?_
                refine s_istore (ls' := [_, _, _, _, _]) E dX8_sittingFault_140 (Nat.le_of_ble_eq_true rfl) rfl ?_
                refine s_goto E 172 dX8_sittingFault_142 (by decide) ?_
                refine s_iload E dX8_sittingFault_172 rfl ?_
                refine s_if_ge E 179 dX8_sittingFault_174 (by decide) (by omega) (fun h174 => ?_) (fun h174 => ?_)
                · refine s_iload E dX8_sittingFault_179 rfl ?_
                  refine s_istore_n (ls' := [_, _, _, _, _]) E dX8_sittingFault_181 (Nat.le_of_ble_eq_true rfl) rfl ?_
                  refine s_iinc (ls' := [_, _, _, _, _]) E dX8_sittingFault_182 rfl rfl ?_
                  refine s_goto E 4 dX8_sittingFault_185 (by decide) ?_
                  exact ih _ _ _ _ (by omega) (by omega) (by omega) (by rw [← g2]; exact (sfl_go (by omega) (by unfold nxt hd0 pv; (repeat' split) <;> omega) (by decide)).symm) (by omega)
                · exact absurd h174 (by decide)
          · refine s_iload_n E dX8_sittingFault_104 rfl ?_
            refine s_callSi E (c_X8_isName _ _ (by omega)) dX8_sittingFault_105 mf_X8_isName ml_X8_78 rfl (Nat.le_of_ble_eq_true rfl) (Nat.le_of_ble_eq_true rfl) rfl (fun r105 M105 h105 => ?_)
            obtain ⟨e105, f105⟩ := h105; subst r105; subst M105
            refine s_ifeqB E 115 dX8_sittingFault_108 (by decide) (fun h108 => ?_) (fun h108 => ?_)
            · refine s_bipush E dX8_sittingFault_115 rfl ?_
              refine s_istore (ls' := [_, _, _, _, _]) E dX8_sittingFault_117 (Nat.le_of_ble_eq_true rfl) rfl ?_
              refine s_goto E 172 dX8_sittingFault_119 (by decide) ?_
              refine s_iload E dX8_sittingFault_172 rfl ?_
              refine s_if_ge E 179 dX8_sittingFault_174 (by decide) (by omega) (fun h174 => ?_) (fun h174 => ?_)
              · exact absurd h174 (by decide)
              · refine s_iload_n E dX8_sittingFault_177 rfl ?_
                refine hret _ _ ?_ (fun q => by cases q) _ _ dX8_sittingFault_178
                exact ⟨by rw [← g2]; exact (sfl_stop (by omega) (by unfold nxt hd0 pv; (repeat' split) <;> omega)).symm, rfl⟩
            · refine s_iconst E dX8_sittingFault_111 ?_
              refine s_goto E 117 dX8_sittingFault_112 (by decide) ?_
              refine s_istore (ls' := [_, _, _, _, _]) E dX8_sittingFault_117 (Nat.le_of_ble_eq_true rfl) rfl ?_
              refine s_goto E 172 dX8_sittingFault_119 (by decide) ?_
              refine s_iload E dX8_sittingFault_172 rfl ?_
              refine s_if_ge E 179 dX8_sittingFault_174 (by decide) (by omega) (fun h174 => ?_) (fun h174 => ?_)
              · refine s_iload E dX8_sittingFault_179 rfl ?_
                refine s_istore_n (ls' := [_, _, _, _, _]) E dX8_sittingFault_181 (Nat.le_of_ble_eq_true rfl) rfl ?_
                refine s_iinc (ls' := [_, _, _, _, _]) E dX8_sittingFault_182 rfl rfl ?_
                refine s_goto E 4 dX8_sittingFault_185 (by decide) ?_
                exact ih _ _ _ _ (by omega) (by omega) (by omega) (by rw [← g2]; exact (sfl_go (by omega) (by unfold nxt hd0 pv; (repeat' split) <;> omega) (by decide)).symm) (by omega)
              · exact absurd h174 (by decide)
        · refine s_iload_n E dX8_sittingFault_77 rfl ?_
          refine s_bipush E dX8_sittingFault_78 rfl ?_
          refine s_bipush E dX8_sittingFault_80 rfl ?_
          refine s_callSi E (c_X8_in _ _ _ _ (by omega) (by omega) (by omega)) dX8_sittingFault_82 mf_X8_in ml_X8_63 rfl (Nat.le_of_ble_eq_true rfl) (Nat.le_of_ble_eq_true rfl) rfl (fun r82 M82 h82 => ?_)
          obtain ⟨e82, f82⟩ := h82; subst r82; subst M82
          refine s_ifeqB E 92 dX8_sittingFault_85 (by decide) (fun h85 => ?_) (fun h85 => ?_)
          · refine s_bipush E dX8_sittingFault_92 rfl ?_
            refine s_istore (ls' := [_, _, _, _, _]) E dX8_sittingFault_94 (Nat.le_of_ble_eq_true rfl) rfl ?_
            refine s_goto E 172 dX8_sittingFault_96 (by decide) ?_
            refine s_iload E dX8_sittingFault_172 rfl ?_
            refine s_if_ge E 179 dX8_sittingFault_174 (by decide) (by omega) (fun h174 => ?_) (fun h174 => ?_)
            · exact absurd h174 (by decide)
            · refine s_iload_n E dX8_sittingFault_177 rfl ?_
              refine hret _ _ ?_ (fun q => by cases q) _ _ dX8_sittingFault_178
              exact ⟨by rw [← g2]; exact (sfl_stop (by omega) (by unfold nxt hd0 pv; (repeat' split) <;> omega)).symm, rfl⟩
          · refine s_iconst E dX8_sittingFault_88 ?_
            refine s_goto E 94 dX8_sittingFault_89 (by decide) ?_
            refine s_istore (ls' := [_, _, _, _, _]) E dX8_sittingFault_94 (Nat.le_of_ble_eq_true rfl) rfl ?_
            refine s_goto E 172 dX8_sittingFault_96 (by decide) ?_
            refine s_iload E dX8_sittingFault_172 rfl ?_
            refine s_if_ge E 179 dX8_sittingFault_174 (by decide) (by omega) (fun h174 => ?_) (fun h174 => ?_)
            · refine s_iload E dX8_sittingFault_179 rfl ?_
              refine s_istore_n (ls' := [_, _, _, _, _]) E dX8_sittingFault_181 (Nat.le_of_ble_eq_true rfl) rfl ?_
              refine s_iinc (ls' := [_, _, _, _, _]) E dX8_sittingFault_182 rfl rfl ?_
              refine s_goto E 4 dX8_sittingFault_185 (by decide) ?_
              exact ih _ _ _ _ (by omega) (by omega) (by omega) (by rw [← g2]; exact (sfl_go (by omega) (by unfold nxt hd0 pv; (repeat' split) <;> omega) (by decide)).symm) (by omega)
            · exact absurd h174 (by decide)
      · refine s_iload_n E dX8_sittingFault_27 rfl ?_
        refine s_callSi E (c_X8_isName _ _ (by omega)) dX8_sittingFault_28 mf_X8_isName ml_X8_78 rfl (Nat.le_of_ble_eq_true rfl) (Nat.le_of_ble_eq_true rfl) rfl (fun r28 M28 h28 => ?_)
        obtain ⟨e28, f28⟩ := h28; subst r28; subst M28
        refine s_ifneB E 40 dX8_sittingFault_31 (by decide) (fun h31 => ?_) (fun h31 => ?_)
        · refine s_iconst E dX8_sittingFault_40 ?_
          refine s_goto E 67 dX8_sittingFault_41 (by decide) ?_
          refine s_istore (ls' := [_, _, _, _, _]) E dX8_sittingFault_67 (Nat.le_of_ble_eq_true rfl) rfl ?_
          refine s_goto E 172 dX8_sittingFault_69 (by decide) ?_
          refine s_iload E dX8_sittingFault_172 rfl ?_
          refine s_if_ge E 179 dX8_sittingFault_174 (by decide) (by omega) (fun h174 => ?_) (fun h174 => ?_)
          · refine s_iload E dX8_sittingFault_179 rfl ?_
            refine s_istore_n (ls' := [_, _, _, _, _]) E dX8_sittingFault_181 (Nat.le_of_ble_eq_true rfl) rfl ?_
            refine s_iinc (ls' := [_, _, _, _, _]) E dX8_sittingFault_182 rfl rfl ?_
            refine s_goto E 4 dX8_sittingFault_185 (by decide) ?_
            exact ih _ _ _ _ (by omega) (by omega) (by omega) (by rw [← g2]; exact (sfl_go (by omega) (by unfold nxt hd0 pv; (repeat' split) <;> omega) (by decide)).symm) (by omega)
          · exact absurd h174 (by decide)
        · refine s_iload_n E dX8_sittingFault_34 rfl ?_
          refine s_bipush E dX8_sittingFault_35 rfl ?_
          refine s_icmp_ne E 44 dX8_sittingFault_37 (by decide) (by omega) (by omega) (fun h37 => ?_) (fun h37 => ?_)
          · refine s_iload_n E dX8_sittingFault_44 rfl ?_
            refine s_callSi E (c_X8_isAct _ _ (by omega)) dX8_sittingFault_45 mf_X8_isAct ml_X8_81 rfl (Nat.le_of_ble_eq_true rfl) (Nat.le_of_ble_eq_true rfl) rfl (fun r45 M45 h45 => ?_)
            obtain ⟨e45, f45⟩ := h45; subst r45; subst M45
            refine s_ifeqB E 55 dX8_sittingFault_48 (by decide) (fun h48 => ?_) (fun h48 => ?_)
            · refine s_iload_n E dX8_sittingFault_55 rfl ?_
              refine s_bipush E dX8_sittingFault_56 rfl ?_
              refine s_icmp_ne E 65 dX8_sittingFault_58 (by decide) (by omega) (by omega) (fun h58 => ?_) (fun h58 => ?_)
              · refine s_bipush E dX8_sittingFault_65 rfl ?_
                refine s_istore (ls' := [_, _, _, _, _]) E dX8_sittingFault_67 (Nat.le_of_ble_eq_true rfl) rfl ?_
                refine s_goto E 172 dX8_sittingFault_69 (by decide) ?_
                refine s_iload E dX8_sittingFault_172 rfl ?_
                refine s_if_ge E 179 dX8_sittingFault_174 (by decide) (by omega) (fun h174 => ?_) (fun h174 => ?_)
                · exact absurd h174 (by decide)
                · refine s_iload_n E dX8_sittingFault_177 rfl ?_
                  refine hret _ _ ?_ (fun q => by cases q) _ _ dX8_sittingFault_178
                  exact ⟨by rw [← g2]; exact (sfl_stop (by omega) (by unfold nxt hd0 pv; (repeat' split) <;> omega)).symm, rfl⟩
              · refine s_iconst E dX8_sittingFault_61 ?_
                refine s_goto E 67 dX8_sittingFault_62 (by decide) ?_
                refine s_istore (ls' := [_, _, _, _, _]) E dX8_sittingFault_67 (Nat.le_of_ble_eq_true rfl) rfl ?_
                refine s_goto E 172 dX8_sittingFault_69 (by decide) ?_
                refine s_iload E dX8_sittingFault_172 rfl ?_
                refine s_if_ge E 179 dX8_sittingFault_174 (by decide) (by omega) (fun h174 => ?_) (fun h174 => ?_)
                · refine s_iload E dX8_sittingFault_179 rfl ?_
                  refine s_istore_n (ls' := [_, _, _, _, _]) E dX8_sittingFault_181 (Nat.le_of_ble_eq_true rfl) rfl ?_
                  refine s_iinc (ls' := [_, _, _, _, _]) E dX8_sittingFault_182 rfl rfl ?_
                  refine s_goto E 4 dX8_sittingFault_185 (by decide) ?_
                  exact ih _ _ _ _ (by omega) (by omega) (by omega) (by rw [← g2]; exact (sfl_go (by omega) (by unfold nxt hd0 pv; (repeat' split) <;> omega) (by decide)).symm) (by omega)
                · exact absurd h174 (by decide)
            · refine s_iconst E dX8_sittingFault_51 ?_
              refine s_goto E 67 dX8_sittingFault_52 (by decide) ?_
              refine s_istore (ls' := [_, _, _, _, _]) E dX8_sittingFault_67 (Nat.le_of_ble_eq_true rfl) rfl ?_
              refine s_goto E 172 dX8_sittingFault_69 (by decide) ?_
              refine s_iload E dX8_sittingFault_172 rfl ?_
              refine s_if_ge E 179 dX8_sittingFault_174 (by decide) (by omega) (fun h174 => ?_) (fun h174 => ?_)
              · refine s_iload E dX8_sittingFault_179 rfl ?_
                refine s_istore_n (ls' := [_, _, _, _, _]) E dX8_sittingFault_181 (Nat.le_of_ble_eq_true rfl) rfl ?_
                refine s_iinc (ls' := [_, _, _, _, _]) E dX8_sittingFault_182 rfl rfl ?_
                refine s_goto E 4 dX8_sittingFault_185 (by decide) ?_
                exact ih _ _ _ _ (by omega) (by omega) (by omega) (by rw [← g2]; exact (sfl_go (by omega) (by unfold nxt hd0 pv; (repeat' split) <;> omega) (by decide)).symm) (by omega)
              · exact absurd h174 (by decide)
          · refine s_iconst E dX8_sittingFault_40 ?_
            refine s_goto E 67 dX8_sittingFault_41 (by decide) ?_
            refine s_istore (ls' := [_, _, _, _, _]) E dX8_sittingFault_67 (Nat.le_of_ble_eq_true rfl) rfl ?_
            refine s_goto E 172 dX8_sittingFault_69 (by decide) ?_
            refine s_iload E dX8_sittingFault_172 rfl ?_
            refine s_if_ge E 179 dX8_sittingFault_174 (by decide) (by omega) (fun h174 => ?_) (fun h174 => ?_)
            · refine s_iload E dX8_sittingFault_179 rfl ?_
              refine s_istore_n (ls' := [_, _, _, _, _]) E dX8_sittingFault_181 (Nat.le_of_ble_eq_true rfl) rfl ?_
              refine s_iinc (ls' := [_, _, _, _, _]) E dX8_sittingFault_182 rfl rfl ?_
              refine s_goto E 4 dX8_sittingFault_185 (by decide) ?_
              exact ih _ _ _ _ (by omega) (by omega) (by omega) (by rw [← g2]; exact (sfl_go (by omega) (by unfold nxt hd0 pv; (repeat' split) <;> omega) (by decide)).symm) (by omega)
            · exact absurd h174 (by decide)

set_option maxRecDepth 100000 in
set_option maxHeartbeats 4000000 in
theorem c_X8_sittingFault (M : Mm) (hp : PadOK (M 81) (M 79 3)) : CtI yX8_sittingFault cX8_sittingFault 5 .int 5 SH [rv 79] M (fun r M' => r = sFault (M 81) (M 79 3) ∧ M' = M) := by
  refine CtI.of rfl (Nat.le_of_ble_eq_true rfl) (Or.inl rfl) (fun v as E hret => ?_)
  show Ws v as SH 0 0 0 [some (rv 79), none, none, none, none] [] M
  refine s_iconst E dX8_sittingFault_0 ?_
  refine s_istore_n (ls' := [_, _, _, _, _]) E dX8_sittingFault_1 (Nat.le_of_ble_eq_true rfl) rfl ?_
  refine s_iconst E dX8_sittingFault_2 ?_
  refine s_istore_n (ls' := [_, _, _, _, _]) E dX8_sittingFault_3 (Nat.le_of_ble_eq_true rfl) rfl ?_
  exact lp_X8_sf M hp E hret ((M 79 3 - 0).toNat + 1) 0 0 _ _ (Nat.lt_succ_self _) (by have := hp.1; omega) (by omega) (by rw [Int.sub_zero]; rfl) (fun _ => rfl)

set_option maxRecDepth 100000 in
set_option maxHeartbeats 4000000 in
theorem lp_X8_bf {v : Ev} {as : List Nat} (M : Mm) (hp : PadOK (M 81) (M 79 3)) (E : Cx v cX8_bookFault 3 yX8_bookFault.cls 5) (hret : RetI v as cX8_bookFault .int (fun r M' => r = bFault (M 81) (M 79 3) ∧ M' = M)) : ∀ (N : Nat) (k h : Int), (M 79 3 - k).toNat < N → (0 ≤ k ∧ k ≤ M 79 3 ∧ k ≤ 12) → (0 ≤ h ∧ h ≤ k) → (bfl (M 81) (M 79 3) (M 79 3 - k).toNat k h = bFault (M 81) (M 79 3)) → Ws v as SH 0 0 4 [some (rv 79), some (iv h), some (iv k)] [] M := by
  intro N
  induction N with
  | zero =>
    intro k h hN
    exact absurd hN (Nat.not_lt_zero _)
  | succ N ih =>
    intro k h hN g0 g1 g2
    have hp0 := hp.1; have hp1 := hp.2.1; have hp2 := hp.2.2
    refine s_iload_n E dX8_bookFault_4 rfl ?_
    refine s_aload_n E dX8_bookFault_5 rfl ?_
    refine s_getI (kf := 3) E 3 rfl dX8_bookFault_6 rfl inb_X8 (Nat.le_of_ble_eq_true rfl) fl_X8_75 (by decide) sh79 rfl ?_
    refine s_icmp_ge E 84 dX8_bookFault_9 (by decide) (by omega) (by omega) (fun h9 => ?_) (fun h9 => ?_)
    · refine s_aload_n E dX8_bookFault_84 rfl ?_
      refine s_getI (kf := 3) E 3 rfl dX8_bookFault_85 rfl inb_X8 (Nat.le_of_ble_eq_true rfl) fl_X8_75 (by decide) sh79 rfl ?_
      refine s_if_ne E 95 dX8_bookFault_88 (by decide) (by omega) (fun h88 => ?_) (fun h88 => ?_)
      · refine s_bipush E dX8_bookFault_95 rfl ?_
        refine hret _ _ ?_ (fun q => by cases q) _ _ dX8_bookFault_97
        exact ⟨by rw [← g2, bfl_end (by omega)]; split <;> omega, rfl⟩
      · refine s_iconst E dX8_bookFault_91 ?_
        refine s_goto E 97 dX8_bookFault_92 (by decide) ?_
        refine hret _ _ ?_ (fun q => by cases q) _ _ dX8_bookFault_97
        exact ⟨by rw [← g2, bfl_end (by omega)]; split <;> omega, rfl⟩
    · have b12 := hp2 k (by omega) (by omega)
      refine s_iload_n E dX8_bookFault_12 rfl ?_
      refine s_aload_n E dX8_bookFault_13 rfl ?_
      refine s_getR (kf := 4) E dX8_bookFault_14 rfl inb_X8 (Nat.le_of_ble_eq_true rfl) fl_X8_20 (by decide) sh79 rfl ?_
      refine s_iload_n E dX8_bookFault_17 rfl ?_
      refine s_iald E dX8_bookFault_18 (by decide) sh81 (Nat.le_of_ble_eq_true rfl) (by omega) ?_
      refine s_bipush E dX8_bookFault_19 rfl ?_
      refine s_icmp_ne E 28 dX8_bookFault_21 (by decide) (by omega) (by omega) (fun h21 => ?_) (fun h21 => ?_)
      · refine s_iconst E dX8_bookFault_28 ?_
        refine s_iadd E dX8_bookFault_29 ?_
        refine s_istore_n (ls' := [_, _, _]) E dX8_bookFault_30 (Nat.le_of_ble_eq_true rfl) rfl ?_
        refine s_iload_n E dX8_bookFault_31 rfl ?_
        refine s_bipush E dX8_bookFault_32 rfl ?_
        refine s_icmp_eq E 76 dX8_bookFault_34 (by decide) (by omega) (by omega) (fun h34 => ?_) (fun h34 => ?_)
        · refine s_iload_n E dX8_bookFault_76 rfl ?_
          refine hret _ _ ?_ (fun q => by cases q) _ _ dX8_bookFault_77
          exact ⟨by rw [← g2]; exact (bfl_stop (c := h + 0) (by omega) (by split <;> omega) (by omega)).symm, rfl⟩
        · refine s_iload_n E dX8_bookFault_37 rfl ?_
          refine s_iconst E dX8_bookFault_38 ?_
          refine s_icmp_gt E 76 dX8_bookFault_39 (by decide) (by omega) (by omega) (fun h39 => ?_) (fun h39 => ?_)
          · refine s_iload_n E dX8_bookFault_76 rfl ?_
            refine hret _ _ ?_ (fun q => by cases q) _ _ dX8_bookFault_77
            exact ⟨by rw [← g2]; exact (bfl_stop (c := h + 0) (by omega) (by split <;> omega) (by omega)).symm, rfl⟩
          · refine s_aload_n E dX8_bookFault_42 rfl ?_
            refine s_getR (kf := 4) E dX8_bookFault_43 rfl inb_X8 (Nat.le_of_ble_eq_true rfl) fl_X8_20 (by decide) sh79 rfl ?_
            refine s_iload_n E dX8_bookFault_46 rfl ?_
            refine s_iald E dX8_bookFault_47 (by decide) sh81 (Nat.le_of_ble_eq_true rfl) (by omega) ?_
            refine s_callSi E (c_X8_isName _ _ (by omega)) dX8_bookFault_48 mf_X8_isName ml_X8_78 rfl (Nat.le_of_ble_eq_true rfl) (Nat.le_of_ble_eq_true rfl) rfl (fun r48 M48 h48 => ?_)
            obtain ⟨e48, f48⟩ := h48; subst r48; subst M48
            refine s_ifneB E 78 dX8_bookFault_51 (by decide) (fun h51 => ?_) (fun h51 => ?_)
            · refine s_iinc (ls' := [_, _, _]) E dX8_bookFault_78 rfl rfl ?_
              refine s_goto E 4 dX8_bookFault_81 (by decide) ?_
              exact ih _ _ (by omega) (by omega) (by omega) (by rw [← g2]; exact (bfl_go (by omega) (by split <;> omega) (by omega)).symm)
            · refine s_aload_n E dX8_bookFault_54 rfl ?_
              refine s_getR (kf := 4) E dX8_bookFault_55 rfl inb_X8 (Nat.le_of_ble_eq_true rfl) fl_X8_20 (by decide) sh79 rfl ?_
              refine s_iload_n E dX8_bookFault_58 rfl ?_
              refine s_iald E dX8_bookFault_59 (by decide) sh81 (Nat.le_of_ble_eq_true rfl) (by omega) ?_
              refine s_bipush E dX8_bookFault_60 rfl ?_
              refine s_icmp_eq E 78 dX8_bookFault_62 (by decide) (by omega) (by omega) (fun h62 => ?_) (fun h62 => ?_)
              · refine s_iinc (ls' := [_, _, _]) E dX8_bookFault_78 rfl rfl ?_
                refine s_goto E 4 dX8_bookFault_81 (by decide) ?_
                exact ih _ _ (by omega) (by omega) (by omega) (by rw [← g2]; exact (bfl_go (by omega) (by split <;> omega) (by omega)).symm)
              · refine s_aload_n E dX8_bookFault_65 rfl ?_
                refine s_getR (kf := 4) E dX8_bookFault_66 rfl inb_X8 (Nat.le_of_ble_eq_true rfl) fl_X8_20 (by decide) sh79 rfl ?_
                refine s_iload_n E dX8_bookFault_69 rfl ?_
                refine s_iald E dX8_bookFault_70 (by decide) sh81 (Nat.le_of_ble_eq_true rfl) (by omega) ?_
                refine s_bipush E dX8_bookFault_71 rfl ?_
                refine s_icmp_eq E 78 dX8_bookFault_73 (by decide) (by omega) (by omega) (fun h73 => ?_) (fun h73 => ?_)
                · refine s_iinc (ls' := [_, _, _]) E dX8_bookFault_78 rfl rfl ?_
                  refine s_goto E 4 dX8_bookFault_81 (by decide) ?_
                  exact ih _ _ (by omega) (by omega) (by omega) (by rw [← g2]; exact (bfl_go (by omega) (by split <;> omega) (by omega)).symm)
                · refine s_iload_n E dX8_bookFault_76 rfl ?_
                  refine hret _ _ ?_ (fun q => by cases q) _ _ dX8_bookFault_77
                  exact ⟨by rw [← g2]; exact (bfl_stop (c := h + 0) (by omega) (by split <;> omega) (by omega)).symm, rfl⟩
      · refine s_iconst E dX8_bookFault_24 ?_
        refine s_goto E 29 dX8_bookFault_25 (by decide) ?_
        refine s_iadd E dX8_bookFault_29 ?_
        refine s_istore_n (ls' := [_, _, _]) E dX8_bookFault_30 (Nat.le_of_ble_eq_true rfl) rfl ?_
        refine s_iload_n E dX8_bookFault_31 rfl ?_
        refine s_bipush E dX8_bookFault_32 rfl ?_
        refine s_icmp_eq E 76 dX8_bookFault_34 (by decide) (by omega) (by omega) (fun h34 => ?_) (fun h34 => ?_)
        · refine s_iload_n E dX8_bookFault_76 rfl ?_
          refine hret _ _ ?_ (fun q => by cases q) _ _ dX8_bookFault_77
          exact ⟨by rw [← g2]; exact (bfl_stop (c := h + 1) (by omega) (by split <;> omega) (by omega)).symm, rfl⟩
        · refine s_iload_n E dX8_bookFault_37 rfl ?_
          refine s_iconst E dX8_bookFault_38 ?_
          refine s_icmp_gt E 76 dX8_bookFault_39 (by decide) (by omega) (by omega) (fun h39 => ?_) (fun h39 => ?_)
          · refine s_iload_n E dX8_bookFault_76 rfl ?_
            refine hret _ _ ?_ (fun q => by cases q) _ _ dX8_bookFault_77
            exact ⟨by rw [← g2]; exact (bfl_stop (c := h + 1) (by omega) (by split <;> omega) (by omega)).symm, rfl⟩
          · refine s_aload_n E dX8_bookFault_42 rfl ?_
            refine s_getR (kf := 4) E dX8_bookFault_43 rfl inb_X8 (Nat.le_of_ble_eq_true rfl) fl_X8_20 (by decide) sh79 rfl ?_
            refine s_iload_n E dX8_bookFault_46 rfl ?_
            refine s_iald E dX8_bookFault_47 (by decide) sh81 (Nat.le_of_ble_eq_true rfl) (by omega) ?_
            refine s_callSi E (c_X8_isName _ _ (by omega)) dX8_bookFault_48 mf_X8_isName ml_X8_78 rfl (Nat.le_of_ble_eq_true rfl) (Nat.le_of_ble_eq_true rfl) rfl (fun r48 M48 h48 => ?_)
            obtain ⟨e48, f48⟩ := h48; subst r48; subst M48
            refine s_ifneB E 78 dX8_bookFault_51 (by decide) (fun h51 => ?_) (fun h51 => ?_)
            · refine s_iinc (ls' := [_, _, _]) E dX8_bookFault_78 rfl rfl ?_
              refine s_goto E 4 dX8_bookFault_81 (by decide) ?_
              exact ih _ _ (by omega) (by omega) (by omega) (by rw [← g2]; exact (bfl_go (by omega) (by split <;> omega) (by omega)).symm)
            · refine s_aload_n E dX8_bookFault_54 rfl ?_
              refine s_getR (kf := 4) E dX8_bookFault_55 rfl inb_X8 (Nat.le_of_ble_eq_true rfl) fl_X8_20 (by decide) sh79 rfl ?_
              refine s_iload_n E dX8_bookFault_58 rfl ?_
              refine s_iald E dX8_bookFault_59 (by decide) sh81 (Nat.le_of_ble_eq_true rfl) (by omega) ?_
              refine s_bipush E dX8_bookFault_60 rfl ?_
              refine s_icmp_eq E 78 dX8_bookFault_62 (by decide) (by omega) (by omega) (fun h62 => ?_) (fun h62 => ?_)
              · refine s_iinc (ls' := [_, _, _]) E dX8_bookFault_78 rfl rfl ?_
                refine s_goto E 4 dX8_bookFault_81 (by decide) ?_
                exact ih _ _ (by omega) (by omega) (by omega) (by rw [← g2]; exact (bfl_go (by omega) (by split <;> omega) (by omega)).symm)
              · refine s_aload_n E dX8_bookFault_65 rfl ?_
                refine s_getR (kf := 4) E dX8_bookFault_66 rfl inb_X8 (Nat.le_of_ble_eq_true rfl) fl_X8_20 (by decide) sh79 rfl ?_
                refine s_iload_n E dX8_bookFault_69 rfl ?_
                refine s_iald E dX8_bookFault_70 (by decide) sh81 (Nat.le_of_ble_eq_true rfl) (by omega) ?_
                refine s_bipush E dX8_bookFault_71 rfl ?_
                refine s_icmp_eq E 78 dX8_bookFault_73 (by decide) (by omega) (by omega) (fun h73 => ?_) (fun h73 => ?_)
                · refine s_iinc (ls' := [_, _, _]) E dX8_bookFault_78 rfl rfl ?_
                  refine s_goto E 4 dX8_bookFault_81 (by decide) ?_
                  exact ih _ _ (by omega) (by omega) (by omega) (by rw [← g2]; exact (bfl_go (by omega) (by split <;> omega) (by omega)).symm)
                · refine s_iload_n E dX8_bookFault_76 rfl ?_
                  refine hret _ _ ?_ (fun q => by cases q) _ _ dX8_bookFault_77
                  exact ⟨by rw [← g2]; exact (bfl_stop (c := h + 1) (by omega) (by split <;> omega) (by omega)).symm, rfl⟩

set_option maxRecDepth 100000 in
set_option maxHeartbeats 4000000 in
theorem c_X8_bookFault (M : Mm) (hp : PadOK (M 81) (M 79 3)) : CtI yX8_bookFault cX8_bookFault 3 .int 5 SH [rv 79] M (fun r M' => r = bFault (M 81) (M 79 3) ∧ M' = M) := by
  refine CtI.of rfl (Nat.le_of_ble_eq_true rfl) (Or.inl rfl) (fun v as E hret => ?_)
  show Ws v as SH 0 0 0 [some (rv 79), none, none] [] M
  refine s_iconst E dX8_bookFault_0 ?_
  refine s_istore_n (ls' := [_, _, _]) E dX8_bookFault_1 (Nat.le_of_ble_eq_true rfl) rfl ?_
  refine s_iconst E dX8_bookFault_2 ?_
  refine s_istore_n (ls' := [_, _, _]) E dX8_bookFault_3 (Nat.le_of_ble_eq_true rfl) rfl ?_
  exact lp_X8_bf M hp E hret ((M 79 3 - 0).toNat + 1) 0 0 (Nat.lt_succ_self _) (by have := hp.1; omega) (by omega) (by rw [Int.sub_zero]; rfl)
