set_option maxRecDepth 100000 in
set_option maxHeartbeats 4000000 in
theorem c_X7_isOne (M : Mm) (k : Int) (hk : inI k) : CtI yX7_isOne cX7_isOne 1 .boolean 1 SH [iv k] M (fun r M' => r = b2 (0 ≤ k ∧ k < 6) ∧ M' = M) := by
  refine CtI.of rfl (Nat.le_of_ble_eq_true rfl) (Or.inr rfl) (fun v as E hret => ?_)
  show Ws v as SH 0 0 0 [some (iv k)] [] M
  refine s_iload_n E dX7_isOne_0 rfl ?_
  refine s_if_lt E 14 dX7_isOne_1 (by decide) (by omega) (fun h1 => ?_) (fun h1 => ?_)
  · refine s_iconst E dX7_isOne_14 ?_
    refine hret _ _ ?_ (fun _ => Or.inl rfl) _ _ dX7_isOne_15
    exact ⟨by first | exact (b2_pos (by omega)).symm | exact (b2_neg (by omega)).symm, rfl⟩
  · refine s_iload_n E dX7_isOne_4 rfl ?_
    refine s_bipush E dX7_isOne_5 rfl ?_
    refine s_icmp_ge E 14 dX7_isOne_7 (by decide) (by omega) (by omega) (fun h7 => ?_) (fun h7 => ?_)
    · refine s_iconst E dX7_isOne_14 ?_
      refine hret _ _ ?_ (fun _ => Or.inl rfl) _ _ dX7_isOne_15
      exact ⟨by first | exact (b2_pos (by omega)).symm | exact (b2_neg (by omega)).symm, rfl⟩
    · refine s_iconst E dX7_isOne_10 ?_
      refine s_goto E 15 dX7_isOne_11 (by decide) ?_
      refine hret _ _ ?_ (fun _ => Or.inr rfl) _ _ dX7_isOne_15
      exact ⟨by first | exact (b2_pos (by omega)).symm | exact (b2_neg (by omega)).symm, rfl⟩

set_option maxRecDepth 100000 in
set_option maxHeartbeats 4000000 in
theorem c_X7_isOneSign (M : Mm) (k : Int) (hk : -1000 ≤ k ∧ k ≤ 1000) : CtI yX7_isOneSign cX7_isOneSign 1 .boolean 2 SH [iv k] M (fun r M' => r = b2 (97 ≤ k ∧ k < 103) ∧ M' = M) := by
  refine CtI.of rfl (Nat.le_of_ble_eq_true rfl) (Or.inr rfl) (fun v as E hret => ?_)
  show Ws v as SH 0 0 0 [some (iv k)] [] M
  refine s_iload_n E dX7_isOneSign_0 rfl ?_
  refine s_bipush E dX7_isOneSign_1 rfl ?_
  refine s_isub E dX7_isOneSign_3 ?_
  refine s_callSi E (c_X7_isOne _ _ (by omega)) dX7_isOneSign_4 mf_X7_isOne ml_X7_59 rfl (Nat.le_of_ble_eq_true rfl) (Nat.le_of_ble_eq_true rfl) rfl (fun r4 M4 h4 => ?_)
  obtain ⟨e4, f4⟩ := h4; subst r4; subst M4
  refine hret _ _ ?_ (fun _ => b2_01 _) _ _ dX7_isOneSign_7
  exact ⟨b2_congr (by omega), rfl⟩

set_option maxRecDepth 100000 in
set_option maxHeartbeats 4000000 in
theorem c_X7_holds (M : Mm) (s i : Int) : CtI yX7_holds cX7_holds 2 .boolean 1 SH [iv s, iv i] M (fun r M' => r = b2 (bt s i) ∧ M' = M) := by
  refine CtI.of rfl (Nat.le_of_ble_eq_true rfl) (Or.inr rfl) (fun v as E hret => ?_)
  show Ws v as SH 0 0 0 [some (iv s), some (iv i)] [] M
  refine s_iload_n E dX7_holds_0 rfl ?_
  refine s_iload_n E dX7_holds_1 rfl ?_
  refine s_ishr E dX7_holds_2 ?_
  refine s_iconst E dX7_holds_3 ?_
  refine s_iand E dX7_holds_4 ?_
  refine s_iconst E dX7_holds_5 ?_
  refine s_icmp_ne E 13 dX7_holds_6 (by decide) (inI_and _ _) (by decide) (fun h6 => ?_) (fun h6 => ?_)
  · refine s_iconst E dX7_holds_13 ?_
    refine hret _ _ ?_ (fun _ => Or.inl rfl) _ _ dX7_holds_14
    exact ⟨(b2_neg (by unfold bt; assumption)).symm, rfl⟩
  · refine s_iconst E dX7_holds_9 ?_
    refine s_goto E 14 dX7_holds_10 (by decide) ?_
    refine hret _ _ ?_ (fun _ => Or.inr rfl) _ _ dX7_holds_14
    exact ⟨(b2_pos (by unfold bt; omega)).symm, rfl⟩

set_option maxRecDepth 100000 in
set_option maxHeartbeats 4000000 in
theorem c_X8_in (M : Mm) (k a b : Int) (hk : inI k) (ha : inI a) (hb : inI b) : CtI yX8_in cX8_in 3 .boolean 1 SH [iv k, iv a, iv b] M (fun r M' => r = b2 (a ≤ k ∧ k ≤ b) ∧ M' = M) := by
  refine CtI.of rfl (Nat.le_of_ble_eq_true rfl) (Or.inr rfl) (fun v as E hret => ?_)
  show Ws v as SH 0 0 0 [some (iv k), some (iv a), some (iv b)] [] M
  refine s_iload_n E dX8_in_0 rfl ?_
  refine s_iload_n E dX8_in_1 rfl ?_
  refine s_icmp_lt E 14 dX8_in_2 (by decide) (by omega) (by omega) (fun h2 => ?_) (fun h2 => ?_)
  · refine s_iconst E dX8_in_14 ?_
    refine hret _ _ ?_ (fun _ => Or.inl rfl) _ _ dX8_in_15
    exact ⟨by first | exact (b2_pos (by omega)).symm | exact (b2_neg (by omega)).symm, rfl⟩
  · refine s_iload_n E dX8_in_5 rfl ?_
    refine s_iload_n E dX8_in_6 rfl ?_
    refine s_icmp_gt E 14 dX8_in_7 (by decide) (by omega) (by omega) (fun h7 => ?_) (fun h7 => ?_)
    · refine s_iconst E dX8_in_14 ?_
      refine hret _ _ ?_ (fun _ => Or.inl rfl) _ _ dX8_in_15
      exact ⟨by first | exact (b2_pos (by omega)).symm | exact (b2_neg (by omega)).symm, rfl⟩
    · refine s_iconst E dX8_in_10 ?_
      refine s_goto E 15 dX8_in_11 (by decide) ?_
      refine hret _ _ ?_ (fun _ => Or.inr rfl) _ _ dX8_in_15
      exact ⟨by first | exact (b2_pos (by omega)).symm | exact (b2_neg (by omega)).symm, rfl⟩

set_option maxRecDepth 100000 in
set_option maxHeartbeats 4000000 in
theorem c_X8_isOne (M : Mm) (k : Int) (hk : inI k) : CtI yX8_isOne cX8_isOne 1 .boolean 2 SH [iv k] M (fun r M' => r = b2 (0 ≤ k ∧ k ≤ 5) ∧ M' = M) := by
  refine CtI.of rfl (Nat.le_of_ble_eq_true rfl) (Or.inr rfl) (fun v as E hret => ?_)
  show Ws v as SH 0 0 0 [some (iv k)] [] M
  refine s_iload_n E dX8_isOne_0 rfl ?_
  refine s_iconst E dX8_isOne_1 ?_
  refine s_iconst E dX8_isOne_2 ?_
  refine s_callSi E (c_X8_in _ _ _ _ (by omega) (by omega) (by omega)) dX8_isOne_3 mf_X8_in ml_X8_63 rfl (Nat.le_of_ble_eq_true rfl) (Nat.le_of_ble_eq_true rfl) rfl (fun r3 M3 h3 => ?_)
  obtain ⟨e3, f3⟩ := h3; subst r3; subst M3
  refine hret _ _ ?_ (fun _ => b2_01 _) _ _ dX8_isOne_6
  exact ⟨rfl, rfl⟩

def mostF (w : Int) : Int := if w = 0 then 999 else if w = 3 then 99 else 1

set_option maxRecDepth 100000 in
set_option maxHeartbeats 4000000 in
theorem c_X8_mostOf (M : Mm) (w : Int) (hw : inI w) : CtI yX8_mostOf cX8_mostOf 1 .int 1 SH [iv w] M (fun r M' => r = mostF w ∧ M' = M) := by
  refine CtI.of rfl (Nat.le_of_ble_eq_true rfl) (Or.inl rfl) (fun v as E hret => ?_)
  show Ws v as SH 0 0 0 [some (iv w)] [] M
  refine s_iload_n E dX8_mostOf_0 rfl ?_
  refine s_if_ne E 10 dX8_mostOf_1 (by decide) (by omega) (fun h1 => ?_) (fun h1 => ?_)
  · refine s_iload_n E dX8_mostOf_10 rfl ?_
    refine s_iconst E dX8_mostOf_11 ?_
    refine s_icmp_ne E 20 dX8_mostOf_12 (by decide) (by omega) (by omega) (fun h12 => ?_) (fun h12 => ?_)
    · refine s_iconst E dX8_mostOf_20 ?_
      refine hret _ _ ?_ (fun q => by cases q) _ _ dX8_mostOf_21
      exact ⟨by unfold mostF; split <;> first | rfl | omega | (split <;> first | rfl | omega), rfl⟩
    · refine s_bipush E dX8_mostOf_15 rfl ?_
      refine s_goto E 21 dX8_mostOf_17 (by decide) ?_
      refine hret _ _ ?_ (fun q => by cases q) _ _ dX8_mostOf_21
      exact ⟨by unfold mostF; split <;> first | rfl | omega | (split <;> first | rfl | omega), rfl⟩
  · refine s_sipush E dX8_mostOf_4 rfl ?_
    refine s_goto E 21 dX8_mostOf_7 (by decide) ?_
    refine hret _ _ ?_ (fun q => by cases q) _ _ dX8_mostOf_21
    exact ⟨by unfold mostF; split <;> first | rfl | omega | (split <;> first | rfl | omega), rfl⟩

set_option maxRecDepth 100000 in
set_option maxHeartbeats 4000000 in
theorem c_X8_isName (M : Mm) (k : Int) (hk : inI k) : CtI yX8_isName cX8_isName 1 .boolean 2 SH [iv k] M (fun r M' => r = b2 (97 ≤ k ∧ k ≤ 102) ∧ M' = M) := by
  refine CtI.of rfl (Nat.le_of_ble_eq_true rfl) (Or.inr rfl) (fun v as E hret => ?_)
  show Ws v as SH 0 0 0 [some (iv k)] [] M
  refine s_iload_n E dX8_isName_0 rfl ?_
  refine s_bipush E dX8_isName_1 rfl ?_
  refine s_bipush E dX8_isName_3 rfl ?_
  refine s_callSi E (c_X8_in _ _ _ _ (by omega) (by omega) (by omega)) dX8_isName_5 mf_X8_in ml_X8_63 rfl (Nat.le_of_ble_eq_true rfl) (Nat.le_of_ble_eq_true rfl) rfl (fun r5 M5 h5 => ?_)
  obtain ⟨e5, f5⟩ := h5; subst r5; subst M5
  refine hret _ _ ?_ (fun _ => b2_01 _) _ _ dX8_isName_8
  exact ⟨rfl, rfl⟩

set_option maxRecDepth 100000 in
set_option maxHeartbeats 4000000 in
theorem c_X8_isAct (M : Mm) (k : Int) (hk : inI k) : CtI yX8_isAct cX8_isAct 1 .boolean 1 SH [iv k] M (fun r M' => r = b2 (k = 122 ∨ k = 121 ∨ k = 120 ∨ k = 105 ∨ k = 107) ∧ M' = M) := by
  refine CtI.of rfl (Nat.le_of_ble_eq_true rfl) (Or.inr rfl) (fun v as E hret => ?_)
  show Ws v as SH 0 0 0 [some (iv k)] [] M
  refine s_iload_n E dX8_isAct_0 rfl ?_
  refine s_bipush E dX8_isAct_1 rfl ?_
  refine s_icmp_eq E 30 dX8_isAct_3 (by decide) (by omega) (by omega) (fun h3 => ?_) (fun h3 => ?_)
  · refine s_iconst E dX8_isAct_30 ?_
    refine s_goto E 35 dX8_isAct_31 (by decide) ?_
    refine hret _ _ ?_ (fun _ => Or.inr rfl) _ _ dX8_isAct_35
    exact ⟨by first | exact (b2_pos (by omega)).symm | exact (b2_neg (by omega)).symm, rfl⟩
  · refine s_iload_n E dX8_isAct_6 rfl ?_
    refine s_bipush E dX8_isAct_7 rfl ?_
    refine s_icmp_eq E 30 dX8_isAct_9 (by decide) (by omega) (by omega) (fun h9 => ?_) (fun h9 => ?_)
    · refine s_iconst E dX8_isAct_30 ?_
      refine s_goto E 35 dX8_isAct_31 (by decide) ?_
      refine hret _ _ ?_ (fun _ => Or.inr rfl) _ _ dX8_isAct_35
      exact ⟨by first | exact (b2_pos (by omega)).symm | exact (b2_neg (by omega)).symm, rfl⟩
    · refine s_iload_n E dX8_isAct_12 rfl ?_
      refine s_bipush E dX8_isAct_13 rfl ?_
      refine s_icmp_eq E 30 dX8_isAct_15 (by decide) (by omega) (by omega) (fun h15 => ?_) (fun h15 => ?_)
      · refine s_iconst E dX8_isAct_30 ?_
        refine s_goto E 35 dX8_isAct_31 (by decide) ?_
        refine hret _ _ ?_ (fun _ => Or.inr rfl) _ _ dX8_isAct_35
        exact ⟨by first | exact (b2_pos (by omega)).symm | exact (b2_neg (by omega)).symm, rfl⟩
      · refine s_iload_n E dX8_isAct_18 rfl ?_
        refine s_bipush E dX8_isAct_19 rfl ?_
        refine s_icmp_eq E 30 dX8_isAct_21 (by decide) (by omega) (by omega) (fun h21 => ?_) (fun h21 => ?_)
        · refine s_iconst E dX8_isAct_30 ?_
          refine s_goto E 35 dX8_isAct_31 (by decide) ?_
          refine hret _ _ ?_ (fun _ => Or.inr rfl) _ _ dX8_isAct_35
          exact ⟨by first | exact (b2_pos (by omega)).symm | exact (b2_neg (by omega)).symm, rfl⟩
        · refine s_iload_n E dX8_isAct_24 rfl ?_
          refine s_bipush E dX8_isAct_25 rfl ?_
          refine s_icmp_ne E 34 dX8_isAct_27 (by decide) (by omega) (by omega) (fun h27 => ?_) (fun h27 => ?_)
          · refine s_iconst E dX8_isAct_34 ?_
            refine hret _ _ ?_ (fun _ => Or.inl rfl) _ _ dX8_isAct_35
            exact ⟨by first | exact (b2_pos (by omega)).symm | exact (b2_neg (by omega)).symm, rfl⟩
          · refine s_iconst E dX8_isAct_30 ?_
            refine s_goto E 35 dX8_isAct_31 (by decide) ?_
            refine hret _ _ ?_ (fun _ => Or.inr rfl) _ _ dX8_isAct_35
            exact ⟨by first | exact (b2_pos (by omega)).symm | exact (b2_neg (by omega)).symm, rfl⟩
