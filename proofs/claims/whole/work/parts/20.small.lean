set_option maxRecDepth 100000 in
set_option maxHeartbeats 4000000 in
theorem c_X7_isOne (M : Mm) (k : Int) (hk : inI k) : CtI yX7_isOne cX7_isOne 1 .boolean 1 SH [iv k] M (fun r M' => r = b2 (0 ≤ k ∧ k < 6) ∧ M' = M) := by
  refine CtI.of rfl (Nat.le_of_ble_eq_true rfl) (Or.inr rfl) (fun v as E hret => ?_)
  show Ws v as SH 0 0 0 [some (iv k)] [] M
  refine s_iload_n E dX7_isOne_0 rfl ?_
  refine s_if_lt E 14 dX7_isOne_1 (by decide) (by omega) (fun h1 => ?_) (fun h1 => ?_)
  · refine s_iconst E dX7_isOne_14 ?_
    refine hret _ _ ?_ (fun _ => Or.inl rfl) _ _ dX7_isOne_15
    exact ⟨(b2_neg (by omega)).symm, rfl⟩
  · refine s_iload_n E dX7_isOne_4 rfl ?_
    refine s_bipush E dX7_isOne_5 rfl ?_
    refine s_icmp_ge E 14 dX7_isOne_7 (by decide) (by omega) (by omega) (fun h7 => ?_) (fun h7 => ?_)
    · refine s_iconst E dX7_isOne_14 ?_
      refine hret _ _ ?_ (fun _ => Or.inl rfl) _ _ dX7_isOne_15
      exact ⟨(b2_neg (by omega)).symm, rfl⟩
    · refine s_iconst E dX7_isOne_10 ?_
      refine s_goto E 15 dX7_isOne_11 (by decide) ?_
      refine hret _ _ ?_ (fun _ => Or.inr rfl) _ _ dX7_isOne_15
      exact ⟨(b2_neg (by omega)).symm, rfl⟩
