/-! ===== books: the class ===== -/
def BO (p : Int → Int) (n : Int) (M : Mm) : Prop := M 40 1 = n ∧ (0 ≤ n ∧ n ≤ 12) ∧ (∀ j, 0 ≤ j → j < n → M 42 j = lnS (p j)) ∧ (∀ j, 0 ≤ j → j < 6 → 0 ≤ M 43 j ∧ M 43 j ≤ 999)
def HS (M : Mm) (at' : Int) (H : Int → Int) : Prop := ∀ j, 0 ≤ j → j < 6 → (0 ≤ M 43 j ∧ M 43 j ≤ 999) ∧ M 43 j + at' - 2 * M 44 j = H j ∧ 0 ≤ M 44 j ∧ M 44 j ≤ at'
theorem BO.fr {p : Int → Int} {n : Int} {M M' : Mm} {l : List Int} (h : BO p n M) (hF : Fr l M M') (h40 : (40 : Int) ∉ l) (h42 : (42 : Int) ∉ l) (h43 : (43 : Int) ∉ l) : BO p n M' := by
  unfold BO
  rw [hF 40 h40, hF 42 h42, hF 43 h43]
  exact h
theorem sumN_mono {f : Int → Int} (h : ∀ j, 0 ≤ j → 0 ≤ f j) {a : Nat} : ∀ b : Nat, sumN f a ≤ sumN f (a + b)
  | 0 => Int.le_refl _
  | b + 1 => by
    show sumN f a ≤ sumN f (a + b) + f ((a + b : Nat) : Int)
    have := sumN_mono h (a := a) b
    have := h ((a + b : Nat) : Int) (by omega)
    omega
theorem gW_nn (p : Int → Int) (r : Nat) (i : Int) (H : Int → Int) (k : Int) : 0 ≤ gW p r i H k := by
  have := (WB_rng p r (i + 1) (stepH k H)).1
  unfold gW
  split <;> omega
theorem lnS7 (s : Int) : 0 ≤ lnS s ∧ lnS s ≤ 7 := by
  unfold lnS
  (repeat' split) <;> omega

set_option maxRecDepth 100000 in
set_option maxHeartbeats 4000000 in
theorem c_X1_line (M : Mm) (s : Int) (hs : 0 ≤ s ∧ s ≤ 126) : CtI yX1_line cX1_line 1 .int 3 SH [iv s] M (fun r M' => r = lnS s ∧ M' = M) := by
  refine CtI.of rfl (Nat.le_of_ble_eq_true rfl) (Or.inl rfl) (fun v as E hret => ?_)
  show Ws v as SH 0 0 0 [some (iv s)] [] M
  refine s_iload_n E dX1_line_0 rfl ?_
  refine s_bipush E dX1_line_1 rfl ?_
  refine s_icmp_ne E 9 dX1_line_3 (by decide) (by omega) (by omega) (fun h3 => ?_) (fun h3 => ?_)
  · refine s_iload_n E dX1_line_9 rfl ?_
    refine s_callSNi E (c_X7_isOneSign _ _ (by omega)) dX1_line_10 mf_X7_isOneSign ml_X1_67 rfl (Nat.le_of_ble_eq_true rfl) (Nat.le_of_ble_eq_true rfl) rfl (fun r10 M10 h10 => ?_)
    obtain ⟨e10, f10⟩ := h10; subst r10; subst M10
    refine s_ifeqB E 23 dX1_line_13 (by decide) (fun h13 => ?_) (fun h13 => ?_)
    · refine s_bipush E dX1_line_23 rfl ?_
      refine hret _ _ ?_ (fun q => by cases q) _ _ dX1_line_25
      exact ⟨by unfold lnS; (repeat' split) <;> omega, rfl⟩
    · refine s_iload_n E dX1_line_16 rfl ?_
      refine s_bipush E dX1_line_17 rfl ?_
      refine s_isub E dX1_line_19 ?_
      refine s_goto E 25 dX1_line_20 (by decide) ?_
      refine hret _ _ ?_ (fun q => by cases q) _ _ dX1_line_25
      exact ⟨by unfold lnS; (repeat' split) <;> omega, rfl⟩
  · refine s_bipush E dX1_line_6 rfl ?_
    refine hret _ _ ?_ (fun q => by cases q) _ _ dX1_line_8
    exact ⟨by unfold lnS; (repeat' split) <;> omega, rfl⟩

set_option maxRecDepth 100000 in
set_option maxHeartbeats 4000000 in
theorem c_X1_canSpeak (M : Mm) (H : Int → Int) (a k : Int) (hH : HS M a H) (ha : 0 ≤ a ∧ a ≤ 12) (hk : 0 ≤ k ∧ k ≤ 7) : CtI yX1_canSpeak cX1_canSpeak 3 .boolean 2 SH [rv 40, iv a, iv k] M (fun r M' => r = b2 (okB k H) ∧ M' = M) := by
  refine CtI.of rfl (Nat.le_of_ble_eq_true rfl) (Or.inr rfl) (fun v as E hret => ?_)
  show Ws v as SH 0 0 0 [some (rv 40), some (iv a), some (iv k)] [] M
  refine s_iload_n E dX1_canSpeak_0 rfl ?_
  refine s_callSNi E (c_X7_isOne _ _ (by omega)) dX1_canSpeak_1 mf_X7_isOne ml_X1_52 rfl (Nat.le_of_ble_eq_true rfl) (Nat.le_of_ble_eq_true rfl) rfl (fun r1 M1 h1 => ?_)
  obtain ⟨e1, f1⟩ := h1; subst r1; subst M1
  refine s_ifeqB E 27 dX1_canSpeak_4 (by decide) (fun h4 => ?_) (fun h4 => ?_)
  · refine s_iconst E dX1_canSpeak_27 ?_
    refine s_goto E 32 dX1_canSpeak_28 (by decide) ?_
    refine hret _ _ ?_ (fun _ => Or.inr rfl) _ _ dX1_canSpeak_32
    exact ⟨(b2_pos (show okB k H from Or.inl (by omega))).symm, rfl⟩
  · have hj := hH k (by omega) (by omega)
    refine s_aload_n E dX1_canSpeak_7 rfl ?_
    refine s_getR (kf := 3) E dX1_canSpeak_8 rfl inb_X1 (Nat.le_of_ble_eq_true rfl) fl_X1_22 (by decide) sh40 rfl ?_
    refine s_iload_n E dX1_canSpeak_11 rfl ?_
    refine s_iald E dX1_canSpeak_12 (by decide) sh43 (Nat.le_of_ble_eq_true rfl) (by omega) ?_
    refine s_iload_n E dX1_canSpeak_13 rfl ?_
    refine s_iadd E dX1_canSpeak_14 ?_
    refine s_iconst E dX1_canSpeak_15 ?_
    refine s_aload_n E dX1_canSpeak_16 rfl ?_
    refine s_getR (kf := 4) E dX1_canSpeak_17 rfl inb_X1 (Nat.le_of_ble_eq_true rfl) fl_X1_25 (by decide) sh40 rfl ?_
    refine s_iload_n E dX1_canSpeak_20 rfl ?_
    refine s_iald E dX1_canSpeak_21 (by decide) sh44 (Nat.le_of_ble_eq_true rfl) (by omega) ?_
    refine s_imul E dX1_canSpeak_22 ?_
    refine s_isub E dX1_canSpeak_23 ?_
    refine s_if_le E 31 dX1_canSpeak_24 (by decide) (by omega) (fun h24 => ?_) (fun h24 => ?_)
    · refine s_iconst E dX1_canSpeak_31 ?_
      refine hret _ _ ?_ (fun _ => Or.inl rfl) _ _ dX1_canSpeak_32
      exact ⟨(b2_neg (fun w => by unfold okB at w; omega)).symm, rfl⟩
    · refine s_iconst E dX1_canSpeak_27 ?_
      refine s_goto E 32 dX1_canSpeak_28 (by decide) ?_
      refine hret _ _ ?_ (fun _ => Or.inr rfl) _ _ dX1_canSpeak_32
      exact ⟨(b2_pos (show okB k H from Or.inr (by omega))).symm, rfl⟩

set_option maxRecDepth 100000 in
set_option maxHeartbeats 4000000 in
theorem c_X1_count (M : Mm) (k d : Int) (hk : 0 ≤ k ∧ k ≤ 7) : CtV yX1_count cX1_count 3 2 SH [rv 40, iv k, iv d] M (fun M' => M' = if k < 6 then upm M 44 k (M 44 k + d) else M) := by
  refine CtV.of rfl (Nat.le_of_ble_eq_true rfl) (fun v as E hret => ?_)
  show Ws v as SH 0 0 0 [some (rv 40), some (iv k), some (iv d)] [] M
  refine s_iload_n E dX1_count_0 rfl ?_
  refine s_callSNi E (c_X7_isOne _ _ (by omega)) dX1_count_1 mf_X7_isOne ml_X1_52 rfl (Nat.le_of_ble_eq_true rfl) (Nat.le_of_ble_eq_true rfl) rfl (fun r1 M1 h1 => ?_)
  obtain ⟨e1, f1⟩ := h1; subst r1; subst M1
  refine s_ifeqB E 17 dX1_count_4 (by decide) (fun h4 => ?_) (fun h4 => ?_)
  · refine hret _ ?_ _ _ dX1_count_17
    exact (if_neg (by omega)).symm
  · refine s_aload_n E dX1_count_7 rfl ?_
    refine s_getR (kf := 4) E dX1_count_8 rfl inb_X1 (Nat.le_of_ble_eq_true rfl) fl_X1_25 (by decide) sh40 rfl ?_
    refine s_iload_n E dX1_count_11 rfl ?_
    refine s_dup2 E dX1_count_12 ?_
    refine s_iald E dX1_count_13 (by decide) sh44 (Nat.le_of_ble_eq_true rfl) (by omega) ?_
    refine s_iload_n E dX1_count_14 rfl ?_
    refine s_iadd E dX1_count_15 ?_
    refine s_iast E dX1_count_16 (by decide) sh44 (Nat.le_of_ble_eq_true rfl) (by omega) ?_
    refine hret _ ?_ _ _ dX1_count_17
    exact (if_pos (by omega)).symm

set_option maxRecDepth 100000 in
set_option maxHeartbeats 4000000 in
theorem c_X1_sign (M : Mm) (j : Int) (hj : 0 ≤ j ∧ j < 12) (hf : 0 ≤ M 41 j ∧ M 41 j ≤ 6) : CtI yX1_sign cX1_sign 3 .int 2 SH [rv 40, iv j] M (fun r M' => r = (if M 41 j = 6 then 46 else 97 + M 41 j) ∧ M' = M) := by
  refine CtI.of rfl (Nat.le_of_ble_eq_true rfl) (Or.inl rfl) (fun v as E hret => ?_)
  show Ws v as SH 0 0 0 [some (rv 40), some (iv j), none] [] M
  refine s_aload_n E dX1_sign_0 rfl ?_
  refine s_getR (kf := 0) E dX1_sign_1 rfl inb_X1 (Nat.le_of_ble_eq_true rfl) fl_X1_9 (by decide) sh40 rfl ?_
  refine s_iload_n E dX1_sign_4 rfl ?_
  refine s_iald E dX1_sign_5 (by decide) sh41 (Nat.le_of_ble_eq_true rfl) (by omega) ?_
  refine s_istore_n (ls' := [_, _, _]) E dX1_sign_6 (Nat.le_of_ble_eq_true rfl) rfl ?_
  refine s_iload_n E dX1_sign_7 rfl ?_
  refine s_callSNi E (c_X7_isOne _ _ (by omega)) dX1_sign_8 mf_X7_isOne ml_X1_52 rfl (Nat.le_of_ble_eq_true rfl) (Nat.le_of_ble_eq_true rfl) rfl (fun r8 M8 h8 => ?_)
  obtain ⟨e8, f8⟩ := h8; subst r8; subst M8
  refine s_ifeqB E 21 dX1_sign_11 (by decide) (fun h11 => ?_) (fun h11 => ?_)
  · refine s_bipush E dX1_sign_21 rfl ?_
    refine hret _ _ ?_ (fun q => by cases q) _ _ dX1_sign_23
    exact ⟨(if_pos (by omega)).symm, rfl⟩
  · refine s_bipush E dX1_sign_14 rfl ?_
    refine s_iload_n E dX1_sign_16 rfl ?_
    refine s_iadd E dX1_sign_17 ?_
    refine s_goto E 23 dX1_sign_18 (by decide) ?_
    refine hret _ _ ?_ (fun q => by cases q) _ _ dX1_sign_23
    exact ⟨(if_neg (by omega)).symm, rfl⟩
