set_option maxRecDepth 100000 in
set_option maxHeartbeats 4000000 in
theorem c_X8_set (M : Mm) (k w z : Int) (hk : inI k) (hw : inI w) (hz : inI z) : CtI yX8_set cX8_set 5 .int 3 SH [rv 79, iv k, iv w, iv z] M (fun r M' => r = (if 0 ≤ k ∧ k < 6 then (if (0 ≤ w ∧ w ≤ 3) ∧ 0 ≤ z ∧ z ≤ mostF w then M 80 (4 * k + w) else -2) else -1) ∧ M' = (if (0 ≤ k ∧ k < 6) ∧ (0 ≤ w ∧ w ≤ 3) ∧ 0 ≤ z ∧ z ≤ mostF w then upm M 80 (4 * k + w) z else M)) := by
  refine CtI.of rfl (Nat.le_of_ble_eq_true rfl) (Or.inl rfl) (fun v as E hret => ?_)
  show Ws v as SH 0 0 0 [some (rv 79), some (iv k), some (iv w), some (iv z), none] [] M
  refine s_iload_n E dX8_set_0 rfl ?_
  refine s_callSi E (c_X8_isOne _ _ (by omega)) dX8_set_1 mf_X8_isOne ml_X8_67 rfl (Nat.le_of_ble_eq_true rfl) (Nat.le_of_ble_eq_true rfl) rfl (fun r1 M1 h1 => ?_)
  obtain ⟨e1, f1⟩ := h1; subst r1; subst M1
  refine s_ifneB E 9 dX8_set_4 (by decide) (fun h4 => ?_) (fun h4 => ?_)
  · refine s_iload_n E dX8_set_9 rfl ?_
    refine s_iconst E dX8_set_10 ?_
    refine s_iconst E dX8_set_11 ?_
    refine s_callSi E (c_X8_in _ _ _ _ (by omega) (by omega) (by omega)) dX8_set_12 mf_X8_in ml_X8_63 rfl (Nat.le_of_ble_eq_true rfl) (Nat.le_of_ble_eq_true rfl) rfl (fun r12 M12 h12 => ?_)
    obtain ⟨e12, f12⟩ := h12; subst r12; subst M12
    refine s_ifeqB E 30 dX8_set_15 (by decide) (fun h15 => ?_) (fun h15 => ?_)
    · refine s_bipush E dX8_set_30 rfl ?_
      refine hret _ _ ?_ (fun q => by cases q) _ _ dX8_set_32
      exact ⟨by rw [if_pos (by omega), if_neg (by omega)], by rw [if_neg (by omega)]⟩
    · refine s_iload_n E dX8_set_18 rfl ?_
      refine s_iconst E dX8_set_19 ?_
      refine s_iload_n E dX8_set_20 rfl ?_
      refine s_callSi E (c_X8_mostOf _ _ (by omega)) dX8_set_21 mf_X8_mostOf ml_X8_71 rfl (Nat.le_of_ble_eq_true rfl) (Nat.le_of_ble_eq_true rfl) rfl (fun r21 M21 h21 => ?_)
      obtain ⟨e21, f21⟩ := h21; subst r21; subst M21
      have hmo : 0 ≤ mostF w ∧ mostF w ≤ 999 := by unfold mostF; (repeat' split) <;> omega
      refine s_callSi E (c_X8_in _ _ _ _ (by omega) (by omega) (by omega)) dX8_set_24 mf_X8_in ml_X8_63 rfl (Nat.le_of_ble_eq_true rfl) (Nat.le_of_ble_eq_true rfl) rfl (fun r24 M24 h24 => ?_)
      obtain ⟨e24, f24⟩ := h24; subst r24; subst M24
      refine s_ifneB E 33 dX8_set_27 (by decide) (fun h27 => ?_) (fun h27 => ?_)
      · refine s_aload_n E dX8_set_33 rfl ?_
        refine s_getR (kf := 0) E dX8_set_34 rfl inb_X8 (Nat.le_of_ble_eq_true rfl) fl_X8_7 (by decide) sh79 rfl ?_
        refine s_iconst E dX8_set_37 ?_
        refine s_iload_n E dX8_set_38 rfl ?_
        refine s_imul E dX8_set_39 ?_
        refine s_iload_n E dX8_set_40 rfl ?_
        refine s_iadd E dX8_set_41 ?_
        refine s_iald E dX8_set_42 (by decide) sh80 (Nat.le_of_ble_eq_true rfl) (by omega) ?_
        refine s_istore (ls' := [_, _, _, _, _]) E dX8_set_43 (Nat.le_of_ble_eq_true rfl) rfl ?_
        refine s_aload_n E dX8_set_45 rfl ?_
        refine s_getR (kf := 0) E dX8_set_46 rfl inb_X8 (Nat.le_of_ble_eq_true rfl) fl_X8_7 (by decide) sh79 rfl ?_
        refine s_iconst E dX8_set_49 ?_
        refine s_iload_n E dX8_set_50 rfl ?_
        refine s_imul E dX8_set_51 ?_
        refine s_iload_n E dX8_set_52 rfl ?_
        refine s_iadd E dX8_set_53 ?_
        refine s_iload_n E dX8_set_54 rfl ?_
        refine s_iast E dX8_set_55 (by decide) sh80 (Nat.le_of_ble_eq_true rfl) (by omega) ?_
        refine s_iload E dX8_set_56 rfl ?_
        refine hret _ _ ?_ (fun q => by cases q) _ _ dX8_set_58
        exact ⟨by rw [if_pos (by omega), if_pos (by omega)], by rw [if_pos (by omega)]⟩
      · refine s_bipush E dX8_set_30 rfl ?_
        refine hret _ _ ?_ (fun q => by cases q) _ _ dX8_set_32
        exact ⟨by rw [if_pos (by omega), if_neg (by omega)], by rw [if_neg (by omega)]⟩
  · refine s_iconst E dX8_set_7 ?_
    refine hret _ _ ?_ (fun q => by cases q) _ _ dX8_set_8
    exact ⟨by rw [if_neg (by omega)], by rw [if_neg (by omega)]⟩
