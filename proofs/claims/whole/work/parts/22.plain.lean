/-! ===== the plain calls, both sides ===== -/
theorem shl_rng {c : Int} (h : 0 ≤ c ∧ c ≤ 8) : 1 ≤ iShl 1 c ∧ iShl 1 c ≤ 256 := by
  have : c = 0 ∨ c = 1 ∨ c = 2 ∨ c = 3 ∨ c = 4 ∨ c = 5 ∨ c = 6 ∨ c = 7 ∨ c = 8 := by omega
  rcases this with rfl | rfl | rfl | rfl | rfl | rfl | rfl | rfl | rfl <;> decide

set_option maxRecDepth 100000 in
set_option maxHeartbeats 4000000 in
theorem c_X7_law (M : Mm) (w z : Int) (hw : inI w) (hz : inI z) : CtI yX7_law cX7_law 4 .int 1 SH [rv 0, iv w, iv z] M (fun r M' => r = (if (0 ≤ w ∧ w ≤ 1 ∧ 0 ≤ z ∧ z ≤ 99) then M 1 (3 + w) else -2) ∧ M' = (if (0 ≤ w ∧ w ≤ 1 ∧ 0 ≤ z ∧ z ≤ 99) then upm M 1 (3 + w) z else M)) := by
  refine CtI.of rfl (Nat.le_of_ble_eq_true rfl) (Or.inl rfl) (fun v as E hret => ?_)
  show Ws v as SH 0 0 0 [some (rv 0), some (iv w), some (iv z), none] [] M
  refine s_iload_n E dX7_law_0 rfl ?_
  refine s_if_lt E 19 dX7_law_1 (by decide) (by omega) (fun h1 => ?_) (fun h1 => ?_)
  · refine s_bipush E dX7_law_19 rfl ?_
    refine hret _ _ ?_ (fun q => by cases q) _ _ dX7_law_21
    exact ⟨by (repeat' split) <;> first | rfl | omega, by (repeat' split) <;> first | rfl | omega⟩
  · refine s_iload_n E dX7_law_4 rfl ?_
    refine s_iconst E dX7_law_5 ?_
    refine s_icmp_gt E 19 dX7_law_6 (by decide) (by omega) (by omega) (fun h6 => ?_) (fun h6 => ?_)
    · refine s_bipush E dX7_law_19 rfl ?_
      refine hret _ _ ?_ (fun q => by cases q) _ _ dX7_law_21
      exact ⟨by (repeat' split) <;> first | rfl | omega, by (repeat' split) <;> first | rfl | omega⟩
    · refine s_iload_n E dX7_law_9 rfl ?_
      refine s_if_lt E 19 dX7_law_10 (by decide) (by omega) (fun h10 => ?_) (fun h10 => ?_)
      · refine s_bipush E dX7_law_19 rfl ?_
        refine hret _ _ ?_ (fun q => by cases q) _ _ dX7_law_21
        exact ⟨by (repeat' split) <;> first | rfl | omega, by (repeat' split) <;> first | rfl | omega⟩
      · refine s_iload_n E dX7_law_13 rfl ?_
        refine s_bipush E dX7_law_14 rfl ?_
        refine s_icmp_le E 22 dX7_law_16 (by decide) (by omega) (by omega) (fun h16 => ?_) (fun h16 => ?_)
        · refine s_iload_n E dX7_law_22 rfl ?_
          refine s_if_ne E 36 dX7_law_23 (by decide) (by omega) (fun h23 => ?_) (fun h23 => ?_)
          · refine s_aload_n E dX7_law_36 rfl ?_
            refine s_getR (kf := 0) E dX7_law_37 rfl inb_X7 (Nat.le_of_ble_eq_true rfl) fl_X7_10 (by decide) sh0 rfl ?_
            refine s_getI (kf := 4) E 4 rfl dX7_law_40 rfl inb_X2 (Nat.le_of_ble_eq_true rfl) fl_X7_75 (by decide) sh1 rfl ?_
            refine s_istore_n (ls' := [_, _, _, _]) E dX7_law_43 (Nat.le_of_ble_eq_true rfl) rfl ?_
            refine s_iload_n E dX7_law_44 rfl ?_
            refine s_if_ne E 59 dX7_law_45 (by decide) (by omega) (fun h45 => ?_) (fun h45 => ?_)
            · refine s_aload_n E dX7_law_59 rfl ?_
              refine s_getR (kf := 0) E dX7_law_60 rfl inb_X7 (Nat.le_of_ble_eq_true rfl) fl_X7_10 (by decide) sh0 rfl ?_
              refine s_iload_n E dX7_law_63 rfl ?_
              refine s_putI (kf := 4) E 4 rfl dX7_law_64 rfl inb_X2 tyX2_ok nmX2 (Nat.le_of_ble_eq_true rfl) ⟨rfl, rfl⟩ fl_X7_75 (by decide) sh1 rfl ?_
              refine s_iload_n E dX7_law_67 rfl ?_
              refine hret _ _ ?_ (fun q => by cases q) _ _ dX7_law_68
              obtain rfl : w = 1 := by omega
              exact ⟨by (repeat' split) <;> first | rfl | omega, by (repeat' split) <;> first | rfl | omega⟩
            · refine s_aload_n E dX7_law_48 rfl ?_
              refine s_getR (kf := 0) E dX7_law_49 rfl inb_X7 (Nat.le_of_ble_eq_true rfl) fl_X7_10 (by decide) sh0 rfl ?_
              refine s_iload_n E dX7_law_52 rfl ?_
              refine s_putI (kf := 3) E 3 rfl dX7_law_53 rfl inb_X2 tyX2_ok nmX2 (Nat.le_of_ble_eq_true rfl) ⟨rfl, rfl⟩ fl_X7_71 (by decide) sh1 rfl ?_
              refine s_goto E 67 dX7_law_56 (by decide) ?_
              refine s_iload_n E dX7_law_67 rfl ?_
              refine hret _ _ ?_ (fun q => by cases q) _ _ dX7_law_68
              obtain rfl : w = 0 := by omega
              exact ⟨by (repeat' split) <;> first | rfl | omega, by (repeat' split) <;> first | rfl | omega⟩
          · refine s_aload_n E dX7_law_26 rfl ?_
            refine s_getR (kf := 0) E dX7_law_27 rfl inb_X7 (Nat.le_of_ble_eq_true rfl) fl_X7_10 (by decide) sh0 rfl ?_
            refine s_getI (kf := 3) E 3 rfl dX7_law_30 rfl inb_X2 (Nat.le_of_ble_eq_true rfl) fl_X7_71 (by decide) sh1 rfl ?_
            refine s_goto E 43 dX7_law_33 (by decide) ?_
            refine s_istore_n (ls' := [_, _, _, _]) E dX7_law_43 (Nat.le_of_ble_eq_true rfl) rfl ?_
            refine s_iload_n E dX7_law_44 rfl ?_
            refine s_if_ne E 59 dX7_law_45 (by decide) (by omega) (fun h45 => ?_) (fun h45 => ?_)
            · refine s_aload_n E dX7_law_59 rfl ?_
              refine s_getR (kf := 0) E dX7_law_60 rfl inb_X7 (Nat.le_of_ble_eq_true rfl) fl_X7_10 (by decide) sh0 rfl ?_
              refine s_iload_n E dX7_law_63 rfl ?_
              refine s_putI (kf := 4) E 4 rfl dX7_law_64 rfl inb_X2 tyX2_ok nmX2 (Nat.le_of_ble_eq_true rfl) ⟨rfl, rfl⟩ fl_X7_75 (by decide) sh1 rfl ?_
              refine s_iload_n E dX7_law_67 rfl ?_
              refine hret _ _ ?_ (fun q => by cases q) _ _ dX7_law_68
              obtain rfl : w = 1 := by omega
              exact ⟨by (repeat' split) <;> first | rfl | omega, by (repeat' split) <;> first | rfl | omega⟩
            · refine s_aload_n E dX7_law_48 rfl ?_
              refine s_getR (kf := 0) E dX7_law_49 rfl inb_X7 (Nat.le_of_ble_eq_true rfl) fl_X7_10 (by decide) sh0 rfl ?_
              refine s_iload_n E dX7_law_52 rfl ?_
              refine s_putI (kf := 3) E 3 rfl dX7_law_53 rfl inb_X2 tyX2_ok nmX2 (Nat.le_of_ble_eq_true rfl) ⟨rfl, rfl⟩ fl_X7_71 (by decide) sh1 rfl ?_
              refine s_goto E 67 dX7_law_56 (by decide) ?_
              refine s_iload_n E dX7_law_67 rfl ?_
              refine hret _ _ ?_ (fun q => by cases q) _ _ dX7_law_68
              obtain rfl : w = 0 := by omega
              exact ⟨by (repeat' split) <;> first | rfl | omega, by (repeat' split) <;> first | rfl | omega⟩
        · refine s_bipush E dX7_law_19 rfl ?_
          refine hret _ _ ?_ (fun q => by cases q) _ _ dX7_law_21
          exact ⟨by (repeat' split) <;> first | rfl | omega, by (repeat' split) <;> first | rfl | omega⟩

set_option maxRecDepth 100000 in
set_option maxHeartbeats 4000000 in
theorem c_X8_law (M : Mm) (w z : Int) (hw : inI w) (hz : inI z) : CtI yX8_law cX8_law 4 .int 2 SH [rv 79, iv w, iv z] M (fun r M' => r = (if (0 ≤ w ∧ w ≤ 1 ∧ 0 ≤ z ∧ z ≤ 99) then M 79 (1 + w) else -2) ∧ M' = (if (0 ≤ w ∧ w ≤ 1 ∧ 0 ≤ z ∧ z ≤ 99) then upm (upm M 79 1 (if w = 0 then z else M 79 1)) 79 2 (if w = 1 then z else M 79 2) else M)) := by
  refine CtI.of rfl (Nat.le_of_ble_eq_true rfl) (Or.inl rfl) (fun v as E hret => ?_)
  show Ws v as SH 0 0 0 [some (rv 79), some (iv w), some (iv z), none] [] M
  refine s_iload_n E dX8_law_0 rfl ?_
  refine s_iconst E dX8_law_1 ?_
  refine s_iconst E dX8_law_2 ?_
  refine s_callSi E (c_X8_in _ _ _ _ (by omega) (by omega) (by omega)) dX8_law_3 mf_X8_in ml_X8_63 rfl (Nat.le_of_ble_eq_true rfl) (Nat.le_of_ble_eq_true rfl) rfl (fun r3 M3 h3 => ?_)
  obtain ⟨e3, f3⟩ := h3; subst r3; subst M3
  refine s_ifeqB E 19 dX8_law_6 (by decide) (fun h6 => ?_) (fun h6 => ?_)
  · refine s_bipush E dX8_law_19 rfl ?_
    refine hret _ _ ?_ (fun q => by cases q) _ _ dX8_law_21
    exact ⟨by (repeat' split) <;> first | rfl | omega, by (repeat' split) <;> first | rfl | omega⟩
  · refine s_iload_n E dX8_law_9 rfl ?_
    refine s_iconst E dX8_law_10 ?_
    refine s_bipush E dX8_law_11 rfl ?_
    refine s_callSi E (c_X8_in _ _ _ _ (by omega) (by omega) (by omega)) dX8_law_13 mf_X8_in ml_X8_63 rfl (Nat.le_of_ble_eq_true rfl) (Nat.le_of_ble_eq_true rfl) rfl (fun r13 M13 h13 => ?_)
    obtain ⟨e13, f13⟩ := h13; subst r13; subst M13
    refine s_ifneB E 22 dX8_law_16 (by decide) (fun h16 => ?_) (fun h16 => ?_)
    · refine s_iload_n E dX8_law_22 rfl ?_
      refine s_if_ne E 33 dX8_law_23 (by decide) (by omega) (fun h23 => ?_) (fun h23 => ?_)
      · refine s_aload_n E dX8_law_33 rfl ?_
        refine s_getI (kf := 2) E 2 rfl dX8_law_34 rfl inb_X8 (Nat.le_of_ble_eq_true rfl) fl_X8_17 (by decide) sh79 rfl ?_
        refine s_istore_n (ls' := [_, _, _, _]) E dX8_law_37 (Nat.le_of_ble_eq_true rfl) rfl ?_
        refine s_aload_n E dX8_law_38 rfl ?_
        refine s_iload_n E dX8_law_39 rfl ?_
        refine s_if_ne E 47 dX8_law_40 (by decide) (by omega) (fun h40 => ?_) (fun h40 => ?_)
        · refine s_aload_n E dX8_law_47 rfl ?_
          refine s_getI (kf := 1) E 1 rfl dX8_law_48 rfl inb_X8 (Nat.le_of_ble_eq_true rfl) fl_X8_13 (by decide) sh79 rfl ?_
          refine s_putI (kf := 1) E 1 rfl dX8_law_51 rfl inb_X8 tyX8_ok nmX8 (Nat.le_of_ble_eq_true rfl) ⟨rfl, rfl⟩ fl_X8_13 (by decide) sh79 rfl ?_
          refine s_aload_n E dX8_law_54 rfl ?_
          refine s_iload_n E dX8_law_55 rfl ?_
          refine s_iconst E dX8_law_56 ?_
          refine s_icmp_ne E 64 dX8_law_57 (by decide) (by omega) (by omega) (fun h57 => ?_) (fun h57 => ?_)
          · refine s_aload_n E dX8_law_64 rfl ?_
            refine s_getI (kf := 2) E 2 rfl dX8_law_65 rfl inb_X8 (Nat.le_of_ble_eq_true rfl) fl_X8_17 (by decide) sh79 rfl ?_
            refine s_putI (kf := 2) E 2 rfl dX8_law_68 rfl inb_X8 tyX8_ok nmX8 (Nat.le_of_ble_eq_true rfl) ⟨rfl, rfl⟩ fl_X8_17 (by decide) sh79 rfl ?_
            refine s_iload_n E dX8_law_71 rfl ?_
            refine hret _ _ ?_ (fun q => by cases q) _ _ dX8_law_72
            obtain rfl : w = 1 := by omega
            refine ⟨?_, ?_⟩
            · rw [if_pos (by omega)]; rfl
            · rw [if_pos (by omega)]; first | (exfalso; omega) | simp [upm]
          · refine s_iload_n E dX8_law_60 rfl ?_
            refine s_goto E 68 dX8_law_61 (by decide) ?_
            refine s_putI (kf := 2) E 2 rfl dX8_law_68 rfl inb_X8 tyX8_ok nmX8 (Nat.le_of_ble_eq_true rfl) ⟨rfl, rfl⟩ fl_X8_17 (by decide) sh79 rfl ?_
            refine s_iload_n E dX8_law_71 rfl ?_
            refine hret _ _ ?_ (fun q => by cases q) _ _ dX8_law_72
            obtain rfl : w = 1 := by omega
            refine ⟨?_, ?_⟩
            · rw [if_pos (by omega)]; rfl
            · rw [if_pos (by omega)]; first | (exfalso; omega) | simp [upm]
        · refine s_iload_n E dX8_law_43 rfl ?_
          refine s_goto E 51 dX8_law_44 (by decide) ?_
          refine s_putI (kf := 1) E 1 rfl dX8_law_51 rfl inb_X8 tyX8_ok nmX8 (Nat.le_of_ble_eq_true rfl) ⟨rfl, rfl⟩ fl_X8_13 (by decide) sh79 rfl ?_
          refine s_aload_n E dX8_law_54 rfl ?_
          refine s_iload_n E dX8_law_55 rfl ?_
          refine s_iconst E dX8_law_56 ?_
          refine s_icmp_ne E 64 dX8_law_57 (by decide) (by omega) (by omega) (fun h57 => ?_) (fun h57 => ?_)
          · refine s_aload_n E dX8_law_64 rfl ?_
            refine s_getI (kf := 2) E 2 rfl dX8_law_65 rfl inb_X8 (Nat.le_of_ble_eq_true rfl) fl_X8_17 (by decide) sh79 rfl ?_
            refine s_putI (kf := 2) E 2 rfl dX8_law_68 rfl inb_X8 tyX8_ok nmX8 (Nat.le_of_ble_eq_true rfl) ⟨rfl, rfl⟩ fl_X8_17 (by decide) sh79 rfl ?_
            refine s_iload_n E dX8_law_71 rfl ?_
            refine hret _ _ ?_ (fun q => by cases q) _ _ dX8_law_72
            obtain rfl : w = 1 := by omega
            refine ⟨?_, ?_⟩
            · rw [if_pos (by omega)]; rfl
            · rw [if_pos (by omega)]; first | (exfalso; omega) | simp [upm]
          · refine s_iload_n E dX8_law_60 rfl ?_
            refine s_goto E 68 dX8_law_61 (by decide) ?_
            refine s_putI (kf := 2) E 2 rfl dX8_law_68 rfl inb_X8 tyX8_ok nmX8 (Nat.le_of_ble_eq_true rfl) ⟨rfl, rfl⟩ fl_X8_17 (by decide) sh79 rfl ?_
            refine s_iload_n E dX8_law_71 rfl ?_
            refine hret _ _ ?_ (fun q => by cases q) _ _ dX8_law_72
            obtain rfl : w = 1 := by omega
            refine ⟨?_, ?_⟩
            · rw [if_pos (by omega)]; rfl
            · rw [if_pos (by omega)]; first | (exfalso; omega) | simp [upm]
      · refine s_aload_n E dX8_law_26 rfl ?_
        refine s_getI (kf := 1) E 1 rfl dX8_law_27 rfl inb_X8 (Nat.le_of_ble_eq_true rfl) fl_X8_13 (by decide) sh79 rfl ?_
        refine s_goto E 37 dX8_law_30 (by decide) ?_
        refine s_istore_n (ls' := [_, _, _, _]) E dX8_law_37 (Nat.le_of_ble_eq_true rfl) rfl ?_
        refine s_aload_n E dX8_law_38 rfl ?_
        refine s_iload_n E dX8_law_39 rfl ?_
        refine s_if_ne E 47 dX8_law_40 (by decide) (by omega) (fun h40 => ?_) (fun h40 => ?_)
        · refine s_aload_n E dX8_law_47 rfl ?_
          refine s_getI (kf := 1) E 1 rfl dX8_law_48 rfl inb_X8 (Nat.le_of_ble_eq_true rfl) fl_X8_13 (by decide) sh79 rfl ?_
          refine s_putI (kf := 1) E 1 rfl dX8_law_51 rfl inb_X8 tyX8_ok nmX8 (Nat.le_of_ble_eq_true rfl) ⟨rfl, rfl⟩ fl_X8_13 (by decide) sh79 rfl ?_
          refine s_aload_n E dX8_law_54 rfl ?_
          refine s_iload_n E dX8_law_55 rfl ?_
          refine s_iconst E dX8_law_56 ?_
          refine s_icmp_ne E 64 dX8_law_57 (by decide) (by omega) (by omega) (fun h57 => ?_) (fun h57 => ?_)
          · refine s_aload_n E dX8_law_64 rfl ?_
            refine s_getI (kf := 2) E 2 rfl dX8_law_65 rfl inb_X8 (Nat.le_of_ble_eq_true rfl) fl_X8_17 (by decide) sh79 rfl ?_
            refine s_putI (kf := 2) E 2 rfl dX8_law_68 rfl inb_X8 tyX8_ok nmX8 (Nat.le_of_ble_eq_true rfl) ⟨rfl, rfl⟩ fl_X8_17 (by decide) sh79 rfl ?_
            refine s_iload_n E dX8_law_71 rfl ?_
            refine hret _ _ ?_ (fun q => by cases q) _ _ dX8_law_72
            obtain rfl : w = 0 := by omega
            refine ⟨?_, ?_⟩
            · rw [if_pos (by omega)]; rfl
            · rw [if_pos (by omega)]; first | (exfalso; omega) | simp [upm]
          · refine s_iload_n E dX8_law_60 rfl ?_
            refine s_goto E 68 dX8_law_61 (by decide) ?_
            refine s_putI (kf := 2) E 2 rfl dX8_law_68 rfl inb_X8 tyX8_ok nmX8 (Nat.le_of_ble_eq_true rfl) ⟨rfl, rfl⟩ fl_X8_17 (by decide) sh79 rfl ?_
            refine s_iload_n E dX8_law_71 rfl ?_
            refine hret _ _ ?_ (fun q => by cases q) _ _ dX8_law_72
            obtain rfl : w = 0 := by omega
            refine ⟨?_, ?_⟩
            · rw [if_pos (by omega)]; rfl
            · rw [if_pos (by omega)]; first | (exfalso; omega) | simp [upm]
        · refine s_iload_n E dX8_law_43 rfl ?_
          refine s_goto E 51 dX8_law_44 (by decide) ?_
          refine s_putI (kf := 1) E 1 rfl dX8_law_51 rfl inb_X8 tyX8_ok nmX8 (Nat.le_of_ble_eq_true rfl) ⟨rfl, rfl⟩ fl_X8_13 (by decide) sh79 rfl ?_
          refine s_aload_n E dX8_law_54 rfl ?_
          refine s_iload_n E dX8_law_55 rfl ?_
          refine s_iconst E dX8_law_56 ?_
          refine s_icmp_ne E 64 dX8_law_57 (by decide) (by omega) (by omega) (fun h57 => ?_) (fun h57 => ?_)
          · refine s_aload_n E dX8_law_64 rfl ?_
            refine s_getI (kf := 2) E 2 rfl dX8_law_65 rfl inb_X8 (Nat.le_of_ble_eq_true rfl) fl_X8_17 (by decide) sh79 rfl ?_
            refine s_putI (kf := 2) E 2 rfl dX8_law_68 rfl inb_X8 tyX8_ok nmX8 (Nat.le_of_ble_eq_true rfl) ⟨rfl, rfl⟩ fl_X8_17 (by decide) sh79 rfl ?_
            refine s_iload_n E dX8_law_71 rfl ?_
            refine hret _ _ ?_ (fun q => by cases q) _ _ dX8_law_72
            obtain rfl : w = 0 := by omega
            refine ⟨?_, ?_⟩
            · rw [if_pos (by omega)]; rfl
            · rw [if_pos (by omega)]; first | (exfalso; omega) | simp [upm]
          · refine s_iload_n E dX8_law_60 rfl ?_
            refine s_goto E 68 dX8_law_61 (by decide) ?_
            refine s_putI (kf := 2) E 2 rfl dX8_law_68 rfl inb_X8 tyX8_ok nmX8 (Nat.le_of_ble_eq_true rfl) ⟨rfl, rfl⟩ fl_X8_17 (by decide) sh79 rfl ?_
            refine s_iload_n E dX8_law_71 rfl ?_
            refine hret _ _ ?_ (fun q => by cases q) _ _ dX8_law_72
            obtain rfl : w = 0 := by omega
            refine ⟨?_, ?_⟩
            · rw [if_pos (by omega)]; rfl
            · rw [if_pos (by omega)]; first | (exfalso; omega) | simp [upm]
    · refine s_bipush E dX8_law_19 rfl ?_
      refine hret _ _ ?_ (fun q => by cases q) _ _ dX8_law_21
      exact ⟨by (repeat' split) <;> first | rfl | omega, by (repeat' split) <;> first | rfl | omega⟩

set_option maxRecDepth 100000 in
set_option maxHeartbeats 4000000 in
theorem c_X7_say (M : Mm) (s : Int) (hs : inI s) (hn : 0 ≤ M 20 1 ∧ M 20 1 ≤ 40) : CtI yX7_say cX7_say 2 .int 2 SH [rv 0, iv s] M (fun r M' => r = (if 33 ≤ s ∧ s ≤ 126 then (if M 20 1 < 40 then M 20 1 + 1 else -4) else -2) ∧ M' = (if 33 ≤ s ∧ s ≤ 126 then (if M 20 1 < 40 then upm (upm M 21 (M 20 1) s) 20 1 (M 20 1 + 1) else M) else M)) := by
  refine CtI.of rfl (Nat.le_of_ble_eq_true rfl) (Or.inl rfl) (fun v as E hret => ?_)
  show Ws v as SH 0 0 0 [some (rv 0), some (iv s)] [] M
  refine s_iload_n E dX7_say_0 rfl ?_
  refine s_bipush E dX7_say_1 rfl ?_
  refine s_icmp_lt E 12 dX7_say_3 (by decide) (by omega) (by omega) (fun h3 => ?_) (fun h3 => ?_)
  · refine s_bipush E dX7_say_12 rfl ?_
    refine hret _ _ ?_ (fun q => by cases q) _ _ dX7_say_14
    exact ⟨by (repeat' split) <;> first | rfl | omega, by (repeat' split) <;> first | rfl | omega⟩
  · refine s_iload_n E dX7_say_6 rfl ?_
    refine s_bipush E dX7_say_7 rfl ?_
    refine s_icmp_le E 15 dX7_say_9 (by decide) (by omega) (by omega) (fun h9 => ?_) (fun h9 => ?_)
    · refine s_aload_n E dX7_say_15 rfl ?_
      refine s_getR (kf := 3) E dX7_say_16 rfl inb_X7 (Nat.le_of_ble_eq_true rfl) fl_X7_27 (by decide) sh0 rfl ?_
      refine s_iload_n E dX7_say_19 rfl ?_
      refine s_callVi E (c_X5_add M s hn) dX7_say_20 mf_X5_add ml_X7_78 rfl (Nat.le_of_ble_eq_true rfl) (Nat.le_of_ble_eq_true rfl) (by decide) sh20 rfl rfl (fun r20 M20 h20 => ?_)
      obtain ⟨e20, f20⟩ := h20; subst r20; subst M20
      refine s_ifeqB E 36 dX7_say_23 (by decide) (fun h23 => ?_) (fun h23 => ?_)
      · rw [if_neg h23]
        refine s_bipush E dX7_say_36 rfl ?_
        refine hret _ _ ?_ (fun q => by cases q) _ _ dX7_say_38
        exact ⟨by (repeat' split) <;> first | rfl | omega, by (repeat' split) <;> first | rfl | omega⟩
      · rw [if_pos h23]
        refine s_aload_n E dX7_say_26 rfl ?_
        refine s_getR (kf := 3) E dX7_say_27 rfl inb_X7 (Nat.le_of_ble_eq_true rfl) fl_X7_27 (by decide) sh0 rfl ?_
        refine s_getI (kf := 1) E 1 rfl dX7_say_30 rfl inb_X5 (Nat.le_of_ble_eq_true rfl) fl_X7_81 (by decide) sh20 rfl ?_
        refine s_goto E 38 dX7_say_33 (by decide) ?_
        refine hret _ _ ?_ (fun q => by cases q) _ _ dX7_say_38
        refine ⟨?_, ?_⟩
        · rw [if_pos (by omega), if_pos (by omega), upm_eq]
        · rw [if_pos (by omega), if_pos (by omega)]
    · refine s_bipush E dX7_say_12 rfl ?_
      refine hret _ _ ?_ (fun q => by cases q) _ _ dX7_say_14
      exact ⟨by (repeat' split) <;> first | rfl | omega, by (repeat' split) <;> first | rfl | omega⟩

set_option maxRecDepth 100000 in
set_option maxHeartbeats 4000000 in
theorem c_X8_say (M : Mm) (s : Int) (hs : inI s) (hn : 0 ≤ M 79 3 ∧ M 79 3 ≤ 40) : CtI yX8_say cX8_say 2 .int 2 SH [rv 79, iv s] M (fun r M' => r = (if 33 ≤ s ∧ s ≤ 126 then (if M 79 3 < 40 then M 79 3 + 1 else -4) else -2) ∧ M' = (if 33 ≤ s ∧ s ≤ 126 then (if M 79 3 < 40 then upm (upm M 81 (M 79 3) s) 79 3 (M 79 3 + 1) else M) else M)) := by
  refine CtI.of rfl (Nat.le_of_ble_eq_true rfl) (Or.inl rfl) (fun v as E hret => ?_)
  show Ws v as SH 0 0 0 [some (rv 79), some (iv s)] [] M
  refine s_iload_n E dX8_say_0 rfl ?_
  refine s_bipush E dX8_say_1 rfl ?_
  refine s_bipush E dX8_say_3 rfl ?_
  refine s_callSi E (c_X8_in _ _ _ _ (by omega) (by omega) (by omega)) dX8_say_5 mf_X8_in ml_X8_63 rfl (Nat.le_of_ble_eq_true rfl) (Nat.le_of_ble_eq_true rfl) rfl (fun r5 M5 h5 => ?_)
  obtain ⟨e5, f5⟩ := h5; subst r5; subst M5
  refine s_ifneB E 14 dX8_say_8 (by decide) (fun h8 => ?_) (fun h8 => ?_)
  · refine s_aload_n E dX8_say_14 rfl ?_
    refine s_getI (kf := 3) E 3 rfl dX8_say_15 rfl inb_X8 (Nat.le_of_ble_eq_true rfl) fl_X8_75 (by decide) sh79 rfl ?_
    refine s_bipush E dX8_say_18 rfl ?_
    refine s_icmp_ne E 26 dX8_say_20 (by decide) (by omega) (by omega) (fun h20 => ?_) (fun h20 => ?_)
    · refine s_aload_n E dX8_say_26 rfl ?_
      refine s_getR (kf := 4) E dX8_say_27 rfl inb_X8 (Nat.le_of_ble_eq_true rfl) fl_X8_20 (by decide) sh79 rfl ?_
      refine s_aload_n E dX8_say_30 rfl ?_
      refine s_getI (kf := 3) E 3 rfl dX8_say_31 rfl inb_X8 (Nat.le_of_ble_eq_true rfl) fl_X8_75 (by decide) sh79 rfl ?_
      refine s_iload_n E dX8_say_34 rfl ?_
      refine s_iast E dX8_say_35 (by decide) sh81 (Nat.le_of_ble_eq_true rfl) (by omega) ?_
      refine s_aload_n E dX8_say_36 rfl ?_
      refine s_dup E dX8_say_37 ?_
      refine s_getI (kf := 3) E 3 rfl dX8_say_38 rfl inb_X8 (Nat.le_of_ble_eq_true rfl) fl_X8_75 (by decide) sh79 rfl ?_
      refine s_iconst E dX8_say_41 ?_
      refine s_iadd E dX8_say_42 ?_
      refine s_putI (kf := 3) E 3 rfl dX8_say_43 rfl inb_X8 tyX8_ok nmX8 (Nat.le_of_ble_eq_true rfl) ⟨rfl, rfl⟩ fl_X8_75 (by decide) sh79 rfl ?_
      refine s_aload_n E dX8_say_46 rfl ?_
      refine s_getI (kf := 3) E 3 rfl dX8_say_47 rfl inb_X8 (Nat.le_of_ble_eq_true rfl) fl_X8_75 (by decide) sh79 rfl ?_
      refine hret _ _ ?_ (fun q => by cases q) _ _ dX8_say_50
      refine ⟨?_, ?_⟩
      · rw [if_pos (by omega), if_pos (by omega)]; simp [upm]
      · rw [if_pos (by omega), if_pos (by omega)]; simp [upm]
    · refine s_bipush E dX8_say_23 rfl ?_
      refine hret _ _ ?_ (fun q => by cases q) _ _ dX8_say_25
      exact ⟨by (repeat' split) <;> first | rfl | omega, by (repeat' split) <;> first | rfl | omega⟩
  · refine s_bipush E dX8_say_11 rfl ?_
    refine hret _ _ ?_ (fun q => by cases q) _ _ dX8_say_13
    exact ⟨by (repeat' split) <;> first | rfl | omega, by (repeat' split) <;> first | rfl | omega⟩

set_option maxRecDepth 100000 in
set_option maxHeartbeats 4000000 in
theorem c_X7_wipe (M : Mm) : CtI yX7_wipe cX7_wipe 2 .int 1 SH [rv 0] M (fun r M' => r = M 20 1 ∧ M' = upm M 20 1 0) := by
  refine CtI.of rfl (Nat.le_of_ble_eq_true rfl) (Or.inl rfl) (fun v as E hret => ?_)
  show Ws v as SH 0 0 0 [some (rv 0), none] [] M
  refine s_aload_n E dX7_wipe_0 rfl ?_
  refine s_getR (kf := 3) E dX7_wipe_1 rfl inb_X7 (Nat.le_of_ble_eq_true rfl) fl_X7_27 (by decide) sh0 rfl ?_
  refine s_getI (kf := 1) E 1 rfl dX7_wipe_4 rfl inb_X5 (Nat.le_of_ble_eq_true rfl) fl_X7_81 (by decide) sh20 rfl ?_
  refine s_istore_n (ls' := [_, _]) E dX7_wipe_7 (Nat.le_of_ble_eq_true rfl) rfl ?_
  refine s_aload_n E dX7_wipe_8 rfl ?_
  refine s_getR (kf := 3) E dX7_wipe_9 rfl inb_X7 (Nat.le_of_ble_eq_true rfl) fl_X7_27 (by decide) sh0 rfl ?_
  refine s_iconst E dX7_wipe_12 ?_
  refine s_putI (kf := 1) E 1 rfl dX7_wipe_13 rfl inb_X5 tyX5_ok nmX5 (Nat.le_of_ble_eq_true rfl) ⟨rfl, rfl⟩ fl_X7_81 (by decide) sh20 rfl ?_
  refine s_iload_n E dX7_wipe_16 rfl ?_
  refine hret _ _ ?_ (fun q => by cases q) _ _ dX7_wipe_17
  exact ⟨rfl, rfl⟩

set_option maxRecDepth 100000 in
set_option maxHeartbeats 4000000 in
theorem c_X8_wipe (M : Mm) : CtI yX8_wipe cX8_wipe 2 .int 1 SH [rv 79] M (fun r M' => r = M 79 3 ∧ M' = upm M 79 3 0) := by
  refine CtI.of rfl (Nat.le_of_ble_eq_true rfl) (Or.inl rfl) (fun v as E hret => ?_)
  show Ws v as SH 0 0 0 [some (rv 79), none] [] M
  refine s_aload_n E dX8_wipe_0 rfl ?_
  refine s_getI (kf := 3) E 3 rfl dX8_wipe_1 rfl inb_X8 (Nat.le_of_ble_eq_true rfl) fl_X8_75 (by decide) sh79 rfl ?_
  refine s_istore_n (ls' := [_, _]) E dX8_wipe_4 (Nat.le_of_ble_eq_true rfl) rfl ?_
  refine s_aload_n E dX8_wipe_5 rfl ?_
  refine s_iconst E dX8_wipe_6 ?_
  refine s_putI (kf := 3) E 3 rfl dX8_wipe_7 rfl inb_X8 tyX8_ok nmX8 (Nat.le_of_ble_eq_true rfl) ⟨rfl, rfl⟩ fl_X8_75 (by decide) sh79 rfl ?_
  refine s_iload_n E dX8_wipe_10 rfl ?_
  refine hret _ _ ?_ (fun q => by cases q) _ _ dX8_wipe_11
  exact ⟨rfl, rfl⟩

set_option maxRecDepth 100000 in
set_option maxHeartbeats 4000000 in
theorem c_X7_fault (M : Mm) (w : Int) (hw : inI w) (hp : PadOK (M 21) (M 20 1)) : CtI yX7_fault cX7_fault 2 .int 6 SH [rv 0, iv w] M (fun r M' => r = (if w = 0 then sFault (M 21) (M 20 1) else if w = 1 then bFault (M 21) (M 20 1) else -2) ∧ M' = M) := by
  refine CtI.of rfl (Nat.le_of_ble_eq_true rfl) (Or.inl rfl) (fun v as E hret => ?_)
  show Ws v as SH 0 0 0 [some (rv 0), some (iv w)] [] M
  refine s_iload_n E dX7_fault_0 rfl ?_
  refine s_if_lt E 9 dX7_fault_1 (by decide) (by omega) (fun h1 => ?_) (fun h1 => ?_)
  · refine s_bipush E dX7_fault_9 rfl ?_
    refine hret _ _ ?_ (fun q => by cases q) _ _ dX7_fault_11
    exact ⟨by (repeat' split) <;> first | rfl | omega, rfl⟩
  · refine s_iload_n E dX7_fault_4 rfl ?_
    refine s_iconst E dX7_fault_5 ?_
    refine s_icmp_le E 12 dX7_fault_6 (by decide) (by omega) (by omega) (fun h6 => ?_) (fun h6 => ?_)
    · refine s_iload_n E dX7_fault_12 rfl ?_
      refine s_if_ne E 26 dX7_fault_13 (by decide) (by omega) (fun h13 => ?_) (fun h13 => ?_)
      · refine s_aload_n E dX7_fault_26 rfl ?_
        refine s_getR (kf := 3) E dX7_fault_27 rfl inb_X7 (Nat.le_of_ble_eq_true rfl) fl_X7_27 (by decide) sh0 rfl ?_
        refine s_callVi E (c_X5_bookFault _ hp) dX7_fault_30 mf_X5_bookFault ml_X7_88 rfl (Nat.le_of_ble_eq_true rfl) (Nat.le_of_ble_eq_true rfl) (by decide) sh20 rfl rfl (fun r30 M30 h30 => ?_)
        obtain ⟨e30, f30⟩ := h30; subst r30; subst M30
        refine hret _ _ ?_ (fun q => by cases q) _ _ dX7_fault_33
        exact ⟨by (repeat' split) <;> first | rfl | omega, rfl⟩
      · refine s_aload_n E dX7_fault_16 rfl ?_
        refine s_getR (kf := 3) E dX7_fault_17 rfl inb_X7 (Nat.le_of_ble_eq_true rfl) fl_X7_27 (by decide) sh0 rfl ?_
        refine s_callVi E (c_X5_sittingFault _ hp) dX7_fault_20 mf_X5_sittingFault ml_X7_84 rfl (Nat.le_of_ble_eq_true rfl) (Nat.le_of_ble_eq_true rfl) (by decide) sh20 rfl rfl (fun r20 M20 h20 => ?_)
        obtain ⟨e20, f20⟩ := h20; subst r20; subst M20
        refine s_goto E 33 dX7_fault_23 (by decide) ?_
        refine hret _ _ ?_ (fun q => by cases q) _ _ dX7_fault_33
        exact ⟨by (repeat' split) <;> first | rfl | omega, rfl⟩
    · refine s_bipush E dX7_fault_9 rfl ?_
      refine hret _ _ ?_ (fun q => by cases q) _ _ dX7_fault_11
      exact ⟨by (repeat' split) <;> first | rfl | omega, rfl⟩

set_option maxRecDepth 100000 in
set_option maxHeartbeats 4000000 in
theorem c_X8_fault (M : Mm) (w : Int) (hw : inI w) (hp : PadOK (M 81) (M 79 3)) : CtI yX8_fault cX8_fault 2 .int 6 SH [rv 79, iv w] M (fun r M' => r = (if w = 0 then sFault (M 81) (M 79 3) else if w = 1 then bFault (M 81) (M 79 3) else -2) ∧ M' = M) := by
  refine CtI.of rfl (Nat.le_of_ble_eq_true rfl) (Or.inl rfl) (fun v as E hret => ?_)
  show Ws v as SH 0 0 0 [some (rv 79), some (iv w)] [] M
  refine s_iload_n E dX8_fault_0 rfl ?_
  refine s_if_ne E 11 dX8_fault_1 (by decide) (by omega) (fun h1 => ?_) (fun h1 => ?_)
  · refine s_iload_n E dX8_fault_11 rfl ?_
    refine s_iconst E dX8_fault_12 ?_
    refine s_icmp_ne E 23 dX8_fault_13 (by decide) (by omega) (by omega) (fun h13 => ?_) (fun h13 => ?_)
    · refine s_bipush E dX8_fault_23 rfl ?_
      refine hret _ _ ?_ (fun q => by cases q) _ _ dX8_fault_25
      exact ⟨by (repeat' split) <;> first | rfl | omega, rfl⟩
    · refine s_aload_n E dX8_fault_16 rfl ?_
      refine s_callVi E (c_X8_bookFault _ hp) dX8_fault_17 mf_X8_bookFault ml_X8_88 rfl (Nat.le_of_ble_eq_true rfl) (Nat.le_of_ble_eq_true rfl) (by decide) sh79 rfl rfl (fun r17 M17 h17 => ?_)
      obtain ⟨e17, f17⟩ := h17; subst r17; subst M17
      refine s_goto E 25 dX8_fault_20 (by decide) ?_
      refine hret _ _ ?_ (fun q => by cases q) _ _ dX8_fault_25
      exact ⟨by (repeat' split) <;> first | rfl | omega, rfl⟩
  · refine s_aload_n E dX8_fault_4 rfl ?_
    refine s_callVi E (c_X8_sittingFault _ hp) dX8_fault_5 mf_X8_sittingFault ml_X8_84 rfl (Nat.le_of_ble_eq_true rfl) (Nat.le_of_ble_eq_true rfl) (by decide) sh79 rfl rfl (fun r5 M5 h5 => ?_)
    obtain ⟨e5, f5⟩ := h5; subst r5; subst M5
    refine s_goto E 25 dX8_fault_8 (by decide) ?_
    refine hret _ _ ?_ (fun q => by cases q) _ _ dX8_fault_25
    exact ⟨by (repeat' split) <;> first | rfl | omega, rfl⟩

set_option maxRecDepth 100000 in
set_option maxHeartbeats 4000000 in
theorem c_X4_add (M : Mm) (w z b : Int) (hc : (0 ≤ M 14 3 ∧ M 14 3 ≤ 8)) : CtI yX4_add cX4_add 4 .boolean 1 SH [rv 14, iv w, iv z, iv b] M (fun r M' => r = b2 (M 14 3 < 8) ∧ M' = if M 14 3 < 8 then upm (upm (upm (upm M 15 (M 14 3) w) 16 (M 14 3) z) 17 (M 14 3) b) 14 3 (M 14 3 + 1) else M) := by
  refine CtI.of rfl (Nat.le_of_ble_eq_true rfl) (Or.inr rfl) (fun v as E hret => ?_)
  show Ws v as SH 0 0 0 [some (rv 14), some (iv w), some (iv z), some (iv b)] [] M
  refine s_aload_n E dX4_add_0 rfl ?_
  refine s_getI (kf := 3) E 3 rfl dX4_add_1 rfl inb_X4 (Nat.le_of_ble_eq_true rfl) fl_X4_21 (by decide) sh14 rfl ?_
  refine s_if_lt E 16 dX4_add_4 (by decide) (by omega) (fun h4 => ?_) (fun h4 => ?_)
  · refine s_iconst E dX4_add_16 ?_
    refine hret _ _ ?_ (fun _ => Or.inl rfl) _ _ dX4_add_17
    exact ⟨(b2_neg (by omega)).symm, (if_neg (by omega)).symm⟩
  · refine s_aload_n E dX4_add_7 rfl ?_
    refine s_getI (kf := 3) E 3 rfl dX4_add_8 rfl inb_X4 (Nat.le_of_ble_eq_true rfl) fl_X4_21 (by decide) sh14 rfl ?_
    refine s_bipush E dX4_add_11 rfl ?_
    refine s_icmp_lt E 18 dX4_add_13 (by decide) (by omega) (by omega) (fun h13 => ?_) (fun h13 => ?_)
    · refine s_aload_n E dX4_add_18 rfl ?_
      refine s_getR (kf := 0) E dX4_add_19 rfl inb_X4 (Nat.le_of_ble_eq_true rfl) fl_X4_9 (by decide) sh14 rfl ?_
      refine s_aload_n E dX4_add_22 rfl ?_
      refine s_getI (kf := 3) E 3 rfl dX4_add_23 rfl inb_X4 (Nat.le_of_ble_eq_true rfl) fl_X4_21 (by decide) sh14 rfl ?_
      refine s_iload_n E dX4_add_26 rfl ?_
      refine s_iast E dX4_add_27 (by decide) sh15 (Nat.le_of_ble_eq_true rfl) (by omega) ?_
      refine s_aload_n E dX4_add_28 rfl ?_
      refine s_getR (kf := 1) E dX4_add_29 rfl inb_X4 (Nat.le_of_ble_eq_true rfl) fl_X4_15 (by decide) sh14 rfl ?_
      refine s_aload_n E dX4_add_32 rfl ?_
      refine s_getI (kf := 3) E 3 rfl dX4_add_33 rfl inb_X4 (Nat.le_of_ble_eq_true rfl) fl_X4_21 (by decide) sh14 rfl ?_
      simp only [upm_ne (Or.inl (show (14 : Int) ≠ 15 by decide))]
      refine s_iload_n E dX4_add_36 rfl ?_
      refine s_iast E dX4_add_37 (by decide) sh16 (Nat.le_of_ble_eq_true rfl) (by omega) ?_
      refine s_aload_n E dX4_add_38 rfl ?_
      refine s_getR (kf := 2) E dX4_add_39 rfl inb_X4 (Nat.le_of_ble_eq_true rfl) fl_X4_18 (by decide) sh14 rfl ?_
      refine s_aload_n E dX4_add_42 rfl ?_
      refine s_getI (kf := 3) E 3 rfl dX4_add_43 rfl inb_X4 (Nat.le_of_ble_eq_true rfl) fl_X4_21 (by decide) sh14 rfl ?_
      simp only [upm_ne (Or.inl (show (14 : Int) ≠ 15 by decide)), upm_ne (Or.inl (show (14 : Int) ≠ 16 by decide))]
      refine s_iload_n E dX4_add_46 rfl ?_
      refine s_iast E dX4_add_47 (by decide) sh17 (Nat.le_of_ble_eq_true rfl) (by omega) ?_
      refine s_aload_n E dX4_add_48 rfl ?_
      refine s_dup E dX4_add_49 ?_
      refine s_getI (kf := 3) E 3 rfl dX4_add_50 rfl inb_X4 (Nat.le_of_ble_eq_true rfl) fl_X4_21 (by decide) sh14 rfl ?_
      simp only [upm_ne (Or.inl (show (14 : Int) ≠ 15 by decide)), upm_ne (Or.inl (show (14 : Int) ≠ 16 by decide)), upm_ne (Or.inl (show (14 : Int) ≠ 17 by decide))]
      refine s_iconst E dX4_add_53 ?_
      refine s_iadd E dX4_add_54 ?_
      refine s_putI (kf := 3) E 3 rfl dX4_add_55 rfl inb_X4 tyX4_ok nmX4 (Nat.le_of_ble_eq_true rfl) ⟨rfl, rfl⟩ fl_X4_21 (by decide) sh14 rfl ?_
      refine s_iconst E dX4_add_58 ?_
      refine hret _ _ ?_ (fun _ => Or.inr rfl) _ _ dX4_add_59
      exact ⟨(b2_pos (by omega)).symm, (if_pos (by omega)).symm⟩
    · refine s_iconst E dX4_add_16 ?_
      refine hret _ _ ?_ (fun _ => Or.inl rfl) _ _ dX4_add_17
      exact ⟨(b2_neg (by omega)).symm, (if_neg (by omega)).symm⟩

set_option maxRecDepth 100000 in
set_option maxHeartbeats 4000000 in
theorem c_X7_matter (M : Mm) (w z b : Int) (hw : inI w) (hz : inI z) (hb : inI b) (hc : (0 ≤ M 14 3 ∧ M 14 3 ≤ 8)) : CtI yX7_matter cX7_matter 5 .int 2 SH [rv 0, iv w, iv z, iv b] M (fun r M' => r = (if 0 ≤ w ∧ w < 6 then (if 1 ≤ z ∧ z ≤ 60 ∧ 0 ≤ b ∧ b < iShl 1 (M 14 3) then (if (M 14 3) < 8 then (M 14 3) else -4) else -2) else -1) ∧ M' = (if 0 ≤ w ∧ w < 6 then (if 1 ≤ z ∧ z ≤ 60 ∧ 0 ≤ b ∧ b < iShl 1 (M 14 3) then (if (M 14 3) < 8 then upm (upm (upm (upm M 15 (M 14 3) w) 16 (M 14 3) z) 17 (M 14 3) b) 14 3 (M 14 3 + 1) else M) else M) else M)) := by
  refine CtI.of rfl (Nat.le_of_ble_eq_true rfl) (Or.inl rfl) (fun v as E hret => ?_)
  show Ws v as SH 0 0 0 [some (rv 0), some (iv w), some (iv z), some (iv b), none] [] M
  have hs := shl_rng hc
  refine s_aload_n E dX7_matter_0 rfl ?_
  refine s_getR (kf := 0) E dX7_matter_1 rfl inb_X7 (Nat.le_of_ble_eq_true rfl) fl_X7_10 (by decide) sh0 rfl ?_
  refine s_getR (kf := 2) E dX7_matter_4 rfl inb_X2 (Nat.le_of_ble_eq_true rfl) fl_X7_114 (by decide) sh1 rfl ?_
  refine s_astore (ls' := [_, _, _, _, _]) E dX7_matter_7 (Nat.le_of_ble_eq_true rfl) rfl ?_
  refine s_iload_n E dX7_matter_9 rfl ?_
  refine s_callSi E (c_X7_isOne _ _ (by omega)) dX7_matter_10 mf_X7_isOne ml_X7_59 rfl (Nat.le_of_ble_eq_true rfl) (Nat.le_of_ble_eq_true rfl) rfl (fun r10 M10 h10 => ?_)
  obtain ⟨e10, f10⟩ := h10; subst r10; subst M10
  refine s_ifneB E 18 dX7_matter_13 (by decide) (fun h13 => ?_) (fun h13 => ?_)
  · refine s_iload_n E dX7_matter_18 rfl ?_
    refine s_iconst E dX7_matter_19 ?_
    refine s_icmp_lt E 44 dX7_matter_20 (by decide) (by omega) (by omega) (fun h20 => ?_) (fun h20 => ?_)
    · refine s_bipush E dX7_matter_44 rfl ?_
      refine hret _ _ ?_ (fun q => by cases q) _ _ dX7_matter_46
      exact ⟨by (repeat' split) <;> first | rfl | omega, by (repeat' split) <;> first | rfl | omega⟩
    · refine s_iload_n E dX7_matter_23 rfl ?_
      refine s_bipush E dX7_matter_24 rfl ?_
      refine s_icmp_gt E 44 dX7_matter_26 (by decide) (by omega) (by omega) (fun h26 => ?_) (fun h26 => ?_)
      · refine s_bipush E dX7_matter_44 rfl ?_
        refine hret _ _ ?_ (fun q => by cases q) _ _ dX7_matter_46
        exact ⟨by (repeat' split) <;> first | rfl | omega, by (repeat' split) <;> first | rfl | omega⟩
      · refine s_iload_n E dX7_matter_29 rfl ?_
        refine s_if_lt E 44 dX7_matter_30 (by decide) (by omega) (fun h30 => ?_) (fun h30 => ?_)
        · refine s_bipush E dX7_matter_44 rfl ?_
          refine hret _ _ ?_ (fun q => by cases q) _ _ dX7_matter_46
          exact ⟨by (repeat' split) <;> first | rfl | omega, by (repeat' split) <;> first | rfl | omega⟩
        · refine s_iload_n E dX7_matter_33 rfl ?_
          refine s_iconst E dX7_matter_34 ?_
          refine s_aload E dX7_matter_35 rfl ?_
          refine s_getI (kf := 3) E 3 rfl dX7_matter_37 rfl inb_X4 (Nat.le_of_ble_eq_true rfl) fl_X7_118 (by decide) sh14 rfl ?_
          refine s_ishl E dX7_matter_40 ?_
          refine s_icmp_lt E 47 dX7_matter_41 (by decide) (by omega) (by omega) (fun h41 => ?_) (fun h41 => ?_)
          · refine s_aload E dX7_matter_47 rfl ?_
            refine s_iload_n E dX7_matter_49 rfl ?_
            refine s_iload_n E dX7_matter_50 rfl ?_
            refine s_iload_n E dX7_matter_51 rfl ?_
            refine s_callVi E (c_X4_add M w z b hc) dX7_matter_52 mf_X4_add ml_X7_121 rfl (Nat.le_of_ble_eq_true rfl) (Nat.le_of_ble_eq_true rfl) (by decide) sh14 rfl rfl (fun r52 M52 h52 => ?_)
            obtain ⟨e52, f52⟩ := h52; subst r52; subst M52
            refine s_ifeqB E 68 dX7_matter_55 (by decide) (fun h55 => ?_) (fun h55 => ?_)
            · rw [if_neg h55]
              refine s_bipush E dX7_matter_68 rfl ?_
              refine hret _ _ ?_ (fun q => by cases q) _ _ dX7_matter_70
              exact ⟨by (repeat' split) <;> first | rfl | omega, by (repeat' split) <;> first | rfl | omega⟩
            · rw [if_pos h55]
              refine s_aload E dX7_matter_58 rfl ?_
              refine s_getI (kf := 3) E 3 rfl dX7_matter_60 rfl inb_X4 (Nat.le_of_ble_eq_true rfl) fl_X7_118 (by decide) sh14 rfl ?_
              refine s_iconst E dX7_matter_63 ?_
              refine s_isub E dX7_matter_64 ?_
              refine s_goto E 70 dX7_matter_65 (by decide) ?_
              refine hret _ _ ?_ (fun q => by cases q) _ _ dX7_matter_70
              refine ⟨?_, ?_⟩
              · rw [if_pos (by omega), if_pos (by omega), if_pos (by omega), upm_eq]; omega
              · rw [if_pos (by omega), if_pos (by omega), if_pos (by omega)]
          · refine s_bipush E dX7_matter_44 rfl ?_
            refine hret _ _ ?_ (fun q => by cases q) _ _ dX7_matter_46
            exact ⟨by (repeat' split) <;> first | rfl | omega, by (repeat' split) <;> first | rfl | omega⟩
  · refine s_iconst E dX7_matter_16 ?_
    refine hret _ _ ?_ (fun q => by cases q) _ _ dX7_matter_17
    exact ⟨by (repeat' split) <;> first | rfl | omega, by (repeat' split) <;> first | rfl | omega⟩

set_option maxRecDepth 100000 in
set_option maxHeartbeats 4000000 in
theorem c_X8_matter (M : Mm) (w z b : Int) (hw : inI w) (hz : inI z) (hb : inI b) (hc : 0 ≤ M 79 5 ∧ M 79 5 ≤ 8) : CtI yX8_matter cX8_matter 4 .int 3 SH [rv 79, iv w, iv z, iv b] M (fun r M' => r = (if 0 ≤ w ∧ w < 6 then (if 1 ≤ z ∧ z ≤ 60 ∧ 0 ≤ b ∧ b < iShl 1 (M 79 5) then (if (M 79 5) < 8 then (M 79 5) else -4) else -2) else -1) ∧ M' = (if 0 ≤ w ∧ w < 6 then (if 1 ≤ z ∧ z ≤ 60 ∧ 0 ≤ b ∧ b < iShl 1 (M 79 5) then (if (M 79 5) < 8 then upm (upm (upm (upm M 82 (3 * M 79 5) w) 82 (3 * M 79 5 + 1) z) 82 (3 * M 79 5 + 2) b) 79 5 (M 79 5 + 1) else M) else M) else M)) := by
  refine CtI.of rfl (Nat.le_of_ble_eq_true rfl) (Or.inl rfl) (fun v as E hret => ?_)
  show Ws v as SH 0 0 0 [some (rv 79), some (iv w), some (iv z), some (iv b)] [] M
  have hs := shl_rng hc
  refine s_iload_n E dX8_matter_0 rfl ?_
  refine s_callSi E (c_X8_isOne _ _ (by omega)) dX8_matter_1 mf_X8_isOne ml_X8_67 rfl (Nat.le_of_ble_eq_true rfl) (Nat.le_of_ble_eq_true rfl) rfl (fun r1 M1 h1 => ?_)
  obtain ⟨e1, f1⟩ := h1; subst r1; subst M1
  refine s_ifneB E 9 dX8_matter_4 (by decide) (fun h4 => ?_) (fun h4 => ?_)
  · refine s_iload_n E dX8_matter_9 rfl ?_
    refine s_iconst E dX8_matter_10 ?_
    refine s_bipush E dX8_matter_11 rfl ?_
    refine s_callSi E (c_X8_in _ _ _ _ (by omega) (by omega) (by omega)) dX8_matter_13 mf_X8_in ml_X8_63 rfl (Nat.le_of_ble_eq_true rfl) (Nat.le_of_ble_eq_true rfl) rfl (fun r13 M13 h13 => ?_)
    obtain ⟨e13, f13⟩ := h13; subst r13; subst M13
    refine s_ifeqB E 35 dX8_matter_16 (by decide) (fun h16 => ?_) (fun h16 => ?_)
    · refine s_bipush E dX8_matter_35 rfl ?_
      refine hret _ _ ?_ (fun q => by cases q) _ _ dX8_matter_37
      exact ⟨by (repeat' split) <;> first | rfl | omega, by (repeat' split) <;> first | rfl | omega⟩
    · refine s_iload_n E dX8_matter_19 rfl ?_
      refine s_iconst E dX8_matter_20 ?_
      refine s_iconst E dX8_matter_21 ?_
      refine s_aload_n E dX8_matter_22 rfl ?_
      refine s_getI (kf := 5) E 5 rfl dX8_matter_23 rfl inb_X8 (Nat.le_of_ble_eq_true rfl) fl_X8_117 (by decide) sh79 rfl ?_
      refine s_ishl E dX8_matter_26 ?_
      refine s_iconst E dX8_matter_27 ?_
      refine s_isub E dX8_matter_28 ?_
      refine s_callSi E (c_X8_in _ _ _ _ (by omega) (by omega) (by omega)) dX8_matter_29 mf_X8_in ml_X8_63 rfl (Nat.le_of_ble_eq_true rfl) (Nat.le_of_ble_eq_true rfl) rfl (fun r29 M29 h29 => ?_)
      obtain ⟨e29, f29⟩ := h29; subst r29; subst M29
      refine s_ifneB E 38 dX8_matter_32 (by decide) (fun h32 => ?_) (fun h32 => ?_)
      · refine s_aload_n E dX8_matter_38 rfl ?_
        refine s_getI (kf := 5) E 5 rfl dX8_matter_39 rfl inb_X8 (Nat.le_of_ble_eq_true rfl) fl_X8_117 (by decide) sh79 rfl ?_
        refine s_bipush E dX8_matter_42 rfl ?_
        refine s_icmp_ne E 50 dX8_matter_44 (by decide) (by omega) (by omega) (fun h44 => ?_) (fun h44 => ?_)
        · refine s_aload_n E dX8_matter_50 rfl ?_
          refine s_getR (kf := 6) E dX8_matter_51 rfl inb_X8 (Nat.le_of_ble_eq_true rfl) fl_X8_23 (by decide) sh79 rfl ?_
          refine s_iconst E dX8_matter_54 ?_
          refine s_aload_n E dX8_matter_55 rfl ?_
          refine s_getI (kf := 5) E 5 rfl dX8_matter_56 rfl inb_X8 (Nat.le_of_ble_eq_true rfl) fl_X8_117 (by decide) sh79 rfl ?_
          refine s_imul E dX8_matter_59 ?_
          refine s_iload_n E dX8_matter_60 rfl ?_
          refine s_iast E dX8_matter_61 (by decide) sh82 (Nat.le_of_ble_eq_true rfl) (by omega) ?_
          refine s_aload_n E dX8_matter_62 rfl ?_
          refine s_getR (kf := 6) E dX8_matter_63 rfl inb_X8 (Nat.le_of_ble_eq_true rfl) fl_X8_23 (by decide) sh79 rfl ?_
          refine s_iconst E dX8_matter_66 ?_
          refine s_aload_n E dX8_matter_67 rfl ?_
          refine s_getI (kf := 5) E 5 rfl dX8_matter_68 rfl inb_X8 (Nat.le_of_ble_eq_true rfl) fl_X8_117 (by decide) sh79 rfl ?_
          simp only [upm_ne (Or.inl (show (79 : Int) ≠ 82 by decide))]
          refine s_imul E dX8_matter_71 ?_
          refine s_iconst E dX8_matter_72 ?_
          refine s_iadd E dX8_matter_73 ?_
          refine s_iload_n E dX8_matter_74 rfl ?_
          refine s_iast E dX8_matter_75 (by decide) sh82 (Nat.le_of_ble_eq_true rfl) (by omega) ?_
          refine s_aload_n E dX8_matter_76 rfl ?_
          refine s_getR (kf := 6) E dX8_matter_77 rfl inb_X8 (Nat.le_of_ble_eq_true rfl) fl_X8_23 (by decide) sh79 rfl ?_
          refine s_iconst E dX8_matter_80 ?_
          refine s_aload_n E dX8_matter_81 rfl ?_
          refine s_getI (kf := 5) E 5 rfl dX8_matter_82 rfl inb_X8 (Nat.le_of_ble_eq_true rfl) fl_X8_117 (by decide) sh79 rfl ?_
          simp only [upm_ne (Or.inl (show (79 : Int) ≠ 82 by decide))]
          refine s_imul E dX8_matter_85 ?_
          refine s_iconst E dX8_matter_86 ?_
          refine s_iadd E dX8_matter_87 ?_
          refine s_iload_n E dX8_matter_88 rfl ?_
          refine s_iast E dX8_matter_89 (by decide) sh82 (Nat.le_of_ble_eq_true rfl) (by omega) ?_
          refine s_aload_n E dX8_matter_90 rfl ?_
          refine s_dup E dX8_matter_91 ?_
          refine s_getI (kf := 5) E 5 rfl dX8_matter_92 rfl inb_X8 (Nat.le_of_ble_eq_true rfl) fl_X8_117 (by decide) sh79 rfl ?_
          simp only [upm_ne (Or.inl (show (79 : Int) ≠ 82 by decide))]
          refine s_iconst E dX8_matter_95 ?_
          refine s_iadd E dX8_matter_96 ?_
          refine s_putI (kf := 5) E 5 rfl dX8_matter_97 rfl inb_X8 tyX8_ok nmX8 (Nat.le_of_ble_eq_true rfl) ⟨rfl, rfl⟩ fl_X8_117 (by decide) sh79 rfl ?_
          refine s_aload_n E dX8_matter_100 rfl ?_
          refine s_getI (kf := 5) E 5 rfl dX8_matter_101 rfl inb_X8 (Nat.le_of_ble_eq_true rfl) fl_X8_117 (by decide) sh79 rfl ?_
          refine s_iconst E dX8_matter_104 ?_
          refine s_isub E dX8_matter_105 ?_
          refine hret _ _ ?_ (fun q => by cases q) _ _ dX8_matter_106
          refine ⟨?_, ?_⟩
          · rw [if_pos (by omega), if_pos (by omega), if_pos (by omega), upm_eq]; omega
          · rw [if_pos (by omega), if_pos (by omega), if_pos (by omega)]
        · refine s_bipush E dX8_matter_47 rfl ?_
          refine hret _ _ ?_ (fun q => by cases q) _ _ dX8_matter_49
          exact ⟨by (repeat' split) <;> first | rfl | omega, by (repeat' split) <;> first | rfl | omega⟩
      · refine s_bipush E dX8_matter_35 rfl ?_
        refine hret _ _ ?_ (fun q => by cases q) _ _ dX8_matter_37
        exact ⟨by (repeat' split) <;> first | rfl | omega, by (repeat' split) <;> first | rfl | omega⟩
  · refine s_iconst E dX8_matter_7 ?_
    refine hret _ _ ?_ (fun q => by cases q) _ _ dX8_matter_8
    exact ⟨by (repeat' split) <;> first | rfl | omega, by (repeat' split) <;> first | rfl | omega⟩

set_option maxRecDepth 100000 in
set_option maxHeartbeats 4000000 in
theorem c_X7_about (M : Mm) (k w : Int) (hk : inI k) (hw : inI w) (hc : (0 ≤ M 14 3 ∧ M 14 3 ≤ 8)) : CtI yX7_about cX7_about 4 .int 1 SH [rv 0, iv k, iv w] M (fun r M' => r = (if 0 ≤ k ∧ k < M 14 3 then (if w = 0 then M 15 k else if w = 1 then M 16 k else if w = 2 then M 17 k else -2) else -1) ∧ M' = M) := by
  refine CtI.of rfl (Nat.le_of_ble_eq_true rfl) (Or.inl rfl) (fun v as E hret => ?_)
  show Ws v as SH 0 0 0 [some (rv 0), some (iv k), some (iv w), none] [] M
  refine s_aload_n E dX7_about_0 rfl ?_
  refine s_getR (kf := 0) E dX7_about_1 rfl inb_X7 (Nat.le_of_ble_eq_true rfl) fl_X7_10 (by decide) sh0 rfl ?_
  refine s_getR (kf := 2) E dX7_about_4 rfl inb_X2 (Nat.le_of_ble_eq_true rfl) fl_X7_114 (by decide) sh1 rfl ?_
  refine s_astore_n (ls' := [_, _, _, _]) E dX7_about_7 (Nat.le_of_ble_eq_true rfl) rfl ?_
  refine s_iload_n E dX7_about_8 rfl ?_
  refine s_if_lt E 20 dX7_about_9 (by decide) (by omega) (fun h9 => ?_) (fun h9 => ?_)
  · refine s_iconst E dX7_about_20 ?_
    refine hret _ _ ?_ (fun q => by cases q) _ _ dX7_about_21
    exact ⟨by (repeat' split) <;> first | rfl | omega, rfl⟩
  · refine s_iload_n E dX7_about_12 rfl ?_
    refine s_aload_n E dX7_about_13 rfl ?_
    refine s_getI (kf := 3) E 3 rfl dX7_about_14 rfl inb_X4 (Nat.le_of_ble_eq_true rfl) fl_X7_118 (by decide) sh14 rfl ?_
    refine s_icmp_lt E 22 dX7_about_17 (by decide) (by omega) (by omega) (fun h17 => ?_) (fun h17 => ?_)
    · refine s_iload_n E dX7_about_22 rfl ?_
      refine s_tcase E (0) 48 dX7_about_23 (by decide) rfl (by decide) (fun h23_0 => ?_) (fun h23_0 => ?_)
      · refine s_aload_n E dX7_about_48 rfl ?_
        refine s_getR (kf := 0) E dX7_about_49 rfl inb_X4 (Nat.le_of_ble_eq_true rfl) fl_X7_124 (by decide) sh14 rfl ?_
        refine s_iload_n E dX7_about_52 rfl ?_
        refine s_iald E dX7_about_53 (by decide) sh15 (Nat.le_of_ble_eq_true rfl) (by omega) ?_
        refine hret _ _ ?_ (fun q => by cases q) _ _ dX7_about_54
        exact ⟨by (repeat' split) <;> first | rfl | omega, rfl⟩
      refine s_tcase E (1) 55 dX7_about_23 (by decide) rfl (by decide) (fun h23_1 => ?_) (fun h23_1 => ?_)
      · refine s_aload_n E dX7_about_55 rfl ?_
        refine s_getR (kf := 1) E dX7_about_56 rfl inb_X4 (Nat.le_of_ble_eq_true rfl) fl_X7_127 (by decide) sh14 rfl ?_
        refine s_iload_n E dX7_about_59 rfl ?_
        refine s_iald E dX7_about_60 (by decide) sh16 (Nat.le_of_ble_eq_true rfl) (by omega) ?_
        refine hret _ _ ?_ (fun q => by cases q) _ _ dX7_about_61
        exact ⟨by (repeat' split) <;> first | rfl | omega, rfl⟩
      refine s_tcase E (2) 62 dX7_about_23 (by decide) rfl (by decide) (fun h23_2 => ?_) (fun h23_2 => ?_)
      · refine s_aload_n E dX7_about_62 rfl ?_
        refine s_getR (kf := 2) E dX7_about_63 rfl inb_X4 (Nat.le_of_ble_eq_true rfl) fl_X7_129 (by decide) sh14 rfl ?_
        refine s_iload_n E dX7_about_66 rfl ?_
        refine s_iald E dX7_about_67 (by decide) sh17 (Nat.le_of_ble_eq_true rfl) (by omega) ?_
        refine hret _ _ ?_ (fun q => by cases q) _ _ dX7_about_68
        exact ⟨by (repeat' split) <;> first | rfl | omega, rfl⟩
      refine s_tout E 69 dX7_about_23 (by omega) (by omega) (by decide) ?_
      refine s_bipush E dX7_about_69 rfl ?_
      refine hret _ _ ?_ (fun q => by cases q) _ _ dX7_about_71
      exact ⟨by (repeat' split) <;> first | rfl | omega, rfl⟩
    · refine s_iconst E dX7_about_20 ?_
      refine hret _ _ ?_ (fun q => by cases q) _ _ dX7_about_21
      exact ⟨by (repeat' split) <;> first | rfl | omega, rfl⟩

set_option maxRecDepth 100000 in
set_option maxHeartbeats 4000000 in
theorem c_X8_about (M : Mm) (k w : Int) (hk : inI k) (hw : inI w) (hc : 0 ≤ M 79 5 ∧ M 79 5 ≤ 8) : CtI yX8_about cX8_about 3 .int 2 SH [rv 79, iv k, iv w] M (fun r M' => r = (if 0 ≤ k ∧ k < M 79 5 then (if w = 0 then M 82 (3 * k) else if w = 1 then M 82 (3 * k + 1) else if w = 2 then M 82 (3 * k + 2) else -2) else -1) ∧ M' = M) := by
  refine CtI.of rfl (Nat.le_of_ble_eq_true rfl) (Or.inl rfl) (fun v as E hret => ?_)
  show Ws v as SH 0 0 0 [some (rv 79), some (iv k), some (iv w)] [] M
  refine s_iload_n E dX8_about_0 rfl ?_
  refine s_iconst E dX8_about_1 ?_
  refine s_aload_n E dX8_about_2 rfl ?_
  refine s_getI (kf := 5) E 5 rfl dX8_about_3 rfl inb_X8 (Nat.le_of_ble_eq_true rfl) fl_X8_117 (by decide) sh79 rfl ?_
  refine s_iconst E dX8_about_6 ?_
  refine s_isub E dX8_about_7 ?_
  refine s_callSi E (c_X8_in _ _ _ _ (by omega) (by omega) (by omega)) dX8_about_8 mf_X8_in ml_X8_63 rfl (Nat.le_of_ble_eq_true rfl) (Nat.le_of_ble_eq_true rfl) rfl (fun r8 M8 h8 => ?_)
  obtain ⟨e8, f8⟩ := h8; subst r8; subst M8
  refine s_ifneB E 16 dX8_about_11 (by decide) (fun h11 => ?_) (fun h11 => ?_)
  · refine s_iload_n E dX8_about_16 rfl ?_
    refine s_iconst E dX8_about_17 ?_
    refine s_iconst E dX8_about_18 ?_
    refine s_callSi E (c_X8_in _ _ _ _ (by omega) (by omega) (by omega)) dX8_about_19 mf_X8_in ml_X8_63 rfl (Nat.le_of_ble_eq_true rfl) (Nat.le_of_ble_eq_true rfl) rfl (fun r19 M19 h19 => ?_)
    obtain ⟨e19, f19⟩ := h19; subst r19; subst M19
    refine s_ifeqB E 38 dX8_about_22 (by decide) (fun h22 => ?_) (fun h22 => ?_)
    · refine s_bipush E dX8_about_38 rfl ?_
      refine hret _ _ ?_ (fun q => by cases q) _ _ dX8_about_40
      exact ⟨by (repeat' split) <;> first | rfl | omega, rfl⟩
    · refine s_aload_n E dX8_about_25 rfl ?_
      refine s_getR (kf := 6) E dX8_about_26 rfl inb_X8 (Nat.le_of_ble_eq_true rfl) fl_X8_23 (by decide) sh79 rfl ?_
      refine s_iconst E dX8_about_29 ?_
      refine s_iload_n E dX8_about_30 rfl ?_
      refine s_imul E dX8_about_31 ?_
      refine s_iload_n E dX8_about_32 rfl ?_
      refine s_iadd E dX8_about_33 ?_
      refine s_iald E dX8_about_34 (by decide) sh82 (Nat.le_of_ble_eq_true rfl) (by omega) ?_
      refine s_goto E 40 dX8_about_35 (by decide) ?_
      refine hret _ _ ?_ (fun q => by cases q) _ _ dX8_about_40
      have e : w = 0 ∨ w = 1 ∨ w = 2 := by omega
      rcases e with rfl | rfl | rfl
      · exact ⟨by rw [if_pos (by omega)]; simp, rfl⟩
      · exact ⟨by rw [if_pos (by omega)]; simp, rfl⟩
      · exact ⟨by rw [if_pos (by omega)]; simp, rfl⟩
  · refine s_iconst E dX8_about_14 ?_
    refine hret _ _ ?_ (fun q => by cases q) _ _ dX8_about_15
    exact ⟨by (repeat' split) <;> first | rfl | omega, rfl⟩

set_option maxRecDepth 100000 in
set_option maxHeartbeats 4000000 in
theorem c_X7_clear (M : Mm) : CtI yX7_clear cX7_clear 2 .int 1 SH [rv 0] M (fun r M' => r = M 14 3 ∧ M' = upm M 14 3 0) := by
  refine CtI.of rfl (Nat.le_of_ble_eq_true rfl) (Or.inl rfl) (fun v as E hret => ?_)
  show Ws v as SH 0 0 0 [some (rv 0), none] [] M
  refine s_aload_n E dX7_clear_0 rfl ?_
  refine s_getR (kf := 0) E dX7_clear_1 rfl inb_X7 (Nat.le_of_ble_eq_true rfl) fl_X7_10 (by decide) sh0 rfl ?_
  refine s_getR (kf := 2) E dX7_clear_4 rfl inb_X2 (Nat.le_of_ble_eq_true rfl) fl_X7_114 (by decide) sh1 rfl ?_
  refine s_getI (kf := 3) E 3 rfl dX7_clear_7 rfl inb_X4 (Nat.le_of_ble_eq_true rfl) fl_X7_118 (by decide) sh14 rfl ?_
  refine s_istore_n (ls' := [_, _]) E dX7_clear_10 (Nat.le_of_ble_eq_true rfl) rfl ?_
  refine s_aload_n E dX7_clear_11 rfl ?_
  refine s_getR (kf := 0) E dX7_clear_12 rfl inb_X7 (Nat.le_of_ble_eq_true rfl) fl_X7_10 (by decide) sh0 rfl ?_
  refine s_getR (kf := 2) E dX7_clear_15 rfl inb_X2 (Nat.le_of_ble_eq_true rfl) fl_X7_114 (by decide) sh1 rfl ?_
  refine s_iconst E dX7_clear_18 ?_
  refine s_putI (kf := 3) E 3 rfl dX7_clear_19 rfl inb_X4 tyX4_ok nmX4 (Nat.le_of_ble_eq_true rfl) ⟨rfl, rfl⟩ fl_X7_118 (by decide) sh14 rfl ?_
  refine s_iload_n E dX7_clear_22 rfl ?_
  refine hret _ _ ?_ (fun q => by cases q) _ _ dX7_clear_23
  exact ⟨rfl, rfl⟩

set_option maxRecDepth 100000 in
set_option maxHeartbeats 4000000 in
theorem c_X8_clear (M : Mm) : CtI yX8_clear cX8_clear 2 .int 1 SH [rv 79] M (fun r M' => r = M 79 5 ∧ M' = upm M 79 5 0) := by
  refine CtI.of rfl (Nat.le_of_ble_eq_true rfl) (Or.inl rfl) (fun v as E hret => ?_)
  show Ws v as SH 0 0 0 [some (rv 79), none] [] M
  refine s_aload_n E dX8_clear_0 rfl ?_
  refine s_getI (kf := 5) E 5 rfl dX8_clear_1 rfl inb_X8 (Nat.le_of_ble_eq_true rfl) fl_X8_117 (by decide) sh79 rfl ?_
  refine s_istore_n (ls' := [_, _]) E dX8_clear_4 (Nat.le_of_ble_eq_true rfl) rfl ?_
  refine s_aload_n E dX8_clear_5 rfl ?_
  refine s_iconst E dX8_clear_6 ?_
  refine s_putI (kf := 5) E 5 rfl dX8_clear_7 rfl inb_X8 tyX8_ok nmX8 (Nat.le_of_ble_eq_true rfl) ⟨rfl, rfl⟩ fl_X8_117 (by decide) sh79 rfl ?_
  refine s_iload_n E dX8_clear_10 rfl ?_
  refine hret _ _ ?_ (fun q => by cases q) _ _ dX8_clear_11
  exact ⟨rfl, rfl⟩

set_option maxRecDepth 100000 in
set_option maxHeartbeats 4000000 in
theorem c_X7_lend (M : Mm) (a b z : Int) (ha : inI a) (hb : inI b) (hz : inI z) : CtI yX7_lend cX7_lend 5 .int 2 SH [rv 0, iv a, iv b, iv z] M (fun r M' => r = (if (0 ≤ a ∧ a < 6 ∧ 0 ≤ b ∧ b < 6 ∧ a ≠ b) then (if 0 ≤ z ∧ z ≤ 99 then M (8 + a) b else -2) else -1) ∧ M' = (if (0 ≤ a ∧ a < 6 ∧ 0 ≤ b ∧ b < 6 ∧ a ≠ b) then (if 0 ≤ z ∧ z ≤ 99 then upm M (8 + a) b z else M) else M)) := by
  refine CtI.of rfl (Nat.le_of_ble_eq_true rfl) (Or.inl rfl) (fun v as E hret => ?_)
  show Ws v as SH 0 0 0 [some (rv 0), some (iv a), some (iv b), some (iv z), none] [] M
  refine s_iload_n E dX7_lend_0 rfl ?_
  refine s_callSi E (c_X7_isOne _ _ (by omega)) dX7_lend_1 mf_X7_isOne ml_X7_59 rfl (Nat.le_of_ble_eq_true rfl) (Nat.le_of_ble_eq_true rfl) rfl (fun r1 M1 h1 => ?_)
  obtain ⟨e1, f1⟩ := h1; subst r1; subst M1
  refine s_ifeqB E 19 dX7_lend_4 (by decide) (fun h4 => ?_) (fun h4 => ?_)
  · refine s_iconst E dX7_lend_19 ?_
    refine hret _ _ ?_ (fun q => by cases q) _ _ dX7_lend_20
    exact ⟨by (repeat' split) <;> first | rfl | omega, by (repeat' split) <;> first | rfl | omega⟩
  · refine s_iload_n E dX7_lend_7 rfl ?_
    refine s_callSi E (c_X7_isOne _ _ (by omega)) dX7_lend_8 mf_X7_isOne ml_X7_59 rfl (Nat.le_of_ble_eq_true rfl) (Nat.le_of_ble_eq_true rfl) rfl (fun r8 M8 h8 => ?_)
    obtain ⟨e8, f8⟩ := h8; subst r8; subst M8
    refine s_ifeqB E 19 dX7_lend_11 (by decide) (fun h11 => ?_) (fun h11 => ?_)
    · refine s_iconst E dX7_lend_19 ?_
      refine hret _ _ ?_ (fun q => by cases q) _ _ dX7_lend_20
      exact ⟨by (repeat' split) <;> first | rfl | omega, by (repeat' split) <;> first | rfl | omega⟩
    · refine s_iload_n E dX7_lend_14 rfl ?_
      refine s_iload_n E dX7_lend_15 rfl ?_
      refine s_icmp_ne E 21 dX7_lend_16 (by decide) (by omega) (by omega) (fun h16 => ?_) (fun h16 => ?_)
      · refine s_iload_n E dX7_lend_21 rfl ?_
        refine s_if_lt E 31 dX7_lend_22 (by decide) (by omega) (fun h22 => ?_) (fun h22 => ?_)
        · refine s_bipush E dX7_lend_31 rfl ?_
          refine hret _ _ ?_ (fun q => by cases q) _ _ dX7_lend_33
          exact ⟨by (repeat' split) <;> first | rfl | omega, by (repeat' split) <;> first | rfl | omega⟩
        · refine s_iload_n E dX7_lend_25 rfl ?_
          refine s_bipush E dX7_lend_26 rfl ?_
          refine s_icmp_le E 34 dX7_lend_28 (by decide) (by omega) (by omega) (fun h28 => ?_) (fun h28 => ?_)
          · refine s_aload_n E dX7_lend_34 rfl ?_
            refine s_getR (kf := 0) E dX7_lend_35 rfl inb_X7 (Nat.le_of_ble_eq_true rfl) fl_X7_10 (by decide) sh0 rfl ?_
            refine s_getR (kf := 1) E dX7_lend_38 rfl inb_X2 (Nat.le_of_ble_eq_true rfl) fl_X7_173 (by decide) sh1 rfl ?_
            refine s_iload_n E dX7_lend_41 rfl ?_
            refine s_aaldR (r0 := 8) (n := 6) E dX7_lend_42 (by decide) sh7 (Nat.le_of_ble_eq_true rfl) (by omega) ?_
            refine s_iload_n E dX7_lend_43 rfl ?_
            refine s_iald E dX7_lend_44 (by omega) (shr7 (by omega)) (Nat.le_of_ble_eq_true rfl) (by omega) ?_
            refine s_istore (ls' := [_, _, _, _, _]) E dX7_lend_45 (Nat.le_of_ble_eq_true rfl) rfl ?_
            refine s_aload_n E dX7_lend_47 rfl ?_
            refine s_getR (kf := 0) E dX7_lend_48 rfl inb_X7 (Nat.le_of_ble_eq_true rfl) fl_X7_10 (by decide) sh0 rfl ?_
            refine s_getR (kf := 1) E dX7_lend_51 rfl inb_X2 (Nat.le_of_ble_eq_true rfl) fl_X7_173 (by decide) sh1 rfl ?_
            refine s_iload_n E dX7_lend_54 rfl ?_
            refine s_aaldR (r0 := 8) (n := 6) E dX7_lend_55 (by decide) sh7 (Nat.le_of_ble_eq_true rfl) (by omega) ?_
            refine s_iload_n E dX7_lend_56 rfl ?_
            refine s_iload_n E dX7_lend_57 rfl ?_
            refine s_iast E dX7_lend_58 (by omega) (shr7 (by omega)) (Nat.le_of_ble_eq_true rfl) (by omega) ?_
            refine s_iload E dX7_lend_59 rfl ?_
            refine hret _ _ ?_ (fun q => by cases q) _ _ dX7_lend_61
            exact ⟨by (repeat' split) <;> first | rfl | omega, by (repeat' split) <;> first | rfl | omega⟩
          · refine s_bipush E dX7_lend_31 rfl ?_
            refine hret _ _ ?_ (fun q => by cases q) _ _ dX7_lend_33
            exact ⟨by (repeat' split) <;> first | rfl | omega, by (repeat' split) <;> first | rfl | omega⟩
      · refine s_iconst E dX7_lend_19 ?_
        refine hret _ _ ?_ (fun q => by cases q) _ _ dX7_lend_20
        exact ⟨by (repeat' split) <;> first | rfl | omega, by (repeat' split) <;> first | rfl | omega⟩

set_option maxRecDepth 100000 in
set_option maxHeartbeats 4000000 in
theorem c_X8_lend (M : Mm) (a b z : Int) (ha : inI a) (hb : inI b) (hz : inI z) : CtI yX8_lend cX8_lend 5 .int 3 SH [rv 79, iv a, iv b, iv z] M (fun r M' => r = (if (0 ≤ a ∧ a < 6 ∧ 0 ≤ b ∧ b < 6 ∧ a ≠ b) then (if 0 ≤ z ∧ z ≤ 99 then M 83 (6 * a + b) else -2) else -1) ∧ M' = (if (0 ≤ a ∧ a < 6 ∧ 0 ≤ b ∧ b < 6 ∧ a ≠ b) then (if 0 ≤ z ∧ z ≤ 99 then upm M 83 (6 * a + b) z else M) else M)) := by
  refine CtI.of rfl (Nat.le_of_ble_eq_true rfl) (Or.inl rfl) (fun v as E hret => ?_)
  show Ws v as SH 0 0 0 [some (rv 79), some (iv a), some (iv b), some (iv z), none] [] M
  refine s_iload_n E dX8_lend_0 rfl ?_
  refine s_callSi E (c_X8_isOne _ _ (by omega)) dX8_lend_1 mf_X8_isOne ml_X8_67 rfl (Nat.le_of_ble_eq_true rfl) (Nat.le_of_ble_eq_true rfl) rfl (fun r1 M1 h1 => ?_)
  obtain ⟨e1, f1⟩ := h1; subst r1; subst M1
  refine s_ifeqB E 19 dX8_lend_4 (by decide) (fun h4 => ?_) (fun h4 => ?_)
  · refine s_iconst E dX8_lend_19 ?_
    refine hret _ _ ?_ (fun q => by cases q) _ _ dX8_lend_20
    exact ⟨by (repeat' split) <;> first | rfl | omega, by (repeat' split) <;> first | rfl | omega⟩
  · refine s_iload_n E dX8_lend_7 rfl ?_
    refine s_callSi E (c_X8_isOne _ _ (by omega)) dX8_lend_8 mf_X8_isOne ml_X8_67 rfl (Nat.le_of_ble_eq_true rfl) (Nat.le_of_ble_eq_true rfl) rfl (fun r8 M8 h8 => ?_)
    obtain ⟨e8, f8⟩ := h8; subst r8; subst M8
    refine s_ifeqB E 19 dX8_lend_11 (by decide) (fun h11 => ?_) (fun h11 => ?_)
    · refine s_iconst E dX8_lend_19 ?_
      refine hret _ _ ?_ (fun q => by cases q) _ _ dX8_lend_20
      exact ⟨by (repeat' split) <;> first | rfl | omega, by (repeat' split) <;> first | rfl | omega⟩
    · refine s_iload_n E dX8_lend_14 rfl ?_
      refine s_iload_n E dX8_lend_15 rfl ?_
      refine s_icmp_ne E 21 dX8_lend_16 (by decide) (by omega) (by omega) (fun h16 => ?_) (fun h16 => ?_)
      · refine s_iload_n E dX8_lend_21 rfl ?_
        refine s_iconst E dX8_lend_22 ?_
        refine s_bipush E dX8_lend_23 rfl ?_
        refine s_callSi E (c_X8_in _ _ _ _ (by omega) (by omega) (by omega)) dX8_lend_25 mf_X8_in ml_X8_63 rfl (Nat.le_of_ble_eq_true rfl) (Nat.le_of_ble_eq_true rfl) rfl (fun r25 M25 h25 => ?_)
        obtain ⟨e25, f25⟩ := h25; subst r25; subst M25
        refine s_ifneB E 34 dX8_lend_28 (by decide) (fun h28 => ?_) (fun h28 => ?_)
        · refine s_aload_n E dX8_lend_34 rfl ?_
          refine s_getR (kf := 7) E dX8_lend_35 rfl inb_X8 (Nat.le_of_ble_eq_true rfl) fl_X8_26 (by decide) sh79 rfl ?_
          refine s_bipush E dX8_lend_38 rfl ?_
          refine s_iload_n E dX8_lend_40 rfl ?_
          refine s_imul E dX8_lend_41 ?_
          refine s_iload_n E dX8_lend_42 rfl ?_
          refine s_iadd E dX8_lend_43 ?_
          refine s_iald E dX8_lend_44 (by decide) sh83 (Nat.le_of_ble_eq_true rfl) (by omega) ?_
          refine s_istore (ls' := [_, _, _, _, _]) E dX8_lend_45 (Nat.le_of_ble_eq_true rfl) rfl ?_
          refine s_aload_n E dX8_lend_47 rfl ?_
          refine s_getR (kf := 7) E dX8_lend_48 rfl inb_X8 (Nat.le_of_ble_eq_true rfl) fl_X8_26 (by decide) sh79 rfl ?_
          refine s_bipush E dX8_lend_51 rfl ?_
          refine s_iload_n E dX8_lend_53 rfl ?_
          refine s_imul E dX8_lend_54 ?_
          refine s_iload_n E dX8_lend_55 rfl ?_
          refine s_iadd E dX8_lend_56 ?_
          refine s_iload_n E dX8_lend_57 rfl ?_
          refine s_iast E dX8_lend_58 (by decide) sh83 (Nat.le_of_ble_eq_true rfl) (by omega) ?_
          refine s_iload E dX8_lend_59 rfl ?_
          refine hret _ _ ?_ (fun q => by cases q) _ _ dX8_lend_61
          exact ⟨by (repeat' split) <;> first | rfl | omega, by (repeat' split) <;> first | rfl | omega⟩
        · refine s_bipush E dX8_lend_31 rfl ?_
          refine hret _ _ ?_ (fun q => by cases q) _ _ dX8_lend_33
          exact ⟨by (repeat' split) <;> first | rfl | omega, by (repeat' split) <;> first | rfl | omega⟩
      · refine s_iconst E dX8_lend_19 ?_
        refine hret _ _ ?_ (fun q => by cases q) _ _ dX8_lend_20
        exact ⟨by (repeat' split) <;> first | rfl | omega, by (repeat' split) <;> first | rfl | omega⟩

set_option maxRecDepth 100000 in
set_option maxHeartbeats 4000000 in
theorem c_X7_told (M : Mm) (w : Int) (hw : inI w) : CtI yX7_told cX7_told 2 .int 2 SH [rv 0, iv w] M (fun r M' => r = (if 100 ≤ w ∧ w < 136 then M (8 + (w - 100) / 6) ((w - 100) % 6) else if 10 ≤ w ∧ w < 50 ∧ w % 10 < 6 then M (3 + (w / 10 - 1)) (w % 10) else if w = 0 then M 20 1 else if w = 1 then M 14 3 else if w = 2 then M 1 3 else if w = 3 then M 1 4 else -2) ∧ M' = M) := by
  refine CtI.of rfl (Nat.le_of_ble_eq_true rfl) (Or.inl rfl) (fun v as E hret => ?_)
  show Ws v as SH 0 0 0 [some (rv 0), some (iv w)] [] M
  refine s_iload_n E dX7_told_0 rfl ?_
  refine s_bipush E dX7_told_1 rfl ?_
  refine s_icmp_lt E 37 dX7_told_3 (by decide) (by omega) (by omega) (fun h3 => ?_) (fun h3 => ?_)
  · refine s_iload_n E dX7_told_37 rfl ?_
    refine s_bipush E dX7_told_38 rfl ?_
    refine s_icmp_lt E 79 dX7_told_40 (by decide) (by omega) (by omega) (fun h40 => ?_) (fun h40 => ?_)
    · refine s_iload_n E dX7_told_79 rfl ?_
      refine s_tcase E (0) 112 dX7_told_80 (by decide) rfl (by decide) (fun h80_0 => ?_) (fun h80_0 => ?_)
      · refine s_aload_n E dX7_told_112 rfl ?_
        refine s_getR (kf := 3) E dX7_told_113 rfl inb_X7 (Nat.le_of_ble_eq_true rfl) fl_X7_27 (by decide) sh0 rfl ?_
        refine s_getI (kf := 1) E 1 rfl dX7_told_116 rfl inb_X5 (Nat.le_of_ble_eq_true rfl) fl_X7_81 (by decide) sh20 rfl ?_
        refine hret _ _ ?_ (fun q => by cases q) _ _ dX7_told_119
        exact ⟨by (repeat' split) <;> first | rfl | omega, rfl⟩
      refine s_tcase E (1) 120 dX7_told_80 (by decide) rfl (by decide) (fun h80_1 => ?_) (fun h80_1 => ?_)
      · refine s_aload_n E dX7_told_120 rfl ?_
        refine s_getR (kf := 0) E dX7_told_121 rfl inb_X7 (Nat.le_of_ble_eq_true rfl) fl_X7_10 (by decide) sh0 rfl ?_
        refine s_getR (kf := 2) E dX7_told_124 rfl inb_X2 (Nat.le_of_ble_eq_true rfl) fl_X7_114 (by decide) sh1 rfl ?_
        refine s_getI (kf := 3) E 3 rfl dX7_told_127 rfl inb_X4 (Nat.le_of_ble_eq_true rfl) fl_X7_118 (by decide) sh14 rfl ?_
        refine hret _ _ ?_ (fun q => by cases q) _ _ dX7_told_130
        exact ⟨by (repeat' split) <;> first | rfl | omega, rfl⟩
      refine s_tcase E (2) 131 dX7_told_80 (by decide) rfl (by decide) (fun h80_2 => ?_) (fun h80_2 => ?_)
      · refine s_aload_n E dX7_told_131 rfl ?_
        refine s_getR (kf := 0) E dX7_told_132 rfl inb_X7 (Nat.le_of_ble_eq_true rfl) fl_X7_10 (by decide) sh0 rfl ?_
        refine s_getI (kf := 3) E 3 rfl dX7_told_135 rfl inb_X2 (Nat.le_of_ble_eq_true rfl) fl_X7_71 (by decide) sh1 rfl ?_
        refine hret _ _ ?_ (fun q => by cases q) _ _ dX7_told_138
        exact ⟨by (repeat' split) <;> first | rfl | omega, rfl⟩
      refine s_tcase E (3) 139 dX7_told_80 (by decide) rfl (by decide) (fun h80_3 => ?_) (fun h80_3 => ?_)
      · refine s_aload_n E dX7_told_139 rfl ?_
        refine s_getR (kf := 0) E dX7_told_140 rfl inb_X7 (Nat.le_of_ble_eq_true rfl) fl_X7_10 (by decide) sh0 rfl ?_
        refine s_getI (kf := 4) E 4 rfl dX7_told_143 rfl inb_X2 (Nat.le_of_ble_eq_true rfl) fl_X7_75 (by decide) sh1 rfl ?_
        refine hret _ _ ?_ (fun q => by cases q) _ _ dX7_told_146
        exact ⟨by (repeat' split) <;> first | rfl | omega, rfl⟩
      refine s_tout E 147 dX7_told_80 (by omega) (by omega) (by decide) ?_
      refine s_bipush E dX7_told_147 rfl ?_
      refine hret _ _ ?_ (fun q => by cases q) _ _ dX7_told_149
      exact ⟨by (repeat' split) <;> first | rfl | omega, rfl⟩
    · refine s_iload_n E dX7_told_43 rfl ?_
      refine s_bipush E dX7_told_44 rfl ?_
      refine s_icmp_ge E 79 dX7_told_46 (by decide) (by omega) (by omega) (fun h46 => ?_) (fun h46 => ?_)
      · refine s_iload_n E dX7_told_79 rfl ?_
        refine s_tcase E (0) 112 dX7_told_80 (by decide) rfl (by decide) (fun h80_0 => ?_) (fun h80_0 => ?_)
        · refine s_aload_n E dX7_told_112 rfl ?_
          refine s_getR (kf := 3) E dX7_told_113 rfl inb_X7 (Nat.le_of_ble_eq_true rfl) fl_X7_27 (by decide) sh0 rfl ?_
          refine s_getI (kf := 1) E 1 rfl dX7_told_116 rfl inb_X5 (Nat.le_of_ble_eq_true rfl) fl_X7_81 (by decide) sh20 rfl ?_
          refine hret _ _ ?_ (fun q => by cases q) _ _ dX7_told_119
          exact ⟨by (repeat' split) <;> first | rfl | omega, rfl⟩
        refine s_tcase E (1) 120 dX7_told_80 (by decide) rfl (by decide) (fun h80_1 => ?_) (fun h80_1 => ?_)
        · refine s_aload_n E dX7_told_120 rfl ?_
          refine s_getR (kf := 0) E dX7_told_121 rfl inb_X7 (Nat.le_of_ble_eq_true rfl) fl_X7_10 (by decide) sh0 rfl ?_
          refine s_getR (kf := 2) E dX7_told_124 rfl inb_X2 (Nat.le_of_ble_eq_true rfl) fl_X7_114 (by decide) sh1 rfl ?_
          refine s_getI (kf := 3) E 3 rfl dX7_told_127 rfl inb_X4 (Nat.le_of_ble_eq_true rfl) fl_X7_118 (by decide) sh14 rfl ?_
          refine hret _ _ ?_ (fun q => by cases q) _ _ dX7_told_130
          exact ⟨by (repeat' split) <;> first | rfl | omega, rfl⟩
        refine s_tcase E (2) 131 dX7_told_80 (by decide) rfl (by decide) (fun h80_2 => ?_) (fun h80_2 => ?_)
        · refine s_aload_n E dX7_told_131 rfl ?_
          refine s_getR (kf := 0) E dX7_told_132 rfl inb_X7 (Nat.le_of_ble_eq_true rfl) fl_X7_10 (by decide) sh0 rfl ?_
          refine s_getI (kf := 3) E 3 rfl dX7_told_135 rfl inb_X2 (Nat.le_of_ble_eq_true rfl) fl_X7_71 (by decide) sh1 rfl ?_
          refine hret _ _ ?_ (fun q => by cases q) _ _ dX7_told_138
          exact ⟨by (repeat' split) <;> first | rfl | omega, rfl⟩
        refine s_tcase E (3) 139 dX7_told_80 (by decide) rfl (by decide) (fun h80_3 => ?_) (fun h80_3 => ?_)
        · refine s_aload_n E dX7_told_139 rfl ?_
          refine s_getR (kf := 0) E dX7_told_140 rfl inb_X7 (Nat.le_of_ble_eq_true rfl) fl_X7_10 (by decide) sh0 rfl ?_
          refine s_getI (kf := 4) E 4 rfl dX7_told_143 rfl inb_X2 (Nat.le_of_ble_eq_true rfl) fl_X7_75 (by decide) sh1 rfl ?_
          refine hret _ _ ?_ (fun q => by cases q) _ _ dX7_told_146
          exact ⟨by (repeat' split) <;> first | rfl | omega, rfl⟩
        refine s_tout E 147 dX7_told_80 (by omega) (by omega) (by decide) ?_
        refine s_bipush E dX7_told_147 rfl ?_
        refine hret _ _ ?_ (fun q => by cases q) _ _ dX7_told_149
        exact ⟨by (repeat' split) <;> first | rfl | omega, rfl⟩
      · refine s_iload_n E dX7_told_49 rfl ?_
        refine s_bipush E dX7_told_50 rfl ?_
        refine s_irem E dX7_told_52 (by omega) (by omega) ?_
        refine s_callSi E (c_X7_isOne _ _ (by omega)) dX7_told_53 mf_X7_isOne ml_X7_59 rfl (Nat.le_of_ble_eq_true rfl) (Nat.le_of_ble_eq_true rfl) rfl (fun r53 M53 h53 => ?_)
        obtain ⟨e53, f53⟩ := h53; subst r53; subst M53
        refine s_ifeqB E 79 dX7_told_56 (by decide) (fun h56 => ?_) (fun h56 => ?_)
        · refine s_iload_n E dX7_told_79 rfl ?_
          refine s_tcase E (0) 112 dX7_told_80 (by decide) rfl (by decide) (fun h80_0 => ?_) (fun h80_0 => ?_)
          · refine s_aload_n E dX7_told_112 rfl ?_
            refine s_getR (kf := 3) E dX7_told_113 rfl inb_X7 (Nat.le_of_ble_eq_true rfl) fl_X7_27 (by decide) sh0 rfl ?_
            refine s_getI (kf := 1) E 1 rfl dX7_told_116 rfl inb_X5 (Nat.le_of_ble_eq_true rfl) fl_X7_81 (by decide) sh20 rfl ?_
            refine hret _ _ ?_ (fun q => by cases q) _ _ dX7_told_119
            exact ⟨by (repeat' split) <;> first | rfl | omega, rfl⟩
          refine s_tcase E (1) 120 dX7_told_80 (by decide) rfl (by decide) (fun h80_1 => ?_) (fun h80_1 => ?_)
          · refine s_aload_n E dX7_told_120 rfl ?_
            refine s_getR (kf := 0) E dX7_told_121 rfl inb_X7 (Nat.le_of_ble_eq_true rfl) fl_X7_10 (by decide) sh0 rfl ?_
            refine s_getR (kf := 2) E dX7_told_124 rfl inb_X2 (Nat.le_of_ble_eq_true rfl) fl_X7_114 (by decide) sh1 rfl ?_
            refine s_getI (kf := 3) E 3 rfl dX7_told_127 rfl inb_X4 (Nat.le_of_ble_eq_true rfl) fl_X7_118 (by decide) sh14 rfl ?_
            refine hret _ _ ?_ (fun q => by cases q) _ _ dX7_told_130
            exact ⟨by (repeat' split) <;> first | rfl | omega, rfl⟩
          refine s_tcase E (2) 131 dX7_told_80 (by decide) rfl (by decide) (fun h80_2 => ?_) (fun h80_2 => ?_)
          · refine s_aload_n E dX7_told_131 rfl ?_
            refine s_getR (kf := 0) E dX7_told_132 rfl inb_X7 (Nat.le_of_ble_eq_true rfl) fl_X7_10 (by decide) sh0 rfl ?_
            refine s_getI (kf := 3) E 3 rfl dX7_told_135 rfl inb_X2 (Nat.le_of_ble_eq_true rfl) fl_X7_71 (by decide) sh1 rfl ?_
            refine hret _ _ ?_ (fun q => by cases q) _ _ dX7_told_138
            exact ⟨by (repeat' split) <;> first | rfl | omega, rfl⟩
          refine s_tcase E (3) 139 dX7_told_80 (by decide) rfl (by decide) (fun h80_3 => ?_) (fun h80_3 => ?_)
          · refine s_aload_n E dX7_told_139 rfl ?_
            refine s_getR (kf := 0) E dX7_told_140 rfl inb_X7 (Nat.le_of_ble_eq_true rfl) fl_X7_10 (by decide) sh0 rfl ?_
            refine s_getI (kf := 4) E 4 rfl dX7_told_143 rfl inb_X2 (Nat.le_of_ble_eq_true rfl) fl_X7_75 (by decide) sh1 rfl ?_
            refine hret _ _ ?_ (fun q => by cases q) _ _ dX7_told_146
            exact ⟨by (repeat' split) <;> first | rfl | omega, rfl⟩
          refine s_tout E 147 dX7_told_80 (by omega) (by omega) (by decide) ?_
          refine s_bipush E dX7_told_147 rfl ?_
          refine hret _ _ ?_ (fun q => by cases q) _ _ dX7_told_149
          exact ⟨by (repeat' split) <;> first | rfl | omega, rfl⟩
        · refine s_aload_n E dX7_told_59 rfl ?_
          refine s_getR (kf := 0) E dX7_told_60 rfl inb_X7 (Nat.le_of_ble_eq_true rfl) fl_X7_10 (by decide) sh0 rfl ?_
          refine s_getR (kf := 0) E dX7_told_63 rfl inb_X2 (Nat.le_of_ble_eq_true rfl) fl_X7_67 (by decide) sh1 rfl ?_
          refine s_iload_n E dX7_told_66 rfl ?_
          refine s_bipush E dX7_told_67 rfl ?_
          refine s_idiv E dX7_told_69 (by omega) (by omega) ?_
          refine s_iconst E dX7_told_70 ?_
          refine s_isub E dX7_told_71 ?_
          refine s_aaldR (r0 := 3) (n := 4) E dX7_told_72 (by decide) sh2 (Nat.le_of_ble_eq_true rfl) (by omega) ?_
          refine s_iload_n E dX7_told_73 rfl ?_
          refine s_bipush E dX7_told_74 rfl ?_
          refine s_irem E dX7_told_76 (by omega) (by omega) ?_
          refine s_iald E dX7_told_77 (by omega) (shr2 (by omega)) (Nat.le_of_ble_eq_true rfl) (by omega) ?_
          refine hret _ _ ?_ (fun q => by cases q) _ _ dX7_told_78
          exact ⟨by (repeat' split) <;> first | rfl | omega, rfl⟩
  · refine s_iload_n E dX7_told_6 rfl ?_
    refine s_sipush E dX7_told_7 rfl ?_
    refine s_icmp_ge E 37 dX7_told_10 (by decide) (by omega) (by omega) (fun h10 => ?_) (fun h10 => ?_)
    · refine s_iload_n E dX7_told_37 rfl ?_
      refine s_bipush E dX7_told_38 rfl ?_
      refine s_icmp_lt E 79 dX7_told_40 (by decide) (by omega) (by omega) (fun h40 => ?_) (fun h40 => ?_)
      · refine s_iload_n E dX7_told_79 rfl ?_
        refine s_tcase E (0) 112 dX7_told_80 (by decide) rfl (by decide) (fun h80_0 => ?_) (fun h80_0 => ?_)
        · refine s_aload_n E dX7_told_112 rfl ?_
          refine s_getR (kf := 3) E dX7_told_113 rfl inb_X7 (Nat.le_of_ble_eq_true rfl) fl_X7_27 (by decide) sh0 rfl ?_
          refine s_getI (kf := 1) E 1 rfl dX7_told_116 rfl inb_X5 (Nat.le_of_ble_eq_true rfl) fl_X7_81 (by decide) sh20 rfl ?_
          refine hret _ _ ?_ (fun q => by cases q) _ _ dX7_told_119
          exact ⟨by (repeat' split) <;> first | rfl | omega, rfl⟩
        refine s_tcase E (1) 120 dX7_told_80 (by decide) rfl (by decide) (fun h80_1 => ?_) (fun h80_1 => ?_)
        · refine s_aload_n E dX7_told_120 rfl ?_
          refine s_getR (kf := 0) E dX7_told_121 rfl inb_X7 (Nat.le_of_ble_eq_true rfl) fl_X7_10 (by decide) sh0 rfl ?_
          refine s_getR (kf := 2) E dX7_told_124 rfl inb_X2 (Nat.le_of_ble_eq_true rfl) fl_X7_114 (by decide) sh1 rfl ?_
          refine s_getI (kf := 3) E 3 rfl dX7_told_127 rfl inb_X4 (Nat.le_of_ble_eq_true rfl) fl_X7_118 (by decide) sh14 rfl ?_
          refine hret _ _ ?_ (fun q => by cases q) _ _ dX7_told_130
          exact ⟨by (repeat' split) <;> first | rfl | omega, rfl⟩
        refine s_tcase E (2) 131 dX7_told_80 (by decide) rfl (by decide) (fun h80_2 => ?_) (fun h80_2 => ?_)
        · refine s_aload_n E dX7_told_131 rfl ?_
          refine s_getR (kf := 0) E dX7_told_132 rfl inb_X7 (Nat.le_of_ble_eq_true rfl) fl_X7_10 (by decide) sh0 rfl ?_
          refine s_getI (kf := 3) E 3 rfl dX7_told_135 rfl inb_X2 (Nat.le_of_ble_eq_true rfl) fl_X7_71 (by decide) sh1 rfl ?_
          refine hret _ _ ?_ (fun q => by cases q) _ _ dX7_told_138
          exact ⟨by (repeat' split) <;> first | rfl | omega, rfl⟩
        refine s_tcase E (3) 139 dX7_told_80 (by decide) rfl (by decide) (fun h80_3 => ?_) (fun h80_3 => ?_)
        · refine s_aload_n E dX7_told_139 rfl ?_
          refine s_getR (kf := 0) E dX7_told_140 rfl inb_X7 (Nat.le_of_ble_eq_true rfl) fl_X7_10 (by decide) sh0 rfl ?_
          refine s_getI (kf := 4) E 4 rfl dX7_told_143 rfl inb_X2 (Nat.le_of_ble_eq_true rfl) fl_X7_75 (by decide) sh1 rfl ?_
          refine hret _ _ ?_ (fun q => by cases q) _ _ dX7_told_146
          exact ⟨by (repeat' split) <;> first | rfl | omega, rfl⟩
        refine s_tout E 147 dX7_told_80 (by omega) (by omega) (by decide) ?_
        refine s_bipush E dX7_told_147 rfl ?_
        refine hret _ _ ?_ (fun q => by cases q) _ _ dX7_told_149
        exact ⟨by (repeat' split) <;> first | rfl | omega, rfl⟩
      · refine s_iload_n E dX7_told_43 rfl ?_
        refine s_bipush E dX7_told_44 rfl ?_
        refine s_icmp_ge E 79 dX7_told_46 (by decide) (by omega) (by omega) (fun h46 => ?_) (fun h46 => ?_)
        · refine s_iload_n E dX7_told_79 rfl ?_
          refine s_tcase E (0) 112 dX7_told_80 (by decide) rfl (by decide) (fun h80_0 => ?_) (fun h80_0 => ?_)
          · refine s_aload_n E dX7_told_112 rfl ?_
            refine s_getR (kf := 3) E dX7_told_113 rfl inb_X7 (Nat.le_of_ble_eq_true rfl) fl_X7_27 (by decide) sh0 rfl ?_
            refine s_getI (kf := 1) E 1 rfl dX7_told_116 rfl inb_X5 (Nat.le_of_ble_eq_true rfl) fl_X7_81 (by decide) sh20 rfl ?_
            refine hret _ _ ?_ (fun q => by cases q) _ _ dX7_told_119
            exact ⟨by (repeat' split) <;> first | rfl | omega, rfl⟩
          refine s_tcase E (1) 120 dX7_told_80 (by decide) rfl (by decide) (fun h80_1 => ?_) (fun h80_1 => ?_)
          · refine s_aload_n E dX7_told_120 rfl ?_
            refine s_getR (kf := 0) E dX7_told_121 rfl inb_X7 (Nat.le_of_ble_eq_true rfl) fl_X7_10 (by decide) sh0 rfl ?_
            refine s_getR (kf := 2) E dX7_told_124 rfl inb_X2 (Nat.le_of_ble_eq_true rfl) fl_X7_114 (by decide) sh1 rfl ?_
            refine s_getI (kf := 3) E 3 rfl dX7_told_127 rfl inb_X4 (Nat.le_of_ble_eq_true rfl) fl_X7_118 (by decide) sh14 rfl ?_
            refine hret _ _ ?_ (fun q => by cases q) _ _ dX7_told_130
            exact ⟨by (repeat' split) <;> first | rfl | omega, rfl⟩
          refine s_tcase E (2) 131 dX7_told_80 (by decide) rfl (by decide) (fun h80_2 => ?_) (fun h80_2 => ?_)
          · refine s_aload_n E dX7_told_131 rfl ?_
            refine s_getR (kf := 0) E dX7_told_132 rfl inb_X7 (Nat.le_of_ble_eq_true rfl) fl_X7_10 (by decide) sh0 rfl ?_
            refine s_getI (kf := 3) E 3 rfl dX7_told_135 rfl inb_X2 (Nat.le_of_ble_eq_true rfl) fl_X7_71 (by decide) sh1 rfl ?_
            refine hret _ _ ?_ (fun q => by cases q) _ _ dX7_told_138
            exact ⟨by (repeat' split) <;> first | rfl | omega, rfl⟩
          refine s_tcase E (3) 139 dX7_told_80 (by decide) rfl (by decide) (fun h80_3 => ?_) (fun h80_3 => ?_)
          · refine s_aload_n E dX7_told_139 rfl ?_
            refine s_getR (kf := 0) E dX7_told_140 rfl inb_X7 (Nat.le_of_ble_eq_true rfl) fl_X7_10 (by decide) sh0 rfl ?_
            refine s_getI (kf := 4) E 4 rfl dX7_told_143 rfl inb_X2 (Nat.le_of_ble_eq_true rfl) fl_X7_75 (by decide) sh1 rfl ?_
            refine hret _ _ ?_ (fun q => by cases q) _ _ dX7_told_146
            exact ⟨by (repeat' split) <;> first | rfl | omega, rfl⟩
          refine s_tout E 147 dX7_told_80 (by omega) (by omega) (by decide) ?_
          refine s_bipush E dX7_told_147 rfl ?_
          refine hret _ _ ?_ (fun q => by cases q) _ _ dX7_told_149
          exact ⟨by (repeat' split) <;> first | rfl | omega, rfl⟩
        · refine s_iload_n E dX7_told_49 rfl ?_
          refine s_bipush E dX7_told_50 rfl ?_
          refine s_irem E dX7_told_52 (by omega) (by omega) ?_
          refine s_callSi E (c_X7_isOne _ _ (by omega)) dX7_told_53 mf_X7_isOne ml_X7_59 rfl (Nat.le_of_ble_eq_true rfl) (Nat.le_of_ble_eq_true rfl) rfl (fun r53 M53 h53 => ?_)
          obtain ⟨e53, f53⟩ := h53; subst r53; subst M53
          refine s_ifeqB E 79 dX7_told_56 (by decide) (fun h56 => ?_) (fun h56 => ?_)
          · refine s_iload_n E dX7_told_79 rfl ?_
            refine s_tcase E (0) 112 dX7_told_80 (by decide) rfl (by decide) (fun h80_0 => ?_) (fun h80_0 => ?_)
            · refine s_aload_n E dX7_told_112 rfl ?_
              refine s_getR (kf := 3) E dX7_told_113 rfl inb_X7 (Nat.le_of_ble_eq_true rfl) fl_X7_27 (by decide) sh0 rfl ?_
              refine s_getI (kf := 1) E 1 rfl dX7_told_116 rfl inb_X5 (Nat.le_of_ble_eq_true rfl) fl_X7_81 (by decide) sh20 rfl ?_
              refine hret _ _ ?_ (fun q => by cases q) _ _ dX7_told_119
              exact ⟨by (repeat' split) <;> first | rfl | omega, rfl⟩
            refine s_tcase E (1) 120 dX7_told_80 (by decide) rfl (by decide) (fun h80_1 => ?_) (fun h80_1 => ?_)
            · refine s_aload_n E dX7_told_120 rfl ?_
              refine s_getR (kf := 0) E dX7_told_121 rfl inb_X7 (Nat.le_of_ble_eq_true rfl) fl_X7_10 (by decide) sh0 rfl ?_
              refine s_getR (kf := 2) E dX7_told_124 rfl inb_X2 (Nat.le_of_ble_eq_true rfl) fl_X7_114 (by decide) sh1 rfl ?_
              refine s_getI (kf := 3) E 3 rfl dX7_told_127 rfl inb_X4 (Nat.le_of_ble_eq_true rfl) fl_X7_118 (by decide) sh14 rfl ?_
              refine hret _ _ ?_ (fun q => by cases q) _ _ dX7_told_130
              exact ⟨by (repeat' split) <;> first | rfl | omega, rfl⟩
            refine s_tcase E (2) 131 dX7_told_80 (by decide) rfl (by decide) (fun h80_2 => ?_) (fun h80_2 => ?_)
            · refine s_aload_n E dX7_told_131 rfl ?_
              refine s_getR (kf := 0) E dX7_told_132 rfl inb_X7 (Nat.le_of_ble_eq_true rfl) fl_X7_10 (by decide) sh0 rfl ?_
              refine s_getI (kf := 3) E 3 rfl dX7_told_135 rfl inb_X2 (Nat.le_of_ble_eq_true rfl) fl_X7_71 (by decide) sh1 rfl ?_
              refine hret _ _ ?_ (fun q => by cases q) _ _ dX7_told_138
              exact ⟨by (repeat' split) <;> first | rfl | omega, rfl⟩
            refine s_tcase E (3) 139 dX7_told_80 (by decide) rfl (by decide) (fun h80_3 => ?_) (fun h80_3 => ?_)
            · refine s_aload_n E dX7_told_139 rfl ?_
              refine s_getR (kf := 0) E dX7_told_140 rfl inb_X7 (Nat.le_of_ble_eq_true rfl) fl_X7_10 (by decide) sh0 rfl ?_
              refine s_getI (kf := 4) E 4 rfl dX7_told_143 rfl inb_X2 (Nat.le_of_ble_eq_true rfl) fl_X7_75 (by decide) sh1 rfl ?_
              refine hret _ _ ?_ (fun q => by cases q) _ _ dX7_told_146
              exact ⟨by (repeat' split) <;> first | rfl | omega, rfl⟩
            refine s_tout E 147 dX7_told_80 (by omega) (by omega) (by decide) ?_
            refine s_bipush E dX7_told_147 rfl ?_
            refine hret _ _ ?_ (fun q => by cases q) _ _ dX7_told_149
            exact ⟨by (repeat' split) <;> first | rfl | omega, rfl⟩
          · refine s_aload_n E dX7_told_59 rfl ?_
            refine s_getR (kf := 0) E dX7_told_60 rfl inb_X7 (Nat.le_of_ble_eq_true rfl) fl_X7_10 (by decide) sh0 rfl ?_
            refine s_getR (kf := 0) E dX7_told_63 rfl inb_X2 (Nat.le_of_ble_eq_true rfl) fl_X7_67 (by decide) sh1 rfl ?_
            refine s_iload_n E dX7_told_66 rfl ?_
            refine s_bipush E dX7_told_67 rfl ?_
            refine s_idiv E dX7_told_69 (by omega) (by omega) ?_
            refine s_iconst E dX7_told_70 ?_
            refine s_isub E dX7_told_71 ?_
            refine s_aaldR (r0 := 3) (n := 4) E dX7_told_72 (by decide) sh2 (Nat.le_of_ble_eq_true rfl) (by omega) ?_
            refine s_iload_n E dX7_told_73 rfl ?_
            refine s_bipush E dX7_told_74 rfl ?_
            refine s_irem E dX7_told_76 (by omega) (by omega) ?_
            refine s_iald E dX7_told_77 (by omega) (shr2 (by omega)) (Nat.le_of_ble_eq_true rfl) (by omega) ?_
            refine hret _ _ ?_ (fun q => by cases q) _ _ dX7_told_78
            exact ⟨by (repeat' split) <;> first | rfl | omega, rfl⟩
    · refine s_aload_n E dX7_told_13 rfl ?_
      refine s_getR (kf := 0) E dX7_told_14 rfl inb_X7 (Nat.le_of_ble_eq_true rfl) fl_X7_10 (by decide) sh0 rfl ?_
      refine s_getR (kf := 1) E dX7_told_17 rfl inb_X2 (Nat.le_of_ble_eq_true rfl) fl_X7_173 (by decide) sh1 rfl ?_
      refine s_iload_n E dX7_told_20 rfl ?_
      refine s_bipush E dX7_told_21 rfl ?_
      refine s_isub E dX7_told_23 ?_
      refine s_bipush E dX7_told_24 rfl ?_
      refine s_idiv E dX7_told_26 (by omega) (by omega) ?_
      refine s_aaldR (r0 := 8) (n := 6) E dX7_told_27 (by decide) sh7 (Nat.le_of_ble_eq_true rfl) (by omega) ?_
      refine s_iload_n E dX7_told_28 rfl ?_
      refine s_bipush E dX7_told_29 rfl ?_
      refine s_isub E dX7_told_31 ?_
      refine s_bipush E dX7_told_32 rfl ?_
      refine s_irem E dX7_told_34 (by omega) (by omega) ?_
      refine s_iald E dX7_told_35 (by omega) (shr7 (by omega)) (Nat.le_of_ble_eq_true rfl) (by omega) ?_
      refine hret _ _ ?_ (fun q => by cases q) _ _ dX7_told_36
      exact ⟨by (repeat' split) <;> first | rfl | omega, rfl⟩

set_option maxRecDepth 100000 in
set_option maxHeartbeats 4000000 in
theorem c_X8_told (M : Mm) (w : Int) (hw : inI w) : CtI yX8_told cX8_told 2 .int 2 SH [rv 79, iv w] M (fun r M' => r = (if 100 ≤ w ∧ w < 136 then M 83 (w - 100) else if 10 ≤ w ∧ w < 50 ∧ w % 10 < 6 then M 80 (4 * (w % 10) + w / 10 - 1) else if w = 0 then M 79 3 else if w = 1 then M 79 5 else if w = 2 then M 79 1 else if w = 3 then M 79 2 else -2) ∧ M' = M) := by
  refine CtI.of rfl (Nat.le_of_ble_eq_true rfl) (Or.inl rfl) (fun v as E hret => ?_)
  show Ws v as SH 0 0 0 [some (rv 79), some (iv w)] [] M
  refine s_iload_n E dX8_told_0 rfl ?_
  refine s_bipush E dX8_told_1 rfl ?_
  refine s_sipush E dX8_told_3 rfl ?_
  refine s_callSi E (c_X8_in _ _ _ _ (by omega) (by omega) (by omega)) dX8_told_6 mf_X8_in ml_X8_63 rfl (Nat.le_of_ble_eq_true rfl) (Nat.le_of_ble_eq_true rfl) rfl (fun r6 M6 h6 => ?_)
  obtain ⟨e6, f6⟩ := h6; subst r6; subst M6
  refine s_ifeqB E 22 dX8_told_9 (by decide) (fun h9 => ?_) (fun h9 => ?_)
  · refine s_iload_n E dX8_told_22 rfl ?_
    refine s_bipush E dX8_told_23 rfl ?_
    refine s_icmp_lt E 65 dX8_told_25 (by decide) (by omega) (by omega) (fun h25 => ?_) (fun h25 => ?_)
    · refine s_iload_n E dX8_told_65 rfl ?_
      refine s_if_ne E 76 dX8_told_66 (by decide) (by omega) (fun h66 => ?_) (fun h66 => ?_)
      · refine s_iload_n E dX8_told_76 rfl ?_
        refine s_iconst E dX8_told_77 ?_
        refine s_icmp_ne E 88 dX8_told_78 (by decide) (by omega) (by omega) (fun h78 => ?_) (fun h78 => ?_)
        · refine s_iload_n E dX8_told_88 rfl ?_
          refine s_iconst E dX8_told_89 ?_
          refine s_icmp_ne E 100 dX8_told_90 (by decide) (by omega) (by omega) (fun h90 => ?_) (fun h90 => ?_)
          · refine s_iload_n E dX8_told_100 rfl ?_
            refine s_iconst E dX8_told_101 ?_
            refine s_icmp_ne E 112 dX8_told_102 (by decide) (by omega) (by omega) (fun h102 => ?_) (fun h102 => ?_)
            · refine s_bipush E dX8_told_112 rfl ?_
              refine hret _ _ ?_ (fun q => by cases q) _ _ dX8_told_114
              exact ⟨by (repeat' split) <;> first | rfl | omega, rfl⟩
            · refine s_aload_n E dX8_told_105 rfl ?_
              refine s_getI (kf := 2) E 2 rfl dX8_told_106 rfl inb_X8 (Nat.le_of_ble_eq_true rfl) fl_X8_17 (by decide) sh79 rfl ?_
              refine s_goto E 114 dX8_told_109 (by decide) ?_
              refine hret _ _ ?_ (fun q => by cases q) _ _ dX8_told_114
              exact ⟨by (repeat' split) <;> first | rfl | omega, rfl⟩
          · refine s_aload_n E dX8_told_93 rfl ?_
            refine s_getI (kf := 1) E 1 rfl dX8_told_94 rfl inb_X8 (Nat.le_of_ble_eq_true rfl) fl_X8_13 (by decide) sh79 rfl ?_
            refine s_goto E 114 dX8_told_97 (by decide) ?_
            refine hret _ _ ?_ (fun q => by cases q) _ _ dX8_told_114
            exact ⟨by (repeat' split) <;> first | rfl | omega, rfl⟩
        · refine s_aload_n E dX8_told_81 rfl ?_
          refine s_getI (kf := 5) E 5 rfl dX8_told_82 rfl inb_X8 (Nat.le_of_ble_eq_true rfl) fl_X8_117 (by decide) sh79 rfl ?_
          refine s_goto E 114 dX8_told_85 (by decide) ?_
          refine hret _ _ ?_ (fun q => by cases q) _ _ dX8_told_114
          exact ⟨by (repeat' split) <;> first | rfl | omega, rfl⟩
      · refine s_aload_n E dX8_told_69 rfl ?_
        refine s_getI (kf := 3) E 3 rfl dX8_told_70 rfl inb_X8 (Nat.le_of_ble_eq_true rfl) fl_X8_75 (by decide) sh79 rfl ?_
        refine s_goto E 114 dX8_told_73 (by decide) ?_
        refine hret _ _ ?_ (fun q => by cases q) _ _ dX8_told_114
        exact ⟨by (repeat' split) <;> first | rfl | omega, rfl⟩
    · refine s_iload_n E dX8_told_28 rfl ?_
      refine s_bipush E dX8_told_29 rfl ?_
      refine s_irem E dX8_told_31 (by omega) (by omega) ?_
      refine s_iconst E dX8_told_32 ?_
      refine s_iconst E dX8_told_33 ?_
      refine s_callSi E (c_X8_in _ _ _ _ (by omega) (by omega) (by omega)) dX8_told_34 mf_X8_in ml_X8_63 rfl (Nat.le_of_ble_eq_true rfl) (Nat.le_of_ble_eq_true rfl) rfl (fun r34 M34 h34 => ?_)
      obtain ⟨e34, f34⟩ := h34; subst r34; subst M34
      refine s_ifeqB E 65 dX8_told_37 (by decide) (fun h37 => ?_) (fun h37 => ?_)
      · refine s_iload_n E dX8_told_65 rfl ?_
        refine s_if_ne E 76 dX8_told_66 (by decide) (by omega) (fun h66 => ?_) (fun h66 => ?_)
        · refine s_iload_n E dX8_told_76 rfl ?_
          refine s_iconst E dX8_told_77 ?_
          refine s_icmp_ne E 88 dX8_told_78 (by decide) (by omega) (by omega) (fun h78 => ?_) (fun h78 => ?_)
          · refine s_iload_n E dX8_told_88 rfl ?_
            refine s_iconst E dX8_told_89 ?_
            refine s_icmp_ne E 100 dX8_told_90 (by decide) (by omega) (by omega) (fun h90 => ?_) (fun h90 => ?_)
            · refine s_iload_n E dX8_told_100 rfl ?_
              refine s_iconst E dX8_told_101 ?_
              refine s_icmp_ne E 112 dX8_told_102 (by decide) (by omega) (by omega) (fun h102 => ?_) (fun h102 => ?_)
              · refine s_bipush E dX8_told_112 rfl ?_
                refine hret _ _ ?_ (fun q => by cases q) _ _ dX8_told_114
                exact ⟨by (repeat' split) <;> first | rfl | omega, rfl⟩
              · refine s_aload_n E dX8_told_105 rfl ?_
                refine s_getI (kf := 2) E 2 rfl dX8_told_106 rfl inb_X8 (Nat.le_of_ble_eq_true rfl) fl_X8_17 (by decide) sh79 rfl ?_
                refine s_goto E 114 dX8_told_109 (by decide) ?_
                refine hret _ _ ?_ (fun q => by cases q) _ _ dX8_told_114
                exact ⟨by (repeat' split) <;> first | rfl | omega, rfl⟩
            · refine s_aload_n E dX8_told_93 rfl ?_
              refine s_getI (kf := 1) E 1 rfl dX8_told_94 rfl inb_X8 (Nat.le_of_ble_eq_true rfl) fl_X8_13 (by decide) sh79 rfl ?_
              refine s_goto E 114 dX8_told_97 (by decide) ?_
              refine hret _ _ ?_ (fun q => by cases q) _ _ dX8_told_114
              exact ⟨by (repeat' split) <;> first | rfl | omega, rfl⟩
          · refine s_aload_n E dX8_told_81 rfl ?_
            refine s_getI (kf := 5) E 5 rfl dX8_told_82 rfl inb_X8 (Nat.le_of_ble_eq_true rfl) fl_X8_117 (by decide) sh79 rfl ?_
            refine s_goto E 114 dX8_told_85 (by decide) ?_
            refine hret _ _ ?_ (fun q => by cases q) _ _ dX8_told_114
            exact ⟨by (repeat' split) <;> first | rfl | omega, rfl⟩
        · refine s_aload_n E dX8_told_69 rfl ?_
          refine s_getI (kf := 3) E 3 rfl dX8_told_70 rfl inb_X8 (Nat.le_of_ble_eq_true rfl) fl_X8_75 (by decide) sh79 rfl ?_
          refine s_goto E 114 dX8_told_73 (by decide) ?_
          refine hret _ _ ?_ (fun q => by cases q) _ _ dX8_told_114
          exact ⟨by (repeat' split) <;> first | rfl | omega, rfl⟩
      · refine s_iload_n E dX8_told_40 rfl ?_
        refine s_bipush E dX8_told_41 rfl ?_
        refine s_icmp_ge E 65 dX8_told_43 (by decide) (by omega) (by omega) (fun h43 => ?_) (fun h43 => ?_)
        · refine s_iload_n E dX8_told_65 rfl ?_
          refine s_if_ne E 76 dX8_told_66 (by decide) (by omega) (fun h66 => ?_) (fun h66 => ?_)
          · refine s_iload_n E dX8_told_76 rfl ?_
            refine s_iconst E dX8_told_77 ?_
            refine s_icmp_ne E 88 dX8_told_78 (by decide) (by omega) (by omega) (fun h78 => ?_) (fun h78 => ?_)
            · refine s_iload_n E dX8_told_88 rfl ?_
              refine s_iconst E dX8_told_89 ?_
              refine s_icmp_ne E 100 dX8_told_90 (by decide) (by omega) (by omega) (fun h90 => ?_) (fun h90 => ?_)
              · refine s_iload_n E dX8_told_100 rfl ?_
                refine s_iconst E dX8_told_101 ?_
                refine s_icmp_ne E 112 dX8_told_102 (by decide) (by omega) (by omega) (fun h102 => ?_) (fun h102 => ?_)
                · refine s_bipush E dX8_told_112 rfl ?_
                  refine hret _ _ ?_ (fun q => by cases q) _ _ dX8_told_114
                  exact ⟨by (repeat' split) <;> first | rfl | omega, rfl⟩
                · refine s_aload_n E dX8_told_105 rfl ?_
                  refine s_getI (kf := 2) E 2 rfl dX8_told_106 rfl inb_X8 (Nat.le_of_ble_eq_true rfl) fl_X8_17 (by decide) sh79 rfl ?_
                  refine s_goto E 114 dX8_told_109 (by decide) ?_
                  refine hret _ _ ?_ (fun q => by cases q) _ _ dX8_told_114
                  exact ⟨by (repeat' split) <;> first | rfl | omega, rfl⟩
              · refine s_aload_n E dX8_told_93 rfl ?_
                refine s_getI (kf := 1) E 1 rfl dX8_told_94 rfl inb_X8 (Nat.le_of_ble_eq_true rfl) fl_X8_13 (by decide) sh79 rfl ?_
                refine s_goto E 114 dX8_told_97 (by decide) ?_
                refine hret _ _ ?_ (fun q => by cases q) _ _ dX8_told_114
                exact ⟨by (repeat' split) <;> first | rfl | omega, rfl⟩
            · refine s_aload_n E dX8_told_81 rfl ?_
              refine s_getI (kf := 5) E 5 rfl dX8_told_82 rfl inb_X8 (Nat.le_of_ble_eq_true rfl) fl_X8_117 (by decide) sh79 rfl ?_
              refine s_goto E 114 dX8_told_85 (by decide) ?_
              refine hret _ _ ?_ (fun q => by cases q) _ _ dX8_told_114
              exact ⟨by (repeat' split) <;> first | rfl | omega, rfl⟩
          · refine s_aload_n E dX8_told_69 rfl ?_
            refine s_getI (kf := 3) E 3 rfl dX8_told_70 rfl inb_X8 (Nat.le_of_ble_eq_true rfl) fl_X8_75 (by decide) sh79 rfl ?_
            refine s_goto E 114 dX8_told_73 (by decide) ?_
            refine hret _ _ ?_ (fun q => by cases q) _ _ dX8_told_114
            exact ⟨by (repeat' split) <;> first | rfl | omega, rfl⟩
        · refine s_aload_n E dX8_told_46 rfl ?_
          refine s_getR (kf := 0) E dX8_told_47 rfl inb_X8 (Nat.le_of_ble_eq_true rfl) fl_X8_7 (by decide) sh79 rfl ?_
          refine s_iconst E dX8_told_50 ?_
          refine s_iload_n E dX8_told_51 rfl ?_
          refine s_bipush E dX8_told_52 rfl ?_
          refine s_irem E dX8_told_54 (by omega) (by omega) ?_
          refine s_imul E dX8_told_55 ?_
          refine s_iload_n E dX8_told_56 rfl ?_
          refine s_bipush E dX8_told_57 rfl ?_
          refine s_idiv E dX8_told_59 (by omega) (by omega) ?_
          refine s_iadd E dX8_told_60 ?_
          refine s_iconst E dX8_told_61 ?_
          refine s_isub E dX8_told_62 ?_
          refine s_iald E dX8_told_63 (by decide) sh80 (Nat.le_of_ble_eq_true rfl) (by omega) ?_
          refine hret _ _ ?_ (fun q => by cases q) _ _ dX8_told_64
          exact ⟨by (repeat' split) <;> first | rfl | omega, rfl⟩
  · refine s_aload_n E dX8_told_12 rfl ?_
    refine s_getR (kf := 7) E dX8_told_13 rfl inb_X8 (Nat.le_of_ble_eq_true rfl) fl_X8_26 (by decide) sh79 rfl ?_
    refine s_iload_n E dX8_told_16 rfl ?_
    refine s_bipush E dX8_told_17 rfl ?_
    refine s_isub E dX8_told_19 ?_
    refine s_iald E dX8_told_20 (by decide) sh83 (Nat.le_of_ble_eq_true rfl) (by omega) ?_
    refine hret _ _ ?_ (fun q => by cases q) _ _ dX8_told_21
    exact ⟨by (repeat' split) <;> first | rfl | omega, rfl⟩
