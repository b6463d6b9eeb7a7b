/-! ===== sittings: the reference ===== -/
theorem fSaveN_full {b n : Int} {S : Mm} (hc : S 0 n = 999) : fSaveN b S n = fSaveN b S (n + 1) := by
  funext w k
  dsimp only [fSaveN]
  by_cases e : k = n
  · subst e
    by_cases c : w = 0 ∧ 0 ≤ k ∧ k < k + 1 ∧ k ≠ b ∧ S 1 k = 1 ∧ S 2 k = 1
    · rw [if_neg (by omega), if_pos c, c.1, hc]
      rfl
    · rw [if_neg (by omega), if_neg c]
  · (repeat' split) <;> first | rfl | omega
theorem fSaveN_out {b b' : Int} {S : Mm} (h : b < 0 ∨ 6 ≤ b) (h' : b' < 0 ∨ 6 ≤ b') : fSaveN b S 6 = fSaveN b' S 6 := by
  funext w k
  dsimp only [fSaveN]
  (repeat' split) <;> first | rfl | omega
theorem fWithout_up4 {S : Mm} {k z : Int} : fWithout (upm S 4 k z) = upm (fWithout S) 4 k z := by
  unfold fWithout
  simp only [upm_ne (Or.inl (show (5 : Int) ≠ 4 by decide))]
  rw [upm_comm (a := 4) (a' := 5) (Or.inl (by decide)), upm_comm (a := 4) (a' := 5) (Or.inl (by decide))]
theorem fPay_up4 {S : Mm} {k z : Int} : fPay (upm S 4 k z) k = upm (fPay S k) 4 k z := by
  unfold fPay
  simp only [upm_ne (Or.inl (show (3 : Int) ≠ 4 by decide)), upm_ne (Or.inl (show (0 : Int) ≠ 4 by decide))]
  rw [upm_comm (a := 4) (a' := 0) (Or.inl (by decide)), upm_comm (a := 4) (a' := 3) (Or.inl (by decide))]

set_option maxRecDepth 100000 in
set_option maxHeartbeats 4000000 in
theorem c_X8_listens (M : Mm) (k n : Int) (hk : 0 ≤ k ∧ k < 6) (hb : SB (absM M) n) : CtI yX8_listens cX8_listens 2 .boolean 1 SH [rv 79, iv k] M (fun r M' => r = b2 (absM M 1 k = 1 ∧ absM M 2 k = 1) ∧ M' = M) := by
  refine CtI.of rfl (Nat.le_of_ble_eq_true rfl) (Or.inr rfl) (fun v as E hret => ?_)
  show Ws v as SH 0 0 0 [some (rv 79), some (iv k)] [] M
  have q0 := absM_rd0 (M := M) hk; have q1 := absM_rd1 (M := M) hk; have q2 := absM_rd2 (M := M) hk; have q3 := absM_rd3 (M := M) hk
  have b0 := hb.1 k hk.1 hk.2
  refine s_aload_n E dX8_listens_0 rfl ?_
  refine s_getR (kf := 8) E dX8_listens_1 rfl inb_X8 (Nat.le_of_ble_eq_true rfl) fl_X8_29 (by decide) sh79 rfl ?_
  refine s_iconst E dX8_listens_4 ?_
  refine s_iload_n E dX8_listens_5 rfl ?_
  refine s_imul E dX8_listens_6 ?_
  refine s_iconst E dX8_listens_7 ?_
  refine s_iadd E dX8_listens_8 ?_
  refine s_iald E dX8_listens_9 (by decide) sh84 (Nat.le_of_ble_eq_true rfl) (by omega) ?_
  refine s_iconst E dX8_listens_10 ?_
  refine s_icmp_ne E 32 dX8_listens_11 (by decide) (by omega) (by omega) (fun h11 => ?_) (fun h11 => ?_)
  · refine s_iconst E dX8_listens_32 ?_
    refine hret _ _ ?_ (fun _ => Or.inl rfl) _ _ dX8_listens_33
    exact ⟨by first | exact (b2_pos (by omega)).symm | exact (b2_neg (by omega)).symm, rfl⟩
  · refine s_aload_n E dX8_listens_14 rfl ?_
    refine s_getR (kf := 8) E dX8_listens_15 rfl inb_X8 (Nat.le_of_ble_eq_true rfl) fl_X8_29 (by decide) sh79 rfl ?_
    refine s_iconst E dX8_listens_18 ?_
    refine s_iload_n E dX8_listens_19 rfl ?_
    refine s_imul E dX8_listens_20 ?_
    refine s_iconst E dX8_listens_21 ?_
    refine s_iadd E dX8_listens_22 ?_
    refine s_iald E dX8_listens_23 (by decide) sh84 (Nat.le_of_ble_eq_true rfl) (by omega) ?_
    refine s_iconst E dX8_listens_24 ?_
    refine s_icmp_ne E 32 dX8_listens_25 (by decide) (by omega) (by omega) (fun h25 => ?_) (fun h25 => ?_)
    · refine s_iconst E dX8_listens_32 ?_
      refine hret _ _ ?_ (fun _ => Or.inl rfl) _ _ dX8_listens_33
      exact ⟨by first | exact (b2_pos (by omega)).symm | exact (b2_neg (by omega)).symm, rfl⟩
    · refine s_iconst E dX8_listens_28 ?_
      refine s_goto E 33 dX8_listens_29 (by decide) ?_
      refine hret _ _ ?_ (fun _ => Or.inr rfl) _ _ dX8_listens_33
      exact ⟨by first | exact (b2_pos (by omega)).symm | exact (b2_neg (by omega)).symm, rfl⟩

set_option maxRecDepth 100000 in
set_option maxHeartbeats 4000000 in
theorem lp_X8_save {v : Ev} {as : List Nat} (M0 S : Mm) (b q : Int) (hbi : inI b) (hq : SB S q) (E : Cx v cX8_save 3 yX8_save.cls 2) (hret : RetV v as cX8_save (fun M' => absM M' = fSaveN b S 6 ∧ KpM M0 M')) : ∀ (N : Nat) (M : Mm) (j : Int), (6 - j).toNat < N → (0 ≤ j ∧ j ≤ 6) → (absM M = fSaveN b S j) → (KpM M0 M) → Ws v as SH 0 0 2 [some (rv 79), some (iv b), some (iv j)] [] M := by
  intro N
  induction N with
  | zero =>
    intro M j hN
    exact absurd hN (Nat.not_lt_zero _)
  | succ N ih =>
    intro M j hN g0 g1 g2
    have hb : SB (absM M) q := by rw [g1]; exact hq.save
    refine s_iload_n E dX8_save_2 rfl ?_
    refine s_bipush E dX8_save_3 rfl ?_
    refine s_icmp_ge E 53 dX8_save_5 (by decide) (by omega) (by omega) (fun h5 => ?_) (fun h5 => ?_)
    · refine hret _ ?_ _ _ dX8_save_53
      exact ⟨by rw [g1, show j = 6 by omega], g2⟩
    · refine s_iload_n E dX8_save_8 rfl ?_
      refine s_iload_n E dX8_save_9 rfl ?_
      refine s_icmp_eq E 47 dX8_save_10 (by decide) (by omega) (by omega) (fun h10 => ?_) (fun h10 => ?_)
      · refine s_iinc (ls' := [_, _, _]) E dX8_save_47 rfl rfl ?_
        refine s_goto E 2 dX8_save_50 (by decide) ?_
        exact ih _ _ (by omega) (by omega) (by rw [g1]; exact fSaveN_no (by omega)) g2
      · 
        refine s_aload_n E dX8_save_13 rfl ?_
        refine s_iload_n E dX8_save_14 rfl ?_
        refine s_callVi E (c_X8_listens _ _ _ (by omega) hb) dX8_save_15 mf_X8_listens ml_X8_91 rfl (Nat.le_of_ble_eq_true rfl) (Nat.le_of_ble_eq_true rfl) (by decide) sh79 rfl rfl (fun r15 M15 h15 => ?_)
        obtain ⟨e15, f15⟩ := h15; subst r15; subst M15
        refine s_ifeqB E 47 dX8_save_18 (by decide) (fun h18 => ?_) (fun h18 => ?_)
        · refine s_iinc (ls' := [_, _, _]) E dX8_save_47 rfl rfl ?_
          refine s_goto E 2 dX8_save_50 (by decide) ?_
          rw [g1, fSaveN_rd (Or.inl (by decide)), fSaveN_rd (Or.inl (by decide))] at h18
          exact ih _ _ (by omega) (by omega) (by rw [g1]; exact fSaveN_no (by omega)) g2
        · have hj : 0 ≤ j ∧ j < 6 := by omega
          have r1 : S 1 j = 1 := by have t := h18.1; rw [g1, fSaveN_rd (Or.inl (by decide))] at t; exact t
          have r2 : S 2 j = 1 := by have t := h18.2; rw [g1, fSaveN_rd (Or.inl (by decide))] at t; exact t
          have r0 : M 84 (4 * j) = S 0 j := by rw [← absM_rd0 (M := M) hj, g1, fSaveN_rd (Or.inr (by omega))]
          have b0 := hq.1 j hj.1 hj.2
          refine s_aload_n E dX8_save_21 rfl ?_
          refine s_getR (kf := 8) E dX8_save_22 rfl inb_X8 (Nat.le_of_ble_eq_true rfl) fl_X8_29 (by decide) sh79 rfl ?_
          refine s_iconst E dX8_save_25 ?_
          refine s_iload_n E dX8_save_26 rfl ?_
          refine s_imul E dX8_save_27 ?_
          refine s_iald E dX8_save_28 (by decide) sh84 (Nat.le_of_ble_eq_true rfl) (by omega) ?_
          refine s_sipush E dX8_save_29 rfl ?_
          refine s_icmp_ge E 47 dX8_save_32 (by decide) (by omega) (by omega) (fun h32 => ?_) (fun h32 => ?_)
          · refine s_iinc (ls' := [_, _, _]) E dX8_save_47 rfl rfl ?_
            refine s_goto E 2 dX8_save_50 (by decide) ?_
            exact ih _ _ (by omega) (by omega) (by rw [g1]; exact fSaveN_full (by omega)) g2
          · refine s_aload_n E dX8_save_35 rfl ?_
            refine s_getR (kf := 8) E dX8_save_36 rfl inb_X8 (Nat.le_of_ble_eq_true rfl) fl_X8_29 (by decide) sh79 rfl ?_
            refine s_iconst E dX8_save_39 ?_
            refine s_iload_n E dX8_save_40 rfl ?_
            refine s_imul E dX8_save_41 ?_
            refine s_dup2 E dX8_save_42 ?_
            refine s_iald E dX8_save_43 (by decide) sh84 (Nat.le_of_ble_eq_true rfl) (by omega) ?_
            refine s_iconst E dX8_save_44 ?_
            refine s_iadd E dX8_save_45 ?_
            refine s_iast E dX8_save_46 (by decide) sh84 (Nat.le_of_ble_eq_true rfl) (by omega) ?_
            refine s_iinc (ls' := [_, _, _]) E dX8_save_47 rfl rfl ?_
            refine s_goto E 2 dX8_save_50 (by decide) ?_
            exact ih _ _ (by omega) (by omega) (by rw [absM_up0 hj, g1, ← fSaveN_go (by omega) ⟨by omega, r1, r2⟩, show min 999 (S 0 j + 1) = M 84 (4 * j) + 1 by omega]) (g2.up (by decide))

set_option maxRecDepth 100000 in
set_option maxHeartbeats 4000000 in
theorem c_X8_save (M : Mm) (b q : Int) (hbi : inI b) (hq : SB (absM M) q) : CtV yX8_save cX8_save 3 2 SH [rv 79, iv b] M (fun M' => absM M' = fSaveN b (absM M) 6 ∧ KpM M M') := by
  refine CtV.of rfl (Nat.le_of_ble_eq_true rfl) (fun v as E hret => ?_)
  show Ws v as SH 0 0 0 [some (rv 79), some (iv b), none] [] M
  refine s_iconst E dX8_save_0 ?_
  refine s_istore_n (ls' := [_, _, _]) E dX8_save_1 (Nat.le_of_ble_eq_true rfl) rfl ?_
  exact lp_X8_save M _ b q hbi hq E hret 7 M 0 (by decide) (by decide) fSaveN_0.symm (KpM.rf M)

set_option maxRecDepth 100000 in
set_option maxHeartbeats 4000000 in
theorem c_X8_speak (M : Mm) (k n : Int) (hk : 0 ≤ k ∧ k < 6) (hb : SB (absM M) n) (hn9 : n < 100000) : CtV yX8_speak cX8_speak 4 3 SH [rv 79, iv k] M (fun M' => absM M' = fSaveN k (fSpeak (absM M) k) 6 ∧ KpM M M') := by
  refine CtV.of rfl (Nat.le_of_ble_eq_true rfl) (fun v as E hret => ?_)
  show Ws v as SH 0 0 0 [some (rv 79), some (iv k), none, none] [] M
  have q0 := absM_rd0 (M := M) hk; have q1 := absM_rd1 (M := M) hk; have q2 := absM_rd2 (M := M) hk; have q3 := absM_rd3 (M := M) hk
  have q4 := absM_rd4 (M := M) hk; have q50 := absM_rf0 (M := M); have q51 := absM_rf1 (M := M); have q52 := absM_rf2 (M := M)
  have b0 := hb.1 k hk.1 hk.2; have b5 := hb.2
  refine s_aload_n E dX8_speak_0 rfl ?_
  refine s_getR (kf := 8) E dX8_speak_1 rfl inb_X8 (Nat.le_of_ble_eq_true rfl) fl_X8_29 (by decide) sh79 rfl ?_
  refine s_iconst E dX8_speak_4 ?_
  refine s_iload_n E dX8_speak_5 rfl ?_
  refine s_imul E dX8_speak_6 ?_
  refine s_iconst E dX8_speak_7 ?_
  refine s_iadd E dX8_speak_8 ?_
  refine s_iald E dX8_speak_9 (by decide) sh84 (Nat.le_of_ble_eq_true rfl) (by omega) ?_
  refine s_istore_n (ls' := [_, _, _, _]) E dX8_speak_10 (Nat.le_of_ble_eq_true rfl) rfl ?_
  refine s_iload_n E dX8_speak_11 rfl ?_
  refine s_if_le E 27 dX8_speak_12 (by decide) (by omega) (fun h12 => ?_) (fun h12 => ?_)
  · refine s_iconst E dX8_speak_27 ?_
    refine s_istore_n (ls' := [_, _, _, _]) E dX8_speak_28 (Nat.le_of_ble_eq_true rfl) rfl ?_
    refine s_aload_n E dX8_speak_29 rfl ?_
    refine s_iload_n E dX8_speak_30 rfl ?_
    refine s_callVi E (c_X8_listens _ _ _ (by omega) hb) dX8_speak_31 mf_X8_listens ml_X8_91 rfl (Nat.le_of_ble_eq_true rfl) (Nat.le_of_ble_eq_true rfl) (by decide) sh79 rfl rfl (fun r31 M31 h31 => ?_)
    obtain ⟨e31, f31⟩ := h31; subst r31; subst M31
    refine s_ifeqB E 52 dX8_speak_34 (by decide) (fun h34 => ?_) (fun h34 => ?_)
    · refine s_aload_n E dX8_speak_52 rfl ?_
      refine s_aload_n E dX8_speak_53 rfl ?_
      refine s_getI (kf := 11) E 11 rfl dX8_speak_54 rfl inb_X8 (Nat.le_of_ble_eq_true rfl) fl_X8_94 (by decide) sh79 rfl ?_
      refine s_if_ne E 67 dX8_speak_57 (by decide) (by omega) (fun h57 => ?_) (fun h57 => ?_)
      · refine s_aload_n E dX8_speak_67 rfl ?_
        refine s_getI (kf := 12) E 12 rfl dX8_speak_68 rfl inb_X8 (Nat.le_of_ble_eq_true rfl) fl_X8_100 (by decide) sh79 rfl ?_
        refine s_putI (kf := 12) E 12 rfl dX8_speak_71 rfl inb_X8 tyX8_ok nmX8 (Nat.le_of_ble_eq_true rfl) ⟨rfl, rfl⟩ fl_X8_100 (by decide) sh79 rfl ?_
        refine s_aload_n E dX8_speak_74 rfl ?_
        refine s_dup E dX8_speak_75 ?_
        refine s_getI (kf := 11) E 11 rfl dX8_speak_76 rfl inb_X8 (Nat.le_of_ble_eq_true rfl) fl_X8_94 (by decide) sh79 rfl ?_
        simp only [upm_ne (Or.inr (show (11 : Int) ≠ 12 by decide))]
        refine s_iconst E dX8_speak_79 ?_
        refine s_iadd E dX8_speak_80 ?_
        refine s_putI (kf := 11) E 11 rfl dX8_speak_81 rfl inb_X8 tyX8_ok nmX8 (Nat.le_of_ble_eq_true rfl) ⟨rfl, rfl⟩ fl_X8_94 (by decide) sh79 rfl ?_
        refine s_goto E 128 dX8_speak_84 (by decide) ?_
        have hn : noPay (absM M) k := by unfold noPay; exact Or.inl h34
        have X : absM (upm (upm M 79 12 (M 79 12)) 79 11 (M 79 11 + 1)) = fWithout (absM M) := by
          rw [absM_uf1, absM_uf2]
          unfold fWithout
          rw [q51, if_neg (by omega), q52]
        have Y : KpM M (upm (upm M 79 12 (M 79 12)) 79 11 (M 79 11 + 1)) := ((KpM.rf M).upf (by decide)).upf (by decide)
        have X9 : absM (upm (upm (upm M 79 12 (M 79 12)) 79 11 (M 79 11 + 1)) 85 k (M 85 k + 1)) = fSpeak (absM M) k := by rw [absM_up4 hk, X, fSpeak_n hn, fWithout_up4, q4]
        have Y9 : KpM M (upm (upm (upm M 79 12 (M 79 12)) 79 11 (M 79 11 + 1)) 85 k (M 85 k + 1)) := Y.up (by decide)
        have Z9 := hb.speak hk hn9
        refine s_aload_n E dX8_speak_128 rfl ?_
        refine s_getR (kf := 9) E dX8_speak_129 rfl inb_X8 (Nat.le_of_ble_eq_true rfl) fl_X8_32 (by decide) sh79 rfl ?_
        refine s_iload_n E dX8_speak_132 rfl ?_
        refine s_dup2 E dX8_speak_133 ?_
        refine s_iald E dX8_speak_134 (by decide) sh85 (Nat.le_of_ble_eq_true rfl) (by omega) ?_
        simp only [upm_ne (Or.inl (show (85 : Int) ≠ 79 by decide))]
        refine s_iconst E dX8_speak_135 ?_
        refine s_iadd E dX8_speak_136 ?_
        refine s_iast E dX8_speak_137 (by decide) sh85 (Nat.le_of_ble_eq_true rfl) (by omega) ?_
        refine s_aload_n E dX8_speak_138 rfl ?_
        refine s_iload_n E dX8_speak_139 rfl ?_
        refine s_callVv E (c_X8_save _ k (n + 1) (by omega) (by rw [X9]; exact Z9)) dX8_speak_140 mf_X8_save ml_X8_103 rfl (Nat.le_of_ble_eq_true rfl) (Nat.le_of_ble_eq_true rfl) (by decide) sh79 rfl rfl (fun M140 h140 => ?_)
        obtain ⟨e140, f140⟩ := h140
        refine hret _ ?_ _ _ dX8_speak_143
        exact ⟨by rw [e140, X9], Y9.tr f140⟩
      · refine s_aload_n E dX8_speak_60 rfl ?_
        refine s_getI (kf := 10) E 10 rfl dX8_speak_61 rfl inb_X8 (Nat.le_of_ble_eq_true rfl) fl_X8_97 (by decide) sh79 rfl ?_
        refine s_goto E 71 dX8_speak_64 (by decide) ?_
        refine s_putI (kf := 12) E 12 rfl dX8_speak_71 rfl inb_X8 tyX8_ok nmX8 (Nat.le_of_ble_eq_true rfl) ⟨rfl, rfl⟩ fl_X8_100 (by decide) sh79 rfl ?_
        refine s_aload_n E dX8_speak_74 rfl ?_
        refine s_dup E dX8_speak_75 ?_
        refine s_getI (kf := 11) E 11 rfl dX8_speak_76 rfl inb_X8 (Nat.le_of_ble_eq_true rfl) fl_X8_94 (by decide) sh79 rfl ?_
        simp only [upm_ne (Or.inr (show (11 : Int) ≠ 12 by decide))]
        refine s_iconst E dX8_speak_79 ?_
        refine s_iadd E dX8_speak_80 ?_
        refine s_putI (kf := 11) E 11 rfl dX8_speak_81 rfl inb_X8 tyX8_ok nmX8 (Nat.le_of_ble_eq_true rfl) ⟨rfl, rfl⟩ fl_X8_94 (by decide) sh79 rfl ?_
        refine s_goto E 128 dX8_speak_84 (by decide) ?_
        have hn : noPay (absM M) k := by unfold noPay; exact Or.inl h34
        have X : absM (upm (upm M 79 12 (M 79 10)) 79 11 (M 79 11 + 1)) = fWithout (absM M) := by
          rw [absM_uf1, absM_uf2]
          unfold fWithout
          rw [q51, if_pos (by omega), q50]
        have Y : KpM M (upm (upm M 79 12 (M 79 10)) 79 11 (M 79 11 + 1)) := ((KpM.rf M).upf (by decide)).upf (by decide)
        have X9 : absM (upm (upm (upm M 79 12 (M 79 10)) 79 11 (M 79 11 + 1)) 85 k (M 85 k + 1)) = fSpeak (absM M) k := by rw [absM_up4 hk, X, fSpeak_n hn, fWithout_up4, q4]
        have Y9 : KpM M (upm (upm (upm M 79 12 (M 79 10)) 79 11 (M 79 11 + 1)) 85 k (M 85 k + 1)) := Y.up (by decide)
        have Z9 := hb.speak hk hn9
        refine s_aload_n E dX8_speak_128 rfl ?_
        refine s_getR (kf := 9) E dX8_speak_129 rfl inb_X8 (Nat.le_of_ble_eq_true rfl) fl_X8_32 (by decide) sh79 rfl ?_
        refine s_iload_n E dX8_speak_132 rfl ?_
        refine s_dup2 E dX8_speak_133 ?_
        refine s_iald E dX8_speak_134 (by decide) sh85 (Nat.le_of_ble_eq_true rfl) (by omega) ?_
        simp only [upm_ne (Or.inl (show (85 : Int) ≠ 79 by decide))]
        refine s_iconst E dX8_speak_135 ?_
        refine s_iadd E dX8_speak_136 ?_
        refine s_iast E dX8_speak_137 (by decide) sh85 (Nat.le_of_ble_eq_true rfl) (by omega) ?_
        refine s_aload_n E dX8_speak_138 rfl ?_
        refine s_iload_n E dX8_speak_139 rfl ?_
        refine s_callVv E (c_X8_save _ k (n + 1) (by omega) (by rw [X9]; exact Z9)) dX8_speak_140 mf_X8_save ml_X8_103 rfl (Nat.le_of_ble_eq_true rfl) (Nat.le_of_ble_eq_true rfl) (by decide) sh79 rfl rfl (fun M140 h140 => ?_)
        obtain ⟨e140, f140⟩ := h140
        refine hret _ ?_ _ _ dX8_speak_143
        exact ⟨by rw [e140, X9], Y9.tr f140⟩
    · refine s_iload_n E dX8_speak_37 rfl ?_
      refine s_if_ne E 87 dX8_speak_38 (by decide) (by omega) (fun h38 => ?_) (fun h38 => ?_)
      · exact absurd h38 (by decide)
      · refine s_aload_n E dX8_speak_41 rfl ?_
        refine s_getR (kf := 8) E dX8_speak_42 rfl inb_X8 (Nat.le_of_ble_eq_true rfl) fl_X8_29 (by decide) sh79 rfl ?_
        refine s_iconst E dX8_speak_45 ?_
        refine s_iload_n E dX8_speak_46 rfl ?_
        refine s_imul E dX8_speak_47 ?_
        refine s_iald E dX8_speak_48 (by decide) sh84 (Nat.le_of_ble_eq_true rfl) (by omega) ?_
        refine s_if_ne E 87 dX8_speak_49 (by decide) (by omega) (fun h49 => ?_) (fun h49 => ?_)
        · refine s_aload_n E dX8_speak_87 rfl ?_
          refine s_getR (kf := 8) E dX8_speak_88 rfl inb_X8 (Nat.le_of_ble_eq_true rfl) fl_X8_29 (by decide) sh79 rfl ?_
          refine s_iconst E dX8_speak_91 ?_
          refine s_iload_n E dX8_speak_92 rfl ?_
          refine s_imul E dX8_speak_93 ?_
          refine s_iconst E dX8_speak_94 ?_
          refine s_iadd E dX8_speak_95 ?_
          refine s_iload_n E dX8_speak_96 rfl ?_
          refine s_if_le E 106 dX8_speak_97 (by decide) (by omega) (fun h97 => ?_) (fun h97 => ?_)
          · refine s_iconst E dX8_speak_106 ?_
            refine s_iast E dX8_speak_107 (by decide) sh84 (Nat.le_of_ble_eq_true rfl) (by omega) ?_
            refine s_aload_n E dX8_speak_108 rfl ?_
            refine s_getR (kf := 8) E dX8_speak_109 rfl inb_X8 (Nat.le_of_ble_eq_true rfl) fl_X8_29 (by decide) sh79 rfl ?_
            refine s_iconst E dX8_speak_112 ?_
            refine s_iload_n E dX8_speak_113 rfl ?_
            refine s_imul E dX8_speak_114 ?_
            refine s_dup2 E dX8_speak_115 ?_
            refine s_iald E dX8_speak_116 (by decide) sh84 (Nat.le_of_ble_eq_true rfl) (by omega) ?_
            rw [upm_ne (Or.inr (show (4 * k : Int) ≠ 4 * k + 3 by omega))]
            refine s_iload_n E dX8_speak_117 rfl ?_
            refine s_if_eq E 125 dX8_speak_118 (by decide) (by omega) (fun h118 => ?_) (fun h118 => ?_)
            · refine s_iconst E dX8_speak_125 ?_
              refine s_isub E dX8_speak_126 ?_
              refine s_iast E dX8_speak_127 (by decide) sh84 (Nat.le_of_ble_eq_true rfl) (by omega) ?_
              have hn : ¬ noPay (absM M) k := by unfold noPay; rintro (q | q)
                                                 · exact q h34
                                                 · revert q; split <;> omega
              have X : absM (upm (upm M 84 (4 * k + 3) 0) 84 (4 * k) (M 84 (4 * k) - 1)) = fPay (absM M) k := by
                rw [absM_up0 hk, absM_up3 hk, upm_comm (Or.inl (by decide))]
                unfold fPay
                rw [q0, q3, show max 0 (M 84 (4 * k + 3) - 1) = 0 by omega]
                congr 3
                split <;> omega
              have Y : KpM M (upm (upm M 84 (4 * k + 3) 0) 84 (4 * k) (M 84 (4 * k) - 1)) := ((KpM.rf M).up (by decide)).up (by decide)
              have X9 : absM (upm (upm (upm M 84 (4 * k + 3) 0) 84 (4 * k) (M 84 (4 * k) - 1)) 85 k (M 85 k + 1)) = fSpeak (absM M) k := by rw [absM_up4 hk, X, fSpeak_p hn, fPay_up4, q4]
              have Y9 : KpM M (upm (upm (upm M 84 (4 * k + 3) 0) 84 (4 * k) (M 84 (4 * k) - 1)) 85 k (M 85 k + 1)) := Y.up (by decide)
              have Z9 := hb.speak hk hn9
              refine s_aload_n E dX8_speak_128 rfl ?_
              refine s_getR (kf := 9) E dX8_speak_129 rfl inb_X8 (Nat.le_of_ble_eq_true rfl) fl_X8_32 (by decide) sh79 rfl ?_
              refine s_iload_n E dX8_speak_132 rfl ?_
              refine s_dup2 E dX8_speak_133 ?_
              refine s_iald E dX8_speak_134 (by decide) sh85 (Nat.le_of_ble_eq_true rfl) (by omega) ?_
              simp only [upm_ne (Or.inl (show (85 : Int) ≠ 84 by decide))]
              refine s_iconst E dX8_speak_135 ?_
              refine s_iadd E dX8_speak_136 ?_
              refine s_iast E dX8_speak_137 (by decide) sh85 (Nat.le_of_ble_eq_true rfl) (by omega) ?_
              refine s_aload_n E dX8_speak_138 rfl ?_
              refine s_iload_n E dX8_speak_139 rfl ?_
              refine s_callVv E (c_X8_save _ k (n + 1) (by omega) (by rw [X9]; exact Z9)) dX8_speak_140 mf_X8_save ml_X8_103 rfl (Nat.le_of_ble_eq_true rfl) (Nat.le_of_ble_eq_true rfl) (by decide) sh79 rfl rfl (fun M140 h140 => ?_)
              obtain ⟨e140, f140⟩ := h140
              refine hret _ ?_ _ _ dX8_speak_143
              exact ⟨by rw [e140, X9], Y9.tr f140⟩
            · exact absurd h118 (by decide)
          · refine s_iload_n E dX8_speak_100 rfl ?_
            refine s_iconst E dX8_speak_101 ?_
            refine s_isub E dX8_speak_102 ?_
            refine s_goto E 107 dX8_speak_103 (by decide) ?_
            refine s_iast E dX8_speak_107 (by decide) sh84 (Nat.le_of_ble_eq_true rfl) (by omega) ?_
            refine s_aload_n E dX8_speak_108 rfl ?_
            refine s_getR (kf := 8) E dX8_speak_109 rfl inb_X8 (Nat.le_of_ble_eq_true rfl) fl_X8_29 (by decide) sh79 rfl ?_
            refine s_iconst E dX8_speak_112 ?_
            refine s_iload_n E dX8_speak_113 rfl ?_
            refine s_imul E dX8_speak_114 ?_
            refine s_dup2 E dX8_speak_115 ?_
            refine s_iald E dX8_speak_116 (by decide) sh84 (Nat.le_of_ble_eq_true rfl) (by omega) ?_
            rw [upm_ne (Or.inr (show (4 * k : Int) ≠ 4 * k + 3 by omega))]
            refine s_iload_n E dX8_speak_117 rfl ?_
            refine s_if_eq E 125 dX8_speak_118 (by decide) (by omega) (fun h118 => ?_) (fun h118 => ?_)
            · refine s_iconst E dX8_speak_125 ?_
              refine s_isub E dX8_speak_126 ?_
              refine s_iast E dX8_speak_127 (by decide) sh84 (Nat.le_of_ble_eq_true rfl) (by omega) ?_
              have hn : ¬ noPay (absM M) k := by unfold noPay; rintro (q | q)
                                                 · exact q h34
                                                 · revert q; split <;> omega
              have X : absM (upm (upm M 84 (4 * k + 3) (M 84 (4 * k + 3) - 1)) 84 (4 * k) (M 84 (4 * k) - 1)) = fPay (absM M) k := by
                rw [absM_up0 hk, absM_up3 hk, upm_comm (Or.inl (by decide))]
                unfold fPay
                rw [q0, q3, show max 0 (M 84 (4 * k + 3) - 1) = (M 84 (4 * k + 3) - 1) by omega]
                congr 3
                split <;> omega
              have Y : KpM M (upm (upm M 84 (4 * k + 3) (M 84 (4 * k + 3) - 1)) 84 (4 * k) (M 84 (4 * k) - 1)) := ((KpM.rf M).up (by decide)).up (by decide)
              have X9 : absM (upm (upm (upm M 84 (4 * k + 3) (M 84 (4 * k + 3) - 1)) 84 (4 * k) (M 84 (4 * k) - 1)) 85 k (M 85 k + 1)) = fSpeak (absM M) k := by rw [absM_up4 hk, X, fSpeak_p hn, fPay_up4, q4]
              have Y9 : KpM M (upm (upm (upm M 84 (4 * k + 3) (M 84 (4 * k + 3) - 1)) 84 (4 * k) (M 84 (4 * k) - 1)) 85 k (M 85 k + 1)) := Y.up (by decide)
              have Z9 := hb.speak hk hn9
              refine s_aload_n E dX8_speak_128 rfl ?_
              refine s_getR (kf := 9) E dX8_speak_129 rfl inb_X8 (Nat.le_of_ble_eq_true rfl) fl_X8_32 (by decide) sh79 rfl ?_
              refine s_iload_n E dX8_speak_132 rfl ?_
              refine s_dup2 E dX8_speak_133 ?_
              refine s_iald E dX8_speak_134 (by decide) sh85 (Nat.le_of_ble_eq_true rfl) (by omega) ?_
              simp only [upm_ne (Or.inl (show (85 : Int) ≠ 84 by decide))]
              refine s_iconst E dX8_speak_135 ?_
              refine s_iadd E dX8_speak_136 ?_
              refine s_iast E dX8_speak_137 (by decide) sh85 (Nat.le_of_ble_eq_true rfl) (by omega) ?_
              refine s_aload_n E dX8_speak_138 rfl ?_
              refine s_iload_n E dX8_speak_139 rfl ?_
              refine s_callVv E (c_X8_save _ k (n + 1) (by omega) (by rw [X9]; exact Z9)) dX8_speak_140 mf_X8_save ml_X8_103 rfl (Nat.le_of_ble_eq_true rfl) (Nat.le_of_ble_eq_true rfl) (by decide) sh79 rfl rfl (fun M140 h140 => ?_)
              obtain ⟨e140, f140⟩ := h140
              refine hret _ ?_ _ _ dX8_speak_143
              exact ⟨by rw [e140, X9], Y9.tr f140⟩
            · exact absurd h118 (by decide)
        · refine s_aload_n E dX8_speak_52 rfl ?_
          refine s_aload_n E dX8_speak_53 rfl ?_
          refine s_getI (kf := 11) E 11 rfl dX8_speak_54 rfl inb_X8 (Nat.le_of_ble_eq_true rfl) fl_X8_94 (by decide) sh79 rfl ?_
          refine s_if_ne E 67 dX8_speak_57 (by decide) (by omega) (fun h57 => ?_) (fun h57 => ?_)
          · refine s_aload_n E dX8_speak_67 rfl ?_
            refine s_getI (kf := 12) E 12 rfl dX8_speak_68 rfl inb_X8 (Nat.le_of_ble_eq_true rfl) fl_X8_100 (by decide) sh79 rfl ?_
            refine s_putI (kf := 12) E 12 rfl dX8_speak_71 rfl inb_X8 tyX8_ok nmX8 (Nat.le_of_ble_eq_true rfl) ⟨rfl, rfl⟩ fl_X8_100 (by decide) sh79 rfl ?_
            refine s_aload_n E dX8_speak_74 rfl ?_
            refine s_dup E dX8_speak_75 ?_
            refine s_getI (kf := 11) E 11 rfl dX8_speak_76 rfl inb_X8 (Nat.le_of_ble_eq_true rfl) fl_X8_94 (by decide) sh79 rfl ?_
            simp only [upm_ne (Or.inr (show (11 : Int) ≠ 12 by decide))]
            refine s_iconst E dX8_speak_79 ?_
            refine s_iadd E dX8_speak_80 ?_
            refine s_putI (kf := 11) E 11 rfl dX8_speak_81 rfl inb_X8 tyX8_ok nmX8 (Nat.le_of_ble_eq_true rfl) ⟨rfl, rfl⟩ fl_X8_94 (by decide) sh79 rfl ?_
            refine s_goto E 128 dX8_speak_84 (by decide) ?_
            have hn : noPay (absM M) k := by unfold noPay; exact Or.inr (by split <;> omega)
            have X : absM (upm (upm M 79 12 (M 79 12)) 79 11 (M 79 11 + 1)) = fWithout (absM M) := by
              rw [absM_uf1, absM_uf2]
              unfold fWithout
              rw [q51, if_neg (by omega), q52]
            have Y : KpM M (upm (upm M 79 12 (M 79 12)) 79 11 (M 79 11 + 1)) := ((KpM.rf M).upf (by decide)).upf (by decide)
            have X9 : absM (upm (upm (upm M 79 12 (M 79 12)) 79 11 (M 79 11 + 1)) 85 k (M 85 k + 1)) = fSpeak (absM M) k := by rw [absM_up4 hk, X, fSpeak_n hn, fWithout_up4, q4]
            have Y9 : KpM M (upm (upm (upm M 79 12 (M 79 12)) 79 11 (M 79 11 + 1)) 85 k (M 85 k + 1)) := Y.up (by decide)
            have Z9 := hb.speak hk hn9
            refine s_aload_n E dX8_speak_128 rfl ?_
            refine s_getR (kf := 9) E dX8_speak_129 rfl inb_X8 (Nat.le_of_ble_eq_true rfl) fl_X8_32 (by decide) sh79 rfl ?_
            refine s_iload_n E dX8_speak_132 rfl ?_
            refine s_dup2 E dX8_speak_133 ?_
            refine s_iald E dX8_speak_134 (by decide) sh85 (Nat.le_of_ble_eq_true rfl) (by omega) ?_
            simp only [upm_ne (Or.inl (show (85 : Int) ≠ 79 by decide))]
            refine s_iconst E dX8_speak_135 ?_
            refine s_iadd E dX8_speak_136 ?_
            refine s_iast E dX8_speak_137 (by decide) sh85 (Nat.le_of_ble_eq_true rfl) (by omega) ?_
            refine s_aload_n E dX8_speak_138 rfl ?_
            refine s_iload_n E dX8_speak_139 rfl ?_
            refine s_callVv E (c_X8_save _ k (n + 1) (by omega) (by rw [X9]; exact Z9)) dX8_speak_140 mf_X8_save ml_X8_103 rfl (Nat.le_of_ble_eq_true rfl) (Nat.le_of_ble_eq_true rfl) (by decide) sh79 rfl rfl (fun M140 h140 => ?_)
            obtain ⟨e140, f140⟩ := h140
            refine hret _ ?_ _ _ dX8_speak_143
            exact ⟨by rw [e140, X9], Y9.tr f140⟩
          · refine s_aload_n E dX8_speak_60 rfl ?_
            refine s_getI (kf := 10) E 10 rfl dX8_speak_61 rfl inb_X8 (Nat.le_of_ble_eq_true rfl) fl_X8_97 (by decide) sh79 rfl ?_
            refine s_goto E 71 dX8_speak_64 (by decide) ?_
            refine s_putI (kf := 12) E 12 rfl dX8_speak_71 rfl inb_X8 tyX8_ok nmX8 (Nat.le_of_ble_eq_true rfl) ⟨rfl, rfl⟩ fl_X8_100 (by decide) sh79 rfl ?_
            refine s_aload_n E dX8_speak_74 rfl ?_
            refine s_dup E dX8_speak_75 ?_
            refine s_getI (kf := 11) E 11 rfl dX8_speak_76 rfl inb_X8 (Nat.le_of_ble_eq_true rfl) fl_X8_94 (by decide) sh79 rfl ?_
            simp only [upm_ne (Or.inr (show (11 : Int) ≠ 12 by decide))]
            refine s_iconst E dX8_speak_79 ?_
            refine s_iadd E dX8_speak_80 ?_
            refine s_putI (kf := 11) E 11 rfl dX8_speak_81 rfl inb_X8 tyX8_ok nmX8 (Nat.le_of_ble_eq_true rfl) ⟨rfl, rfl⟩ fl_X8_94 (by decide) sh79 rfl ?_
            refine s_goto E 128 dX8_speak_84 (by decide) ?_
            have hn : noPay (absM M) k := by unfold noPay; exact Or.inr (by split <;> omega)
            have X : absM (upm (upm M 79 12 (M 79 10)) 79 11 (M 79 11 + 1)) = fWithout (absM M) := by
              rw [absM_uf1, absM_uf2]
              unfold fWithout
              rw [q51, if_pos (by omega), q50]
            have Y : KpM M (upm (upm M 79 12 (M 79 10)) 79 11 (M 79 11 + 1)) := ((KpM.rf M).upf (by decide)).upf (by decide)
            have X9 : absM (upm (upm (upm M 79 12 (M 79 10)) 79 11 (M 79 11 + 1)) 85 k (M 85 k + 1)) = fSpeak (absM M) k := by rw [absM_up4 hk, X, fSpeak_n hn, fWithout_up4, q4]
            have Y9 : KpM M (upm (upm (upm M 79 12 (M 79 10)) 79 11 (M 79 11 + 1)) 85 k (M 85 k + 1)) := Y.up (by decide)
            have Z9 := hb.speak hk hn9
            refine s_aload_n E dX8_speak_128 rfl ?_
            refine s_getR (kf := 9) E dX8_speak_129 rfl inb_X8 (Nat.le_of_ble_eq_true rfl) fl_X8_32 (by decide) sh79 rfl ?_
            refine s_iload_n E dX8_speak_132 rfl ?_
            refine s_dup2 E dX8_speak_133 ?_
            refine s_iald E dX8_speak_134 (by decide) sh85 (Nat.le_of_ble_eq_true rfl) (by omega) ?_
            simp only [upm_ne (Or.inl (show (85 : Int) ≠ 79 by decide))]
            refine s_iconst E dX8_speak_135 ?_
            refine s_iadd E dX8_speak_136 ?_
            refine s_iast E dX8_speak_137 (by decide) sh85 (Nat.le_of_ble_eq_true rfl) (by omega) ?_
            refine s_aload_n E dX8_speak_138 rfl ?_
            refine s_iload_n E dX8_speak_139 rfl ?_
            refine s_callVv E (c_X8_save _ k (n + 1) (by omega) (by rw [X9]; exact Z9)) dX8_speak_140 mf_X8_save ml_X8_103 rfl (Nat.le_of_ble_eq_true rfl) (Nat.le_of_ble_eq_true rfl) (by decide) sh79 rfl rfl (fun M140 h140 => ?_)
            obtain ⟨e140, f140⟩ := h140
            refine hret _ ?_ _ _ dX8_speak_143
            exact ⟨by rw [e140, X9], Y9.tr f140⟩
  · refine s_iload_n E dX8_speak_15 rfl ?_
    refine s_iconst E dX8_speak_16 ?_
    refine s_isub E dX8_speak_17 ?_
    refine s_iconst E dX8_speak_18 ?_
    refine s_irem E dX8_speak_19 (by omega) (by omega) ?_
    refine s_if_ne E 27 dX8_speak_20 (by decide) (by omega) (fun h20 => ?_) (fun h20 => ?_)
    · refine s_iconst E dX8_speak_27 ?_
      refine s_istore_n (ls' := [_, _, _, _]) E dX8_speak_28 (Nat.le_of_ble_eq_true rfl) rfl ?_
      refine s_aload_n E dX8_speak_29 rfl ?_
      refine s_iload_n E dX8_speak_30 rfl ?_
      refine s_callVi E (c_X8_listens _ _ _ (by omega) hb) dX8_speak_31 mf_X8_listens ml_X8_91 rfl (Nat.le_of_ble_eq_true rfl) (Nat.le_of_ble_eq_true rfl) (by decide) sh79 rfl rfl (fun r31 M31 h31 => ?_)
      obtain ⟨e31, f31⟩ := h31; subst r31; subst M31
      refine s_ifeqB E 52 dX8_speak_34 (by decide) (fun h34 => ?_) (fun h34 => ?_)
      · refine s_aload_n E dX8_speak_52 rfl ?_
        refine s_aload_n E dX8_speak_53 rfl ?_
        refine s_getI (kf := 11) E 11 rfl dX8_speak_54 rfl inb_X8 (Nat.le_of_ble_eq_true rfl) fl_X8_94 (by decide) sh79 rfl ?_
        refine s_if_ne E 67 dX8_speak_57 (by decide) (by omega) (fun h57 => ?_) (fun h57 => ?_)
        · refine s_aload_n E dX8_speak_67 rfl ?_
          refine s_getI (kf := 12) E 12 rfl dX8_speak_68 rfl inb_X8 (Nat.le_of_ble_eq_true rfl) fl_X8_100 (by decide) sh79 rfl ?_
          refine s_putI (kf := 12) E 12 rfl dX8_speak_71 rfl inb_X8 tyX8_ok nmX8 (Nat.le_of_ble_eq_true rfl) ⟨rfl, rfl⟩ fl_X8_100 (by decide) sh79 rfl ?_
          refine s_aload_n E dX8_speak_74 rfl ?_
          refine s_dup E dX8_speak_75 ?_
          refine s_getI (kf := 11) E 11 rfl dX8_speak_76 rfl inb_X8 (Nat.le_of_ble_eq_true rfl) fl_X8_94 (by decide) sh79 rfl ?_
          simp only [upm_ne (Or.inr (show (11 : Int) ≠ 12 by decide))]
          refine s_iconst E dX8_speak_79 ?_
          refine s_iadd E dX8_speak_80 ?_
          refine s_putI (kf := 11) E 11 rfl dX8_speak_81 rfl inb_X8 tyX8_ok nmX8 (Nat.le_of_ble_eq_true rfl) ⟨rfl, rfl⟩ fl_X8_94 (by decide) sh79 rfl ?_
          refine s_goto E 128 dX8_speak_84 (by decide) ?_
          have hn : noPay (absM M) k := by unfold noPay; exact Or.inl h34
          have X : absM (upm (upm M 79 12 (M 79 12)) 79 11 (M 79 11 + 1)) = fWithout (absM M) := by
            rw [absM_uf1, absM_uf2]
            unfold fWithout
            rw [q51, if_neg (by omega), q52]
          have Y : KpM M (upm (upm M 79 12 (M 79 12)) 79 11 (M 79 11 + 1)) := ((KpM.rf M).upf (by decide)).upf (by decide)
          have X9 : absM (upm (upm (upm M 79 12 (M 79 12)) 79 11 (M 79 11 + 1)) 85 k (M 85 k + 1)) = fSpeak (absM M) k := by rw [absM_up4 hk, X, fSpeak_n hn, fWithout_up4, q4]
          have Y9 : KpM M (upm (upm (upm M 79 12 (M 79 12)) 79 11 (M 79 11 + 1)) 85 k (M 85 k + 1)) := Y.up (by decide)
          have Z9 := hb.speak hk hn9
          refine s_aload_n E dX8_speak_128 rfl ?_
          refine s_getR (kf := 9) E dX8_speak_129 rfl inb_X8 (Nat.le_of_ble_eq_true rfl) fl_X8_32 (by decide) sh79 rfl ?_
          refine s_iload_n E dX8_speak_132 rfl ?_
          refine s_dup2 E dX8_speak_133 ?_
          refine s_iald E dX8_speak_134 (by decide) sh85 (Nat.le_of_ble_eq_true rfl) (by omega) ?_
          simp only [upm_ne (Or.inl (show (85 : Int) ≠ 79 by decide))]
          refine s_iconst E dX8_speak_135 ?_
          refine s_iadd E dX8_speak_136 ?_
          refine s_iast E dX8_speak_137 (by decide) sh85 (Nat.le_of_ble_eq_true rfl) (by omega) ?_
          refine s_aload_n E dX8_speak_138 rfl ?_
          refine s_iload_n E dX8_speak_139 rfl ?_
          refine s_callVv E (c_X8_save _ k (n + 1) (by omega) (by rw [X9]; exact Z9)) dX8_speak_140 mf_X8_save ml_X8_103 rfl (Nat.le_of_ble_eq_true rfl) (Nat.le_of_ble_eq_true rfl) (by decide) sh79 rfl rfl (fun M140 h140 => ?_)
          obtain ⟨e140, f140⟩ := h140
          refine hret _ ?_ _ _ dX8_speak_143
          exact ⟨by rw [e140, X9], Y9.tr f140⟩
        · refine s_aload_n E dX8_speak_60 rfl ?_
          refine s_getI (kf := 10) E 10 rfl dX8_speak_61 rfl inb_X8 (Nat.le_of_ble_eq_true rfl) fl_X8_97 (by decide) sh79 rfl ?_
          refine s_goto E 71 dX8_speak_64 (by decide) ?_
          refine s_putI (kf := 12) E 12 rfl dX8_speak_71 rfl inb_X8 tyX8_ok nmX8 (Nat.le_of_ble_eq_true rfl) ⟨rfl, rfl⟩ fl_X8_100 (by decide) sh79 rfl ?_
          refine s_aload_n E dX8_speak_74 rfl ?_
          refine s_dup E dX8_speak_75 ?_
          refine s_getI (kf := 11) E 11 rfl dX8_speak_76 rfl inb_X8 (Nat.le_of_ble_eq_true rfl) fl_X8_94 (by decide) sh79 rfl ?_
          simp only [upm_ne (Or.inr (show (11 : Int) ≠ 12 by decide))]
          refine s_iconst E dX8_speak_79 ?_
          refine s_iadd E dX8_speak_80 ?_
          refine s_putI (kf := 11) E 11 rfl dX8_speak_81 rfl inb_X8 tyX8_ok nmX8 (Nat.le_of_ble_eq_true rfl) ⟨rfl, rfl⟩ fl_X8_94 (by decide) sh79 rfl ?_
          refine s_goto E 128 dX8_speak_84 (by decide) ?_
          have hn : noPay (absM M) k := by unfold noPay; exact Or.inl h34
          have X : absM (upm (upm M 79 12 (M 79 10)) 79 11 (M 79 11 + 1)) = fWithout (absM M) := by
            rw [absM_uf1, absM_uf2]
            unfold fWithout
            rw [q51, if_pos (by omega), q50]
          have Y : KpM M (upm (upm M 79 12 (M 79 10)) 79 11 (M 79 11 + 1)) := ((KpM.rf M).upf (by decide)).upf (by decide)
          have X9 : absM (upm (upm (upm M 79 12 (M 79 10)) 79 11 (M 79 11 + 1)) 85 k (M 85 k + 1)) = fSpeak (absM M) k := by rw [absM_up4 hk, X, fSpeak_n hn, fWithout_up4, q4]
          have Y9 : KpM M (upm (upm (upm M 79 12 (M 79 10)) 79 11 (M 79 11 + 1)) 85 k (M 85 k + 1)) := Y.up (by decide)
          have Z9 := hb.speak hk hn9
          refine s_aload_n E dX8_speak_128 rfl ?_
          refine s_getR (kf := 9) E dX8_speak_129 rfl inb_X8 (Nat.le_of_ble_eq_true rfl) fl_X8_32 (by decide) sh79 rfl ?_
          refine s_iload_n E dX8_speak_132 rfl ?_
          refine s_dup2 E dX8_speak_133 ?_
          refine s_iald E dX8_speak_134 (by decide) sh85 (Nat.le_of_ble_eq_true rfl) (by omega) ?_
          simp only [upm_ne (Or.inl (show (85 : Int) ≠ 79 by decide))]
          refine s_iconst E dX8_speak_135 ?_
          refine s_iadd E dX8_speak_136 ?_
          refine s_iast E dX8_speak_137 (by decide) sh85 (Nat.le_of_ble_eq_true rfl) (by omega) ?_
          refine s_aload_n E dX8_speak_138 rfl ?_
          refine s_iload_n E dX8_speak_139 rfl ?_
          refine s_callVv E (c_X8_save _ k (n + 1) (by omega) (by rw [X9]; exact Z9)) dX8_speak_140 mf_X8_save ml_X8_103 rfl (Nat.le_of_ble_eq_true rfl) (Nat.le_of_ble_eq_true rfl) (by decide) sh79 rfl rfl (fun M140 h140 => ?_)
          obtain ⟨e140, f140⟩ := h140
          refine hret _ ?_ _ _ dX8_speak_143
          exact ⟨by rw [e140, X9], Y9.tr f140⟩
      · refine s_iload_n E dX8_speak_37 rfl ?_
        refine s_if_ne E 87 dX8_speak_38 (by decide) (by omega) (fun h38 => ?_) (fun h38 => ?_)
        · exact absurd h38 (by decide)
        · refine s_aload_n E dX8_speak_41 rfl ?_
          refine s_getR (kf := 8) E dX8_speak_42 rfl inb_X8 (Nat.le_of_ble_eq_true rfl) fl_X8_29 (by decide) sh79 rfl ?_
          refine s_iconst E dX8_speak_45 ?_
          refine s_iload_n E dX8_speak_46 rfl ?_
          refine s_imul E dX8_speak_47 ?_
          refine s_iald E dX8_speak_48 (by decide) sh84 (Nat.le_of_ble_eq_true rfl) (by omega) ?_
          refine s_if_ne E 87 dX8_speak_49 (by decide) (by omega) (fun h49 => ?_) (fun h49 => ?_)
          · refine s_aload_n E dX8_speak_87 rfl ?_
            refine s_getR (kf := 8) E dX8_speak_88 rfl inb_X8 (Nat.le_of_ble_eq_true rfl) fl_X8_29 (by decide) sh79 rfl ?_
            refine s_iconst E dX8_speak_91 ?_
            refine s_iload_n E dX8_speak_92 rfl ?_
            refine s_imul E dX8_speak_93 ?_
            refine s_iconst E dX8_speak_94 ?_
            refine s_iadd E dX8_speak_95 ?_
            refine s_iload_n E dX8_speak_96 rfl ?_
            refine s_if_le E 106 dX8_speak_97 (by decide) (by omega) (fun h97 => ?_) (fun h97 => ?_)
            · refine s_iconst E dX8_speak_106 ?_
              refine s_iast E dX8_speak_107 (by decide) sh84 (Nat.le_of_ble_eq_true rfl) (by omega) ?_
              refine s_aload_n E dX8_speak_108 rfl ?_
              refine s_getR (kf := 8) E dX8_speak_109 rfl inb_X8 (Nat.le_of_ble_eq_true rfl) fl_X8_29 (by decide) sh79 rfl ?_
              refine s_iconst E dX8_speak_112 ?_
              refine s_iload_n E dX8_speak_113 rfl ?_
              refine s_imul E dX8_speak_114 ?_
              refine s_dup2 E dX8_speak_115 ?_
              refine s_iald E dX8_speak_116 (by decide) sh84 (Nat.le_of_ble_eq_true rfl) (by omega) ?_
              rw [upm_ne (Or.inr (show (4 * k : Int) ≠ 4 * k + 3 by omega))]
              refine s_iload_n E dX8_speak_117 rfl ?_
              refine s_if_eq E 125 dX8_speak_118 (by decide) (by omega) (fun h118 => ?_) (fun h118 => ?_)
              · refine s_iconst E dX8_speak_125 ?_
                refine s_isub E dX8_speak_126 ?_
                refine s_iast E dX8_speak_127 (by decide) sh84 (Nat.le_of_ble_eq_true rfl) (by omega) ?_
                have hn : ¬ noPay (absM M) k := by unfold noPay; rintro (q | q)
                                                   · exact q h34
                                                   · revert q; split <;> omega
                have X : absM (upm (upm M 84 (4 * k + 3) 0) 84 (4 * k) (M 84 (4 * k) - 1)) = fPay (absM M) k := by
                  rw [absM_up0 hk, absM_up3 hk, upm_comm (Or.inl (by decide))]
                  unfold fPay
                  rw [q0, q3, show max 0 (M 84 (4 * k + 3) - 1) = 0 by omega]
                  congr 3
                  split <;> omega
                have Y : KpM M (upm (upm M 84 (4 * k + 3) 0) 84 (4 * k) (M 84 (4 * k) - 1)) := ((KpM.rf M).up (by decide)).up (by decide)
                have X9 : absM (upm (upm (upm M 84 (4 * k + 3) 0) 84 (4 * k) (M 84 (4 * k) - 1)) 85 k (M 85 k + 1)) = fSpeak (absM M) k := by rw [absM_up4 hk, X, fSpeak_p hn, fPay_up4, q4]
                have Y9 : KpM M (upm (upm (upm M 84 (4 * k + 3) 0) 84 (4 * k) (M 84 (4 * k) - 1)) 85 k (M 85 k + 1)) := Y.up (by decide)
                have Z9 := hb.speak hk hn9
                refine s_aload_n E dX8_speak_128 rfl ?_
                refine s_getR (kf := 9) E dX8_speak_129 rfl inb_X8 (Nat.le_of_ble_eq_true rfl) fl_X8_32 (by decide) sh79 rfl ?_
                refine s_iload_n E dX8_speak_132 rfl ?_
                refine s_dup2 E dX8_speak_133 ?_
                refine s_iald E dX8_speak_134 (by decide) sh85 (Nat.le_of_ble_eq_true rfl) (by omega) ?_
                simp only [upm_ne (Or.inl (show (85 : Int) ≠ 84 by decide))]
                refine s_iconst E dX8_speak_135 ?_
                refine s_iadd E dX8_speak_136 ?_
                refine s_iast E dX8_speak_137 (by decide) sh85 (Nat.le_of_ble_eq_true rfl) (by omega) ?_
                refine s_aload_n E dX8_speak_138 rfl ?_
                refine s_iload_n E dX8_speak_139 rfl ?_
                refine s_callVv E (c_X8_save _ k (n + 1) (by omega) (by rw [X9]; exact Z9)) dX8_speak_140 mf_X8_save ml_X8_103 rfl (Nat.le_of_ble_eq_true rfl) (Nat.le_of_ble_eq_true rfl) (by decide) sh79 rfl rfl (fun M140 h140 => ?_)
                obtain ⟨e140, f140⟩ := h140
                refine hret _ ?_ _ _ dX8_speak_143
                exact ⟨by rw [e140, X9], Y9.tr f140⟩
              · exact absurd h118 (by decide)
            · refine s_iload_n E dX8_speak_100 rfl ?_
              refine s_iconst E dX8_speak_101 ?_
              refine s_isub E dX8_speak_102 ?_
              refine s_goto E 107 dX8_speak_103 (by decide) ?_
              refine s_iast E dX8_speak_107 (by decide) sh84 (Nat.le_of_ble_eq_true rfl) (by omega) ?_
              refine s_aload_n E dX8_speak_108 rfl ?_
              refine s_getR (kf := 8) E dX8_speak_109 rfl inb_X8 (Nat.le_of_ble_eq_true rfl) fl_X8_29 (by decide) sh79 rfl ?_
              refine s_iconst E dX8_speak_112 ?_
              refine s_iload_n E dX8_speak_113 rfl ?_
              refine s_imul E dX8_speak_114 ?_
              refine s_dup2 E dX8_speak_115 ?_
              refine s_iald E dX8_speak_116 (by decide) sh84 (Nat.le_of_ble_eq_true rfl) (by omega) ?_
              rw [upm_ne (Or.inr (show (4 * k : Int) ≠ 4 * k + 3 by omega))]
              refine s_iload_n E dX8_speak_117 rfl ?_
              refine s_if_eq E 125 dX8_speak_118 (by decide) (by omega) (fun h118 => ?_) (fun h118 => ?_)
              · refine s_iconst E dX8_speak_125 ?_
                refine s_isub E dX8_speak_126 ?_
                refine s_iast E dX8_speak_127 (by decide) sh84 (Nat.le_of_ble_eq_true rfl) (by omega) ?_
                have hn : ¬ noPay (absM M) k := by unfold noPay; rintro (q | q)
                                                   · exact q h34
                                                   · revert q; split <;> omega
                have X : absM (upm (upm M 84 (4 * k + 3) (M 84 (4 * k + 3) - 1)) 84 (4 * k) (M 84 (4 * k) - 1)) = fPay (absM M) k := by
                  rw [absM_up0 hk, absM_up3 hk, upm_comm (Or.inl (by decide))]
                  unfold fPay
                  rw [q0, q3, show max 0 (M 84 (4 * k + 3) - 1) = (M 84 (4 * k + 3) - 1) by omega]
                  congr 3
                  split <;> omega
                have Y : KpM M (upm (upm M 84 (4 * k + 3) (M 84 (4 * k + 3) - 1)) 84 (4 * k) (M 84 (4 * k) - 1)) := ((KpM.rf M).up (by decide)).up (by decide)
                have X9 : absM (upm (upm (upm M 84 (4 * k + 3) (M 84 (4 * k + 3) - 1)) 84 (4 * k) (M 84 (4 * k) - 1)) 85 k (M 85 k + 1)) = fSpeak (absM M) k := by rw [absM_up4 hk, X, fSpeak_p hn, fPay_up4, q4]
                have Y9 : KpM M (upm (upm (upm M 84 (4 * k + 3) (M 84 (4 * k + 3) - 1)) 84 (4 * k) (M 84 (4 * k) - 1)) 85 k (M 85 k + 1)) := Y.up (by decide)
                have Z9 := hb.speak hk hn9
                refine s_aload_n E dX8_speak_128 rfl ?_
                refine s_getR (kf := 9) E dX8_speak_129 rfl inb_X8 (Nat.le_of_ble_eq_true rfl) fl_X8_32 (by decide) sh79 rfl ?_
                refine s_iload_n E dX8_speak_132 rfl ?_
                refine s_dup2 E dX8_speak_133 ?_
                refine s_iald E dX8_speak_134 (by decide) sh85 (Nat.le_of_ble_eq_true rfl) (by omega) ?_
                simp only [upm_ne (Or.inl (show (85 : Int) ≠ 84 by decide))]
                refine s_iconst E dX8_speak_135 ?_
                refine s_iadd E dX8_speak_136 ?_
                refine s_iast E dX8_speak_137 (by decide) sh85 (Nat.le_of_ble_eq_true rfl) (by omega) ?_
                refine s_aload_n E dX8_speak_138 rfl ?_
                refine s_iload_n E dX8_speak_139 rfl ?_
                refine s_callVv E (c_X8_save _ k (n + 1) (by omega) (by rw [X9]; exact Z9)) dX8_speak_140 mf_X8_save ml_X8_103 rfl (Nat.le_of_ble_eq_true rfl) (Nat.le_of_ble_eq_true rfl) (by decide) sh79 rfl rfl (fun M140 h140 => ?_)
                obtain ⟨e140, f140⟩ := h140
                refine hret _ ?_ _ _ dX8_speak_143
                exact ⟨by rw [e140, X9], Y9.tr f140⟩
              · exact absurd h118 (by decide)
          · refine s_aload_n E dX8_speak_52 rfl ?_
            refine s_aload_n E dX8_speak_53 rfl ?_
            refine s_getI (kf := 11) E 11 rfl dX8_speak_54 rfl inb_X8 (Nat.le_of_ble_eq_true rfl) fl_X8_94 (by decide) sh79 rfl ?_
            refine s_if_ne E 67 dX8_speak_57 (by decide) (by omega) (fun h57 => ?_) (fun h57 => ?_)
            · refine s_aload_n E dX8_speak_67 rfl ?_
              refine s_getI (kf := 12) E 12 rfl dX8_speak_68 rfl inb_X8 (Nat.le_of_ble_eq_true rfl) fl_X8_100 (by decide) sh79 rfl ?_
              refine s_putI (kf := 12) E 12 rfl dX8_speak_71 rfl inb_X8 tyX8_ok nmX8 (Nat.le_of_ble_eq_true rfl) ⟨rfl, rfl⟩ fl_X8_100 (by decide) sh79 rfl ?_
              refine s_aload_n E dX8_speak_74 rfl ?_
              refine s_dup E dX8_speak_75 ?_
              refine s_getI (kf := 11) E 11 rfl dX8_speak_76 rfl inb_X8 (Nat.le_of_ble_eq_true rfl) fl_X8_94 (by decide) sh79 rfl ?_
              simp only [upm_ne (Or.inr (show (11 : Int) ≠ 12 by decide))]
              refine s_iconst E dX8_speak_79 ?_
              refine s_iadd E dX8_speak_80 ?_
              refine s_putI (kf := 11) E 11 rfl dX8_speak_81 rfl inb_X8 tyX8_ok nmX8 (Nat.le_of_ble_eq_true rfl) ⟨rfl, rfl⟩ fl_X8_94 (by decide) sh79 rfl ?_
              refine s_goto E 128 dX8_speak_84 (by decide) ?_
              have hn : noPay (absM M) k := by unfold noPay; exact Or.inr (by split <;> omega)
              have X : absM (upm (upm M 79 12 (M 79 12)) 79 11 (M 79 11 + 1)) = fWithout (absM M) := by
                rw [absM_uf1, absM_uf2]
                unfold fWithout
                rw [q51, if_neg (by omega), q52]
              have Y : KpM M (upm (upm M 79 12 (M 79 12)) 79 11 (M 79 11 + 1)) := ((KpM.rf M).upf (by decide)).upf (by decide)
              have X9 : absM (upm (upm (upm M 79 12 (M 79 12)) 79 11 (M 79 11 + 1)) 85 k (M 85 k + 1)) = fSpeak (absM M) k := by rw [absM_up4 hk, X, fSpeak_n hn, fWithout_up4, q4]
              have Y9 : KpM M (upm (upm (upm M 79 12 (M 79 12)) 79 11 (M 79 11 + 1)) 85 k (M 85 k + 1)) := Y.up (by decide)
              have Z9 := hb.speak hk hn9
              refine s_aload_n E dX8_speak_128 rfl ?_
              refine s_getR (kf := 9) E dX8_speak_129 rfl inb_X8 (Nat.le_of_ble_eq_true rfl) fl_X8_32 (by decide) sh79 rfl ?_
              refine s_iload_n E dX8_speak_132 rfl ?_
              refine s_dup2 E dX8_speak_133 ?_
              refine s_iald E dX8_speak_134 (by decide) sh85 (Nat.le_of_ble_eq_true rfl) (by omega) ?_
              simp only [upm_ne (Or.inl (show (85 : Int) ≠ 79 by decide))]
              refine s_iconst E dX8_speak_135 ?_
              refine s_iadd E dX8_speak_136 ?_
              refine s_iast E dX8_speak_137 (by decide) sh85 (Nat.le_of_ble_eq_true rfl) (by omega) ?_
              refine s_aload_n E dX8_speak_138 rfl ?_
              refine s_iload_n E dX8_speak_139 rfl ?_
              refine s_callVv E (c_X8_save _ k (n + 1) (by omega) (by rw [X9]; exact Z9)) dX8_speak_140 mf_X8_save ml_X8_103 rfl (Nat.le_of_ble_eq_true rfl) (Nat.le_of_ble_eq_true rfl) (by decide) sh79 rfl rfl (fun M140 h140 => ?_)
              obtain ⟨e140, f140⟩ := h140
              refine hret _ ?_ _ _ dX8_speak_143
              exact ⟨by rw [e140, X9], Y9.tr f140⟩
            · refine s_aload_n E dX8_speak_60 rfl ?_
              refine s_getI (kf := 10) E 10 rfl dX8_speak_61 rfl inb_X8 (Nat.le_of_ble_eq_true rfl) fl_X8_97 (by decide) sh79 rfl ?_
              refine s_goto E 71 dX8_speak_64 (by decide) ?_
              refine s_putI (kf := 12) E 12 rfl dX8_speak_71 rfl inb_X8 tyX8_ok nmX8 (Nat.le_of_ble_eq_true rfl) ⟨rfl, rfl⟩ fl_X8_100 (by decide) sh79 rfl ?_
              refine s_aload_n E dX8_speak_74 rfl ?_
              refine s_dup E dX8_speak_75 ?_
              refine s_getI (kf := 11) E 11 rfl dX8_speak_76 rfl inb_X8 (Nat.le_of_ble_eq_true rfl) fl_X8_94 (by decide) sh79 rfl ?_
              simp only [upm_ne (Or.inr (show (11 : Int) ≠ 12 by decide))]
              refine s_iconst E dX8_speak_79 ?_
              refine s_iadd E dX8_speak_80 ?_
              refine s_putI (kf := 11) E 11 rfl dX8_speak_81 rfl inb_X8 tyX8_ok nmX8 (Nat.le_of_ble_eq_true rfl) ⟨rfl, rfl⟩ fl_X8_94 (by decide) sh79 rfl ?_
              refine s_goto E 128 dX8_speak_84 (by decide) ?_
              have hn : noPay (absM M) k := by unfold noPay; exact Or.inr (by split <;> omega)
              have X : absM (upm (upm M 79 12 (M 79 10)) 79 11 (M 79 11 + 1)) = fWithout (absM M) := by
                rw [absM_uf1, absM_uf2]
                unfold fWithout
                rw [q51, if_pos (by omega), q50]
              have Y : KpM M (upm (upm M 79 12 (M 79 10)) 79 11 (M 79 11 + 1)) := ((KpM.rf M).upf (by decide)).upf (by decide)
              have X9 : absM (upm (upm (upm M 79 12 (M 79 10)) 79 11 (M 79 11 + 1)) 85 k (M 85 k + 1)) = fSpeak (absM M) k := by rw [absM_up4 hk, X, fSpeak_n hn, fWithout_up4, q4]
              have Y9 : KpM M (upm (upm (upm M 79 12 (M 79 10)) 79 11 (M 79 11 + 1)) 85 k (M 85 k + 1)) := Y.up (by decide)
              have Z9 := hb.speak hk hn9
              refine s_aload_n E dX8_speak_128 rfl ?_
              refine s_getR (kf := 9) E dX8_speak_129 rfl inb_X8 (Nat.le_of_ble_eq_true rfl) fl_X8_32 (by decide) sh79 rfl ?_
              refine s_iload_n E dX8_speak_132 rfl ?_
              refine s_dup2 E dX8_speak_133 ?_
              refine s_iald E dX8_speak_134 (by decide) sh85 (Nat.le_of_ble_eq_true rfl) (by omega) ?_
              simp only [upm_ne (Or.inl (show (85 : Int) ≠ 79 by decide))]
              refine s_iconst E dX8_speak_135 ?_
              refine s_iadd E dX8_speak_136 ?_
              refine s_iast E dX8_speak_137 (by decide) sh85 (Nat.le_of_ble_eq_true rfl) (by omega) ?_
              refine s_aload_n E dX8_speak_138 rfl ?_
              refine s_iload_n E dX8_speak_139 rfl ?_
              refine s_callVv E (c_X8_save _ k (n + 1) (by omega) (by rw [X9]; exact Z9)) dX8_speak_140 mf_X8_save ml_X8_103 rfl (Nat.le_of_ble_eq_true rfl) (Nat.le_of_ble_eq_true rfl) (by decide) sh79 rfl rfl (fun M140 h140 => ?_)
              obtain ⟨e140, f140⟩ := h140
              refine hret _ ?_ _ _ dX8_speak_143
              exact ⟨by rw [e140, X9], Y9.tr f140⟩
    · refine s_iconst E dX8_speak_23 ?_
      refine s_goto E 28 dX8_speak_24 (by decide) ?_
      refine s_istore_n (ls' := [_, _, _, _]) E dX8_speak_28 (Nat.le_of_ble_eq_true rfl) rfl ?_
      refine s_aload_n E dX8_speak_29 rfl ?_
      refine s_iload_n E dX8_speak_30 rfl ?_
      refine s_callVi E (c_X8_listens _ _ _ (by omega) hb) dX8_speak_31 mf_X8_listens ml_X8_91 rfl (Nat.le_of_ble_eq_true rfl) (Nat.le_of_ble_eq_true rfl) (by decide) sh79 rfl rfl (fun r31 M31 h31 => ?_)
      obtain ⟨e31, f31⟩ := h31; subst r31; subst M31
      refine s_ifeqB E 52 dX8_speak_34 (by decide) (fun h34 => ?_) (fun h34 => ?_)
      · refine s_aload_n E dX8_speak_52 rfl ?_
        refine s_aload_n E dX8_speak_53 rfl ?_
        refine s_getI (kf := 11) E 11 rfl dX8_speak_54 rfl inb_X8 (Nat.le_of_ble_eq_true rfl) fl_X8_94 (by decide) sh79 rfl ?_
        refine s_if_ne E 67 dX8_speak_57 (by decide) (by omega) (fun h57 => ?_) (fun h57 => ?_)
        · refine s_aload_n E dX8_speak_67 rfl ?_
          refine s_getI (kf := 12) E 12 rfl dX8_speak_68 rfl inb_X8 (Nat.le_of_ble_eq_true rfl) fl_X8_100 (by decide) sh79 rfl ?_
          refine s_putI (kf := 12) E 12 rfl dX8_speak_71 rfl inb_X8 tyX8_ok nmX8 (Nat.le_of_ble_eq_true rfl) ⟨rfl, rfl⟩ fl_X8_100 (by decide) sh79 rfl ?_
          refine s_aload_n E dX8_speak_74 rfl ?_
          refine s_dup E dX8_speak_75 ?_
          refine s_getI (kf := 11) E 11 rfl dX8_speak_76 rfl inb_X8 (Nat.le_of_ble_eq_true rfl) fl_X8_94 (by decide) sh79 rfl ?_
          simp only [upm_ne (Or.inr (show (11 : Int) ≠ 12 by decide))]
          refine s_iconst E dX8_speak_79 ?_
          refine s_iadd E dX8_speak_80 ?_
          refine s_putI (kf := 11) E 11 rfl dX8_speak_81 rfl inb_X8 tyX8_ok nmX8 (Nat.le_of_ble_eq_true rfl) ⟨rfl, rfl⟩ fl_X8_94 (by decide) sh79 rfl ?_
          refine s_goto E 128 dX8_speak_84 (by decide) ?_
          have hn : noPay (absM M) k := by unfold noPay; exact Or.inl h34
          have X : absM (upm (upm M 79 12 (M 79 12)) 79 11 (M 79 11 + 1)) = fWithout (absM M) := by
            rw [absM_uf1, absM_uf2]
            unfold fWithout
            rw [q51, if_neg (by omega), q52]
          have Y : KpM M (upm (upm M 79 12 (M 79 12)) 79 11 (M 79 11 + 1)) := ((KpM.rf M).upf (by decide)).upf (by decide)
          have X9 : absM (upm (upm (upm M 79 12 (M 79 12)) 79 11 (M 79 11 + 1)) 85 k (M 85 k + 1)) = fSpeak (absM M) k := by rw [absM_up4 hk, X, fSpeak_n hn, fWithout_up4, q4]
          have Y9 : KpM M (upm (upm (upm M 79 12 (M 79 12)) 79 11 (M 79 11 + 1)) 85 k (M 85 k + 1)) := Y.up (by decide)
          have Z9 := hb.speak hk hn9
          refine s_aload_n E dX8_speak_128 rfl ?_
          refine s_getR (kf := 9) E dX8_speak_129 rfl inb_X8 (Nat.le_of_ble_eq_true rfl) fl_X8_32 (by decide) sh79 rfl ?_
          refine s_iload_n E dX8_speak_132 rfl ?_
          refine s_dup2 E dX8_speak_133 ?_
          refine s_iald E dX8_speak_134 (by decide) sh85 (Nat.le_of_ble_eq_true rfl) (by omega) ?_
          simp only [upm_ne (Or.inl (show (85 : Int) ≠ 79 by decide))]
          refine s_iconst E dX8_speak_135 ?_
          refine s_iadd E dX8_speak_136 ?_
          refine s_iast E dX8_speak_137 (by decide) sh85 (Nat.le_of_ble_eq_true rfl) (by omega) ?_
          refine s_aload_n E dX8_speak_138 rfl ?_
          refine s_iload_n E dX8_speak_139 rfl ?_
          refine s_callVv E (c_X8_save _ k (n + 1) (by omega) (by rw [X9]; exact Z9)) dX8_speak_140 mf_X8_save ml_X8_103 rfl (Nat.le_of_ble_eq_true rfl) (Nat.le_of_ble_eq_true rfl) (by decide) sh79 rfl rfl (fun M140 h140 => ?_)
          obtain ⟨e140, f140⟩ := h140
          refine hret _ ?_ _ _ dX8_speak_143
          exact ⟨by rw [e140, X9], Y9.tr f140⟩
        · refine s_aload_n E dX8_speak_60 rfl ?_
          refine s_getI (kf := 10) E 10 rfl dX8_speak_61 rfl inb_X8 (Nat.le_of_ble_eq_true rfl) fl_X8_97 (by decide) sh79 rfl ?_
          refine s_goto E 71 dX8_speak_64 (by decide) ?_
          refine s_putI (kf := 12) E 12 rfl dX8_speak_71 rfl inb_X8 tyX8_ok nmX8 (Nat.le_of_ble_eq_true rfl) ⟨rfl, rfl⟩ fl_X8_100 (by decide) sh79 rfl ?_
          refine s_aload_n E dX8_speak_74 rfl ?_
          refine s_dup E dX8_speak_75 ?_
          refine s_getI (kf := 11) E 11 rfl dX8_speak_76 rfl inb_X8 (Nat.le_of_ble_eq_true rfl) fl_X8_94 (by decide) sh79 rfl ?_
          simp only [upm_ne (Or.inr (show (11 : Int) ≠ 12 by decide))]
          refine s_iconst E dX8_speak_79 ?_
          refine s_iadd E dX8_speak_80 ?_
          refine s_putI (kf := 11) E 11 rfl dX8_speak_81 rfl inb_X8 tyX8_ok nmX8 (Nat.le_of_ble_eq_true rfl) ⟨rfl, rfl⟩ fl_X8_94 (by decide) sh79 rfl ?_
          refine s_goto E 128 dX8_speak_84 (by decide) ?_
          have hn : noPay (absM M) k := by unfold noPay; exact Or.inl h34
          have X : absM (upm (upm M 79 12 (M 79 10)) 79 11 (M 79 11 + 1)) = fWithout (absM M) := by
            rw [absM_uf1, absM_uf2]
            unfold fWithout
            rw [q51, if_pos (by omega), q50]
          have Y : KpM M (upm (upm M 79 12 (M 79 10)) 79 11 (M 79 11 + 1)) := ((KpM.rf M).upf (by decide)).upf (by decide)
          have X9 : absM (upm (upm (upm M 79 12 (M 79 10)) 79 11 (M 79 11 + 1)) 85 k (M 85 k + 1)) = fSpeak (absM M) k := by rw [absM_up4 hk, X, fSpeak_n hn, fWithout_up4, q4]
          have Y9 : KpM M (upm (upm (upm M 79 12 (M 79 10)) 79 11 (M 79 11 + 1)) 85 k (M 85 k + 1)) := Y.up (by decide)
          have Z9 := hb.speak hk hn9
          refine s_aload_n E dX8_speak_128 rfl ?_
          refine s_getR (kf := 9) E dX8_speak_129 rfl inb_X8 (Nat.le_of_ble_eq_true rfl) fl_X8_32 (by decide) sh79 rfl ?_
          refine s_iload_n E dX8_speak_132 rfl ?_
          refine s_dup2 E dX8_speak_133 ?_
          refine s_iald E dX8_speak_134 (by decide) sh85 (Nat.le_of_ble_eq_true rfl) (by omega) ?_
          simp only [upm_ne (Or.inl (show (85 : Int) ≠ 79 by decide))]
          refine s_iconst E dX8_speak_135 ?_
          refine s_iadd E dX8_speak_136 ?_
          refine s_iast E dX8_speak_137 (by decide) sh85 (Nat.le_of_ble_eq_true rfl) (by omega) ?_
          refine s_aload_n E dX8_speak_138 rfl ?_
          refine s_iload_n E dX8_speak_139 rfl ?_
          refine s_callVv E (c_X8_save _ k (n + 1) (by omega) (by rw [X9]; exact Z9)) dX8_speak_140 mf_X8_save ml_X8_103 rfl (Nat.le_of_ble_eq_true rfl) (Nat.le_of_ble_eq_true rfl) (by decide) sh79 rfl rfl (fun M140 h140 => ?_)
          obtain ⟨e140, f140⟩ := h140
          refine hret _ ?_ _ _ dX8_speak_143
          exact ⟨by rw [e140, X9], Y9.tr f140⟩
      · refine s_iload_n E dX8_speak_37 rfl ?_
        refine s_if_ne E 87 dX8_speak_38 (by decide) (by omega) (fun h38 => ?_) (fun h38 => ?_)
        · refine s_aload_n E dX8_speak_87 rfl ?_
          refine s_getR (kf := 8) E dX8_speak_88 rfl inb_X8 (Nat.le_of_ble_eq_true rfl) fl_X8_29 (by decide) sh79 rfl ?_
          refine s_iconst E dX8_speak_91 ?_
          refine s_iload_n E dX8_speak_92 rfl ?_
          refine s_imul E dX8_speak_93 ?_
          refine s_iconst E dX8_speak_94 ?_
          refine s_iadd E dX8_speak_95 ?_
          refine s_iload_n E dX8_speak_96 rfl ?_
          refine s_if_le E 106 dX8_speak_97 (by decide) (by omega) (fun h97 => ?_) (fun h97 => ?_)
          · refine s_iconst E dX8_speak_106 ?_
            refine s_iast E dX8_speak_107 (by decide) sh84 (Nat.le_of_ble_eq_true rfl) (by omega) ?_
            refine s_aload_n E dX8_speak_108 rfl ?_
            refine s_getR (kf := 8) E dX8_speak_109 rfl inb_X8 (Nat.le_of_ble_eq_true rfl) fl_X8_29 (by decide) sh79 rfl ?_
            refine s_iconst E dX8_speak_112 ?_
            refine s_iload_n E dX8_speak_113 rfl ?_
            refine s_imul E dX8_speak_114 ?_
            refine s_dup2 E dX8_speak_115 ?_
            refine s_iald E dX8_speak_116 (by decide) sh84 (Nat.le_of_ble_eq_true rfl) (by omega) ?_
            rw [upm_ne (Or.inr (show (4 * k : Int) ≠ 4 * k + 3 by omega))]
            refine s_iload_n E dX8_speak_117 rfl ?_
            refine s_if_eq E 125 dX8_speak_118 (by decide) (by omega) (fun h118 => ?_) (fun h118 => ?_)
            · exact absurd h118 (by decide)
            · refine s_iconst E dX8_speak_121 ?_
              refine s_goto E 126 dX8_speak_122 (by decide) ?_
              refine s_isub E dX8_speak_126 ?_
              refine s_iast E dX8_speak_127 (by decide) sh84 (Nat.le_of_ble_eq_true rfl) (by omega) ?_
              have hn : ¬ noPay (absM M) k := by unfold noPay; rintro (q | q)
                                                 · exact q h34
                                                 · revert q; split <;> omega
              have X : absM (upm (upm M 84 (4 * k + 3) 0) 84 (4 * k) (M 84 (4 * k) - 0)) = fPay (absM M) k := by
                rw [absM_up0 hk, absM_up3 hk, upm_comm (Or.inl (by decide))]
                unfold fPay
                rw [q0, q3, show max 0 (M 84 (4 * k + 3) - 1) = 0 by omega]
                congr 3
                split <;> omega
              have Y : KpM M (upm (upm M 84 (4 * k + 3) 0) 84 (4 * k) (M 84 (4 * k) - 0)) := ((KpM.rf M).up (by decide)).up (by decide)
              have X9 : absM (upm (upm (upm M 84 (4 * k + 3) 0) 84 (4 * k) (M 84 (4 * k) - 0)) 85 k (M 85 k + 1)) = fSpeak (absM M) k := by rw [absM_up4 hk, X, fSpeak_p hn, fPay_up4, q4]
              have Y9 : KpM M (upm (upm (upm M 84 (4 * k + 3) 0) 84 (4 * k) (M 84 (4 * k) - 0)) 85 k (M 85 k + 1)) := Y.up (by decide)
              have Z9 := hb.speak hk hn9
              refine s_aload_n E dX8_speak_128 rfl ?_
              refine s_getR (kf := 9) E dX8_speak_129 rfl inb_X8 (Nat.le_of_ble_eq_true rfl) fl_X8_32 (by decide) sh79 rfl ?_
              refine s_iload_n E dX8_speak_132 rfl ?_
              refine s_dup2 E dX8_speak_133 ?_
              refine s_iald E dX8_speak_134 (by decide) sh85 (Nat.le_of_ble_eq_true rfl) (by omega) ?_
              simp only [upm_ne (Or.inl (show (85 : Int) ≠ 84 by decide))]
              refine s_iconst E dX8_speak_135 ?_
              refine s_iadd E dX8_speak_136 ?_
              refine s_iast E dX8_speak_137 (by decide) sh85 (Nat.le_of_ble_eq_true rfl) (by omega) ?_
              refine s_aload_n E dX8_speak_138 rfl ?_
              refine s_iload_n E dX8_speak_139 rfl ?_
              refine s_callVv E (c_X8_save _ k (n + 1) (by omega) (by rw [X9]; exact Z9)) dX8_speak_140 mf_X8_save ml_X8_103 rfl (Nat.le_of_ble_eq_true rfl) (Nat.le_of_ble_eq_true rfl) (by decide) sh79 rfl rfl (fun M140 h140 => ?_)
              obtain ⟨e140, f140⟩ := h140
              refine hret _ ?_ _ _ dX8_speak_143
              exact ⟨by rw [e140, X9], Y9.tr f140⟩
          · refine s_iload_n E dX8_speak_100 rfl ?_
            refine s_iconst E dX8_speak_101 ?_
            refine s_isub E dX8_speak_102 ?_
            refine s_goto E 107 dX8_speak_103 (by decide) ?_
            refine s_iast E dX8_speak_107 (by decide) sh84 (Nat.le_of_ble_eq_true rfl) (by omega) ?_
            refine s_aload_n E dX8_speak_108 rfl ?_
            refine s_getR (kf := 8) E dX8_speak_109 rfl inb_X8 (Nat.le_of_ble_eq_true rfl) fl_X8_29 (by decide) sh79 rfl ?_
            refine s_iconst E dX8_speak_112 ?_
            refine s_iload_n E dX8_speak_113 rfl ?_
            refine s_imul E dX8_speak_114 ?_
            refine s_dup2 E dX8_speak_115 ?_
            refine s_iald E dX8_speak_116 (by decide) sh84 (Nat.le_of_ble_eq_true rfl) (by omega) ?_
            rw [upm_ne (Or.inr (show (4 * k : Int) ≠ 4 * k + 3 by omega))]
            refine s_iload_n E dX8_speak_117 rfl ?_
            refine s_if_eq E 125 dX8_speak_118 (by decide) (by omega) (fun h118 => ?_) (fun h118 => ?_)
            · exact absurd h118 (by decide)
            · refine s_iconst E dX8_speak_121 ?_
              refine s_goto E 126 dX8_speak_122 (by decide) ?_
              refine s_isub E dX8_speak_126 ?_
              refine s_iast E dX8_speak_127 (by decide) sh84 (Nat.le_of_ble_eq_true rfl) (by omega) ?_
              have hn : ¬ noPay (absM M) k := by unfold noPay; rintro (q | q)
                                                 · exact q h34
                                                 · revert q; split <;> omega
              have X : absM (upm (upm M 84 (4 * k + 3) (M 84 (4 * k + 3) - 1)) 84 (4 * k) (M 84 (4 * k) - 0)) = fPay (absM M) k := by
                rw [absM_up0 hk, absM_up3 hk, upm_comm (Or.inl (by decide))]
                unfold fPay
                rw [q0, q3, show max 0 (M 84 (4 * k + 3) - 1) = (M 84 (4 * k + 3) - 1) by omega]
                congr 3
                split <;> omega
              have Y : KpM M (upm (upm M 84 (4 * k + 3) (M 84 (4 * k + 3) - 1)) 84 (4 * k) (M 84 (4 * k) - 0)) := ((KpM.rf M).up (by decide)).up (by decide)
              have X9 : absM (upm (upm (upm M 84 (4 * k + 3) (M 84 (4 * k + 3) - 1)) 84 (4 * k) (M 84 (4 * k) - 0)) 85 k (M 85 k + 1)) = fSpeak (absM M) k := by rw [absM_up4 hk, X, fSpeak_p hn, fPay_up4, q4]
              have Y9 : KpM M (upm (upm (upm M 84 (4 * k + 3) (M 84 (4 * k + 3) - 1)) 84 (4 * k) (M 84 (4 * k) - 0)) 85 k (M 85 k + 1)) := Y.up (by decide)
              have Z9 := hb.speak hk hn9
              refine s_aload_n E dX8_speak_128 rfl ?_
              refine s_getR (kf := 9) E dX8_speak_129 rfl inb_X8 (Nat.le_of_ble_eq_true rfl) fl_X8_32 (by decide) sh79 rfl ?_
              refine s_iload_n E dX8_speak_132 rfl ?_
              refine s_dup2 E dX8_speak_133 ?_
              refine s_iald E dX8_speak_134 (by decide) sh85 (Nat.le_of_ble_eq_true rfl) (by omega) ?_
              simp only [upm_ne (Or.inl (show (85 : Int) ≠ 84 by decide))]
              refine s_iconst E dX8_speak_135 ?_
              refine s_iadd E dX8_speak_136 ?_
              refine s_iast E dX8_speak_137 (by decide) sh85 (Nat.le_of_ble_eq_true rfl) (by omega) ?_
              refine s_aload_n E dX8_speak_138 rfl ?_
              refine s_iload_n E dX8_speak_139 rfl ?_
              refine s_callVv E (c_X8_save _ k (n + 1) (by omega) (by rw [X9]; exact Z9)) dX8_speak_140 mf_X8_save ml_X8_103 rfl (Nat.le_of_ble_eq_true rfl) (Nat.le_of_ble_eq_true rfl) (by decide) sh79 rfl rfl (fun M140 h140 => ?_)
              obtain ⟨e140, f140⟩ := h140
              refine hret _ ?_ _ _ dX8_speak_143
              exact ⟨by rw [e140, X9], Y9.tr f140⟩
        · exact absurd h38 (by decide)

set_option maxRecDepth 100000 in
set_option maxHeartbeats 4000000 in
theorem c_X8_act (M : Mm) (h k n : Int) (hh : h = 122 ∨ h = 121 ∨ h = 120 ∨ h = 105 ∨ h = 107) (hk : 0 ≤ k ∧ k < 6) (hco : 0 ≤ M 79 1 ∧ M 79 1 ≤ 99) (hb : SB (absM M) n) : CtV yX8_act cX8_act 4 2 SH [rv 79, iv h, iv k] M (fun M' => absM M' = fStir h k (M 79 1) (absM M) ∧ KpM M M') := by
  refine CtV.of rfl (Nat.le_of_ble_eq_true rfl) (fun v as E hret => ?_)
  show Ws v as SH 0 0 0 [some (rv 79), some (iv h), some (iv k), none] [] M
  have q0 := absM_rd0 (M := M) hk; have q1 := absM_rd1 (M := M) hk; have q2 := absM_rd2 (M := M) hk; have q3 := absM_rd3 (M := M) hk
  have b0 := hb.1 k hk.1 hk.2
  refine s_iconst E dX8_act_0 ?_
  refine s_iload_n E dX8_act_1 rfl ?_
  refine s_imul E dX8_act_2 ?_
  refine s_istore_n (ls' := [_, _, _, _]) E dX8_act_3 (Nat.le_of_ble_eq_true rfl) rfl ?_
  refine s_iload_n E dX8_act_4 rfl ?_
  refine s_lcase E (105) 100 dX8_act_5 (by decide) rfl rfl (by decide) (fun h5_105 => ?_) (fun h5_105 => ?_)
  · refine s_aload_n E dX8_act_100 rfl ?_
    refine s_getR (kf := 8) E dX8_act_101 rfl inb_X8 (Nat.le_of_ble_eq_true rfl) fl_X8_29 (by decide) sh79 rfl ?_
    refine s_iload_n E dX8_act_104 rfl ?_
    refine s_iconst E dX8_act_105 ?_
    refine s_iadd E dX8_act_106 ?_
    refine s_iconst E dX8_act_107 ?_
    refine s_iast E dX8_act_108 (by decide) sh84 (Nat.le_of_ble_eq_true rfl) (by omega) ?_
    refine s_aload_n E dX8_act_109 rfl ?_
    refine s_getR (kf := 8) E dX8_act_110 rfl inb_X8 (Nat.le_of_ble_eq_true rfl) fl_X8_29 (by decide) sh79 rfl ?_
    refine s_iload_n E dX8_act_113 rfl ?_
    refine s_iconst E dX8_act_114 ?_
    refine s_iadd E dX8_act_115 ?_
    refine s_iconst E dX8_act_116 ?_
    refine s_iast E dX8_act_117 (by decide) sh84 (Nat.le_of_ble_eq_true rfl) (by omega) ?_
    refine s_goto E 167 dX8_act_118 (by decide) ?_
    refine hret _ ?_ _ _ dX8_act_167
    unfold fStir
    exact ⟨by rw [if_neg (by omega), if_neg (by omega), if_neg (by omega), if_pos (by omega), absM_up2 hk, absM_up1 hk], ((KpM.rf M).up (by decide)).up (by decide)⟩
  refine s_lcase E (120) 72 dX8_act_5 (by decide) rfl rfl (by decide) (fun h5_120 => ?_) (fun h5_120 => ?_)
  · refine s_aload_n E dX8_act_72 rfl ?_
    refine s_getR (kf := 8) E dX8_act_73 rfl inb_X8 (Nat.le_of_ble_eq_true rfl) fl_X8_29 (by decide) sh79 rfl ?_
    refine s_iload_n E dX8_act_76 rfl ?_
    refine s_iconst E dX8_act_77 ?_
    refine s_iast E dX8_act_78 (by decide) sh84 (Nat.le_of_ble_eq_true rfl) (by omega) ?_
    refine s_aload_n E dX8_act_79 rfl ?_
    refine s_getR (kf := 8) E dX8_act_80 rfl inb_X8 (Nat.le_of_ble_eq_true rfl) fl_X8_29 (by decide) sh79 rfl ?_
    refine s_iload_n E dX8_act_83 rfl ?_
    refine s_iconst E dX8_act_84 ?_
    refine s_iadd E dX8_act_85 ?_
    refine s_iconst E dX8_act_86 ?_
    refine s_iast E dX8_act_87 (by decide) sh84 (Nat.le_of_ble_eq_true rfl) (by omega) ?_
    refine s_aload_n E dX8_act_88 rfl ?_
    refine s_getR (kf := 8) E dX8_act_89 rfl inb_X8 (Nat.le_of_ble_eq_true rfl) fl_X8_29 (by decide) sh79 rfl ?_
    refine s_iload_n E dX8_act_92 rfl ?_
    refine s_iconst E dX8_act_93 ?_
    refine s_iadd E dX8_act_94 ?_
    refine s_iconst E dX8_act_95 ?_
    refine s_iast E dX8_act_96 (by decide) sh84 (Nat.le_of_ble_eq_true rfl) (by omega) ?_
    refine s_goto E 167 dX8_act_97 (by decide) ?_
    refine hret _ ?_ _ _ dX8_act_167
    unfold fStir
    exact ⟨by rw [if_neg (by omega), if_neg (by omega), if_pos (by omega), absM_up3 hk, absM_up1 hk, absM_up0 hk, upm_comm (a := 0) (a' := 1) (Or.inl (by decide))], (((KpM.rf M).up (by decide)).up (by decide)).up (by decide)⟩
  refine s_lcase E (121) 60 dX8_act_5 (by decide) rfl rfl (by decide) (fun h5_121 => ?_) (fun h5_121 => ?_)
  · refine s_aload_n E dX8_act_60 rfl ?_
    refine s_getR (kf := 8) E dX8_act_61 rfl inb_X8 (Nat.le_of_ble_eq_true rfl) fl_X8_29 (by decide) sh79 rfl ?_
    refine s_iload_n E dX8_act_64 rfl ?_
    refine s_iconst E dX8_act_65 ?_
    refine s_iadd E dX8_act_66 ?_
    refine s_iconst E dX8_act_67 ?_
    refine s_iast E dX8_act_68 (by decide) sh84 (Nat.le_of_ble_eq_true rfl) (by omega) ?_
    refine s_goto E 167 dX8_act_69 (by decide) ?_
    refine hret _ ?_ _ _ dX8_act_167
    unfold fStir
    exact ⟨by rw [if_neg (by omega), if_pos (by omega), absM_up2 hk], (KpM.rf M).up (by decide)⟩
  refine s_lcase E (122) 48 dX8_act_5 (by decide) rfl rfl (by decide) (fun h5_122 => ?_) (fun h5_122 => ?_)
  · refine s_aload_n E dX8_act_48 rfl ?_
    refine s_getR (kf := 8) E dX8_act_49 rfl inb_X8 (Nat.le_of_ble_eq_true rfl) fl_X8_29 (by decide) sh79 rfl ?_
    refine s_iload_n E dX8_act_52 rfl ?_
    refine s_iconst E dX8_act_53 ?_
    refine s_iadd E dX8_act_54 ?_
    refine s_iconst E dX8_act_55 ?_
    refine s_iast E dX8_act_56 (by decide) sh84 (Nat.le_of_ble_eq_true rfl) (by omega) ?_
    refine s_goto E 167 dX8_act_57 (by decide) ?_
    refine hret _ ?_ _ _ dX8_act_167
    unfold fStir
    exact ⟨by rw [if_pos (by omega), absM_up2 hk], (KpM.rf M).up (by decide)⟩
  refine s_lout E 121 dX8_act_5 (by omega) rfl ((if_neg (Ne.symm h5_105)).trans ((if_neg (Ne.symm h5_120)).trans ((if_neg (Ne.symm h5_121)).trans ((if_neg (Ne.symm h5_122)).trans rfl)))) (by decide) ?_
  refine s_aload_n E dX8_act_121 rfl ?_
  refine s_getR (kf := 8) E dX8_act_122 rfl inb_X8 (Nat.le_of_ble_eq_true rfl) fl_X8_29 (by decide) sh79 rfl ?_
  refine s_iload_n E dX8_act_125 rfl ?_
  refine s_iconst E dX8_act_126 ?_
  refine s_iadd E dX8_act_127 ?_
  refine s_iald E dX8_act_128 (by decide) sh84 (Nat.le_of_ble_eq_true rfl) (by omega) ?_
  refine s_iconst E dX8_act_129 ?_
  refine s_icmp_ne E 167 dX8_act_130 (by decide) (by omega) (by omega) (fun h130 => ?_) (fun h130 => ?_)
  · refine hret _ ?_ _ _ dX8_act_167
    unfold fStir
    exact ⟨by rw [if_neg (by omega), if_neg (by omega), if_neg (by omega), if_neg (by omega), if_neg (by omega)], KpM.rf M⟩
  · refine s_aload_n E dX8_act_133 rfl ?_
    refine s_getR (kf := 8) E dX8_act_134 rfl inb_X8 (Nat.le_of_ble_eq_true rfl) fl_X8_29 (by decide) sh79 rfl ?_
    refine s_iload_n E dX8_act_137 rfl ?_
    refine s_aload_n E dX8_act_138 rfl ?_
    refine s_getR (kf := 8) E dX8_act_139 rfl inb_X8 (Nat.le_of_ble_eq_true rfl) fl_X8_29 (by decide) sh79 rfl ?_
    refine s_iload_n E dX8_act_142 rfl ?_
    refine s_iald E dX8_act_143 (by decide) sh84 (Nat.le_of_ble_eq_true rfl) (by omega) ?_
    refine s_aload_n E dX8_act_144 rfl ?_
    refine s_getI (kf := 1) E 1 rfl dX8_act_145 rfl inb_X8 (Nat.le_of_ble_eq_true rfl) fl_X8_13 (by decide) sh79 rfl ?_
    refine s_icmp_ge E 155 dX8_act_148 (by decide) (by omega) (by omega) (fun h148 => ?_) (fun h148 => ?_)
    · refine s_aload_n E dX8_act_155 rfl ?_
      refine s_getR (kf := 8) E dX8_act_156 rfl inb_X8 (Nat.le_of_ble_eq_true rfl) fl_X8_29 (by decide) sh79 rfl ?_
      refine s_iload_n E dX8_act_159 rfl ?_
      refine s_iald E dX8_act_160 (by decide) sh84 (Nat.le_of_ble_eq_true rfl) (by omega) ?_
      refine s_aload_n E dX8_act_161 rfl ?_
      refine s_getI (kf := 1) E 1 rfl dX8_act_162 rfl inb_X8 (Nat.le_of_ble_eq_true rfl) fl_X8_13 (by decide) sh79 rfl ?_
      refine s_isub E dX8_act_165 ?_
      refine s_iast E dX8_act_166 (by decide) sh84 (Nat.le_of_ble_eq_true rfl) (by omega) ?_
      refine hret _ ?_ _ _ dX8_act_167
      unfold fStir
      exact ⟨by rw [if_neg (by omega), if_neg (by omega), if_neg (by omega), if_neg (by omega), if_pos (by omega), absM_up0 hk, q0]; congr 1; omega, (KpM.rf M).up (by decide)⟩
    · refine s_iconst E dX8_act_151 ?_
      refine s_goto E 166 dX8_act_152 (by decide) ?_
      refine s_iast E dX8_act_166 (by decide) sh84 (Nat.le_of_ble_eq_true rfl) (by omega) ?_
      refine hret _ ?_ _ _ dX8_act_167
      unfold fStir
      exact ⟨by rw [if_neg (by omega), if_neg (by omega), if_neg (by omega), if_neg (by omega), if_pos (by omega), absM_up0 hk, q0]; congr 1; omega, (KpM.rf M).up (by decide)⟩
