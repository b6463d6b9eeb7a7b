set_option maxRecDepth 100000 in
set_option maxHeartbeats 4000000 in
theorem c_X6_ask (M : Mm) (a b due n : Int) (ha : 0 ≤ a ∧ a < 6) (hbb : 0 ≤ b ∧ b < 6) (hb : SB (absC M) n) : CtV yX6_ask cX6_ask 4 3 SH [rv 22, iv a, iv b, iv due] M (fun M' => absC M' = fAsk a b due (absC M) ∧ Kp M M') := by
  refine CtV.of rfl (Nat.le_of_ble_eq_true rfl) (fun v as E hret => ?_)
  show Ws v as SH 0 0 0 [some (rv 22), some (iv a), some (iv b), some (iv due)] [] M
  refine s_aload_n E dX6_ask_0 rfl ?_
  refine s_iload_n E dX6_ask_1 rfl ?_
  refine s_callVi E (c_X6_listens _ _ _ (by omega) hb) dX6_ask_2 mf_X6_listens ml_X6_74 rfl (Nat.le_of_ble_eq_true rfl) (Nat.le_of_ble_eq_true rfl) (by decide) sh22 rfl rfl (fun r2 M2 h2 => ?_)
  obtain ⟨e2, f2⟩ := h2; subst r2; subst M2
  refine s_ifeqB E 25 dX6_ask_5 (by decide) (fun h5 => ?_) (fun h5 => ?_)
  · refine hret _ ?_ _ _ dX6_ask_25
    have q1 := absC_rd1 (M := M) ha; have q2 := absC_rd2 (M := M) ha; have q3 := absC_rd1 (M := M) hbb; have q4 := absC_rd2 (M := M) hbb
    unfold fAsk
    exact ⟨by rw [if_neg (by omega)], Kp.rf M⟩
  · refine s_aload_n E dX6_ask_8 rfl ?_
    refine s_iload_n E dX6_ask_9 rfl ?_
    refine s_callVi E (c_X6_listens _ _ _ (by omega) hb) dX6_ask_10 mf_X6_listens ml_X6_74 rfl (Nat.le_of_ble_eq_true rfl) (Nat.le_of_ble_eq_true rfl) (by decide) sh22 rfl rfl (fun r10 M10 h10 => ?_)
    obtain ⟨e10, f10⟩ := h10; subst r10; subst M10
    refine s_ifeqB E 25 dX6_ask_13 (by decide) (fun h13 => ?_) (fun h13 => ?_)
    · refine hret _ ?_ _ _ dX6_ask_25
      have q1 := absC_rd1 (M := M) ha; have q2 := absC_rd2 (M := M) ha; have q3 := absC_rd1 (M := M) hbb; have q4 := absC_rd2 (M := M) hbb
      unfold fAsk
      exact ⟨by rw [if_neg (by omega)], Kp.rf M⟩
    · refine s_aload_n E dX6_ask_16 rfl ?_
      refine s_getR (kf := 0) E dX6_ask_17 rfl inb_X6 (Nat.le_of_ble_eq_true rfl) fl_X6_11 (by decide) sh22 rfl ?_
      refine s_iconst E dX6_ask_20 ?_
      refine s_aald (kd := 0) (r := 27) E dX6_ask_21 (by decide) sh23 (Nat.le_of_ble_eq_true rfl) (by decide) rfl ?_
      refine s_iload_n E dX6_ask_22 rfl ?_
      refine s_iload_n E dX6_ask_23 rfl ?_
      refine s_iast E dX6_ask_24 (by decide) sh27 (Nat.le_of_ble_eq_true rfl) (by omega) ?_
      refine hret _ ?_ _ _ dX6_ask_25
      have q1 := absC_rd1 (M := M) ha; have q2 := absC_rd2 (M := M) ha; have q3 := absC_rd1 (M := M) hbb; have q4 := absC_rd2 (M := M) hbb
      unfold fAsk
      exact ⟨by rw [absC_up3 hbb, if_pos (by omega)], (Kp.rf M).up (by decide)⟩

set_option maxRecDepth 100000 in
set_option maxHeartbeats 4000000 in
theorem c_X6_stir (M : Mm) (h k co n : Int) (hh : h = 122 ∨ h = 121 ∨ h = 120 ∨ h = 105 ∨ h = 107) (hk : 0 ≤ k ∧ k < 6) (hco : 0 ≤ co ∧ co ≤ 99) (hb : SB (absC M) n) : CtV yX6_stir cX6_stir 4 2 SH [rv 22, iv h, iv k, iv co] M (fun M' => absC M' = fStir h k co (absC M) ∧ Kp M M') := by
  refine CtV.of rfl (Nat.le_of_ble_eq_true rfl) (fun v as E hret => ?_)
  show Ws v as SH 0 0 0 [some (rv 22), some (iv h), some (iv k), some (iv co)] [] M
  refine s_iload_n E dX6_stir_0 rfl ?_
  refine s_callSNi E (c_X7_isOne _ _ (by omega)) dX6_stir_1 mf_X7_isOne ml_X6_66 rfl (Nat.le_of_ble_eq_true rfl) (Nat.le_of_ble_eq_true rfl) rfl (fun r1 M1 h1 => ?_)
  obtain ⟨e1, f1⟩ := h1; subst r1; subst M1
  refine s_ifneB E 8 dX6_stir_4 (by decide) (fun h4 => ?_) (fun h4 => ?_)
  · have b0 := hb.1 k hk.1 hk.2
    have q0 := absC_rd0 (M := M) hk; have q1 := absC_rd1 (M := M) hk
    refine s_iload_n E dX6_stir_8 rfl ?_
    refine s_lcase E (105) 106 dX6_stir_9 (by decide) rfl rfl (by decide) (fun h9_105 => ?_) (fun h9_105 => ?_)
    · refine s_aload_n E dX6_stir_106 rfl ?_
      refine s_getR (kf := 0) E dX6_stir_107 rfl inb_X6 (Nat.le_of_ble_eq_true rfl) fl_X6_11 (by decide) sh22 rfl ?_
      refine s_iconst E dX6_stir_110 ?_
      refine s_aald (kd := 0) (r := 25) E dX6_stir_111 (by decide) sh23 (Nat.le_of_ble_eq_true rfl) (by decide) rfl ?_
      refine s_iload_n E dX6_stir_112 rfl ?_
      refine s_iconst E dX6_stir_113 ?_
      refine s_iast E dX6_stir_114 (by decide) sh25 (Nat.le_of_ble_eq_true rfl) (by omega) ?_
      refine s_aload_n E dX6_stir_115 rfl ?_
      refine s_getR (kf := 0) E dX6_stir_116 rfl inb_X6 (Nat.le_of_ble_eq_true rfl) fl_X6_11 (by decide) sh22 rfl ?_
      refine s_iconst E dX6_stir_119 ?_
      refine s_aald (kd := 0) (r := 26) E dX6_stir_120 (by decide) sh23 (Nat.le_of_ble_eq_true rfl) (by decide) rfl ?_
      refine s_iload_n E dX6_stir_121 rfl ?_
      refine s_iconst E dX6_stir_122 ?_
      refine s_iast E dX6_stir_123 (by decide) sh26 (Nat.le_of_ble_eq_true rfl) (by omega) ?_
      refine s_goto E 161 dX6_stir_124 (by decide) ?_
      refine hret _ ?_ _ _ dX6_stir_161
      unfold fStir
      exact ⟨by rw [if_neg (by omega), if_neg (by omega), if_neg (by omega), if_pos (by omega), absC_up2 hk, absC_up1 hk], ((Kp.rf M).up (by decide)).up (by decide)⟩
    refine s_lcase E (120) 76 dX6_stir_9 (by decide) rfl rfl (by decide) (fun h9_120 => ?_) (fun h9_120 => ?_)
    · refine s_aload_n E dX6_stir_76 rfl ?_
      refine s_getR (kf := 0) E dX6_stir_77 rfl inb_X6 (Nat.le_of_ble_eq_true rfl) fl_X6_11 (by decide) sh22 rfl ?_
      refine s_iconst E dX6_stir_80 ?_
      refine s_aald (kd := 0) (r := 25) E dX6_stir_81 (by decide) sh23 (Nat.le_of_ble_eq_true rfl) (by decide) rfl ?_
      refine s_iload_n E dX6_stir_82 rfl ?_
      refine s_iconst E dX6_stir_83 ?_
      refine s_iast E dX6_stir_84 (by decide) sh25 (Nat.le_of_ble_eq_true rfl) (by omega) ?_
      refine s_aload_n E dX6_stir_85 rfl ?_
      refine s_getR (kf := 0) E dX6_stir_86 rfl inb_X6 (Nat.le_of_ble_eq_true rfl) fl_X6_11 (by decide) sh22 rfl ?_
      refine s_iconst E dX6_stir_89 ?_
      refine s_aald (kd := 0) (r := 24) E dX6_stir_90 (by decide) sh23 (Nat.le_of_ble_eq_true rfl) (by decide) rfl ?_
      refine s_iload_n E dX6_stir_91 rfl ?_
      refine s_iconst E dX6_stir_92 ?_
      refine s_iast E dX6_stir_93 (by decide) sh24 (Nat.le_of_ble_eq_true rfl) (by omega) ?_
      refine s_aload_n E dX6_stir_94 rfl ?_
      refine s_getR (kf := 0) E dX6_stir_95 rfl inb_X6 (Nat.le_of_ble_eq_true rfl) fl_X6_11 (by decide) sh22 rfl ?_
      refine s_iconst E dX6_stir_98 ?_
      refine s_aald (kd := 0) (r := 27) E dX6_stir_99 (by decide) sh23 (Nat.le_of_ble_eq_true rfl) (by decide) rfl ?_
      refine s_iload_n E dX6_stir_100 rfl ?_
      refine s_iconst E dX6_stir_101 ?_
      refine s_iast E dX6_stir_102 (by decide) sh27 (Nat.le_of_ble_eq_true rfl) (by omega) ?_
      refine s_goto E 161 dX6_stir_103 (by decide) ?_
      refine hret _ ?_ _ _ dX6_stir_161
      unfold fStir
      exact ⟨by rw [if_neg (by omega), if_neg (by omega), if_pos (by omega), absC_up3 hk, absC_up0 hk, absC_up1 hk], (((Kp.rf M).up (by decide)).up (by decide)).up (by decide)⟩
    refine s_lcase E (121) 64 dX6_stir_9 (by decide) rfl rfl (by decide) (fun h9_121 => ?_) (fun h9_121 => ?_)
    · refine s_aload_n E dX6_stir_64 rfl ?_
      refine s_getR (kf := 0) E dX6_stir_65 rfl inb_X6 (Nat.le_of_ble_eq_true rfl) fl_X6_11 (by decide) sh22 rfl ?_
      refine s_iconst E dX6_stir_68 ?_
      refine s_aald (kd := 0) (r := 26) E dX6_stir_69 (by decide) sh23 (Nat.le_of_ble_eq_true rfl) (by decide) rfl ?_
      refine s_iload_n E dX6_stir_70 rfl ?_
      refine s_iconst E dX6_stir_71 ?_
      refine s_iast E dX6_stir_72 (by decide) sh26 (Nat.le_of_ble_eq_true rfl) (by omega) ?_
      refine s_goto E 161 dX6_stir_73 (by decide) ?_
      refine hret _ ?_ _ _ dX6_stir_161
      unfold fStir
      exact ⟨by rw [if_neg (by omega), if_pos (by omega), absC_up2 hk], (Kp.rf M).up (by decide)⟩
    refine s_lcase E (122) 52 dX6_stir_9 (by decide) rfl rfl (by decide) (fun h9_122 => ?_) (fun h9_122 => ?_)
    · refine s_aload_n E dX6_stir_52 rfl ?_
      refine s_getR (kf := 0) E dX6_stir_53 rfl inb_X6 (Nat.le_of_ble_eq_true rfl) fl_X6_11 (by decide) sh22 rfl ?_
      refine s_iconst E dX6_stir_56 ?_
      refine s_aald (kd := 0) (r := 26) E dX6_stir_57 (by decide) sh23 (Nat.le_of_ble_eq_true rfl) (by decide) rfl ?_
      refine s_iload_n E dX6_stir_58 rfl ?_
      refine s_iconst E dX6_stir_59 ?_
      refine s_iast E dX6_stir_60 (by decide) sh26 (Nat.le_of_ble_eq_true rfl) (by omega) ?_
      refine s_goto E 161 dX6_stir_61 (by decide) ?_
      refine hret _ ?_ _ _ dX6_stir_161
      unfold fStir
      exact ⟨by rw [if_pos (by omega), absC_up2 hk], (Kp.rf M).up (by decide)⟩
    refine s_lout E 127 dX6_stir_9 (by omega) rfl ((if_neg (Ne.symm h9_105)).trans ((if_neg (Ne.symm h9_120)).trans ((if_neg (Ne.symm h9_121)).trans ((if_neg (Ne.symm h9_122)).trans rfl)))) (by decide) ?_
    refine s_aload_n E dX6_stir_127 rfl ?_
    refine s_getR (kf := 0) E dX6_stir_128 rfl inb_X6 (Nat.le_of_ble_eq_true rfl) fl_X6_11 (by decide) sh22 rfl ?_
    refine s_iconst E dX6_stir_131 ?_
    refine s_aald (kd := 0) (r := 25) E dX6_stir_132 (by decide) sh23 (Nat.le_of_ble_eq_true rfl) (by decide) rfl ?_
    refine s_iload_n E dX6_stir_133 rfl ?_
    refine s_iald E dX6_stir_134 (by decide) sh25 (Nat.le_of_ble_eq_true rfl) (by omega) ?_
    refine s_iconst E dX6_stir_135 ?_
    refine s_icmp_ne E 161 dX6_stir_136 (by decide) (by omega) (by omega) (fun h136 => ?_) (fun h136 => ?_)
    · refine hret _ ?_ _ _ dX6_stir_161
      unfold fStir
      exact ⟨by rw [if_neg (by omega), if_neg (by omega), if_neg (by omega), if_neg (by omega), if_neg (by omega)], Kp.rf M⟩
    · refine s_aload_n E dX6_stir_139 rfl ?_
      refine s_getR (kf := 0) E dX6_stir_140 rfl inb_X6 (Nat.le_of_ble_eq_true rfl) fl_X6_11 (by decide) sh22 rfl ?_
      refine s_iconst E dX6_stir_143 ?_
      refine s_aald (kd := 0) (r := 24) E dX6_stir_144 (by decide) sh23 (Nat.le_of_ble_eq_true rfl) (by decide) rfl ?_
      refine s_iload_n E dX6_stir_145 rfl ?_
      refine s_iconst E dX6_stir_146 ?_
      refine s_aload_n E dX6_stir_147 rfl ?_
      refine s_getR (kf := 0) E dX6_stir_148 rfl inb_X6 (Nat.le_of_ble_eq_true rfl) fl_X6_11 (by decide) sh22 rfl ?_
      refine s_iconst E dX6_stir_151 ?_
      refine s_aald (kd := 0) (r := 24) E dX6_stir_152 (by decide) sh23 (Nat.le_of_ble_eq_true rfl) (by decide) rfl ?_
      refine s_iload_n E dX6_stir_153 rfl ?_
      refine s_iald E dX6_stir_154 (by decide) sh24 (Nat.le_of_ble_eq_true rfl) (by omega) ?_
      refine s_iload_n E dX6_stir_155 rfl ?_
      refine s_isub E dX6_stir_156 ?_
      refine s_mmax E dX6_stir_157 ml_X6_77 mw_max (Nat.le_of_ble_eq_true rfl) (Nat.le_of_ble_eq_true rfl) (by omega) (by omega) ?_
      refine s_iast E dX6_stir_160 (by decide) sh24 (Nat.le_of_ble_eq_true rfl) (by omega) ?_
      refine hret _ ?_ _ _ dX6_stir_161
      unfold fStir
      exact ⟨by rw [if_neg (by omega), if_neg (by omega), if_neg (by omega), if_neg (by omega), if_pos (by omega), absC_up0 hk, q0], (Kp.rf M).up (by decide)⟩
  · refine hret _ ?_ _ _ dX6_stir_7
    exact absurd hk h4

theorem SB.ask {S : Mm} {n a b due : Int} (h : SB S n) (hd : 0 ≤ due ∧ due ≤ 99) : SB (fAsk a b due S) n := by
  unfold fAsk
  split
  · refine ⟨fun j h1 h2 => ?_, ?_⟩
    · have := h.1 j h1 h2
      by_cases e : j = b
      · subst e
        simp only [upm_eq, upm_ne (Or.inl (show (0 : Int) ≠ 3 by decide)), upm_ne (Or.inl (show (1 : Int) ≠ 3 by decide)), upm_ne (Or.inl (show (2 : Int) ≠ 3 by decide))]
        omega
      · simp only [upm_ne (Or.inr e)]
        exact this
    · rw [upm_ne (Or.inl (by decide))]
      exact h.2
  · exact h
theorem SB.up012 {S : Mm} {n w k z : Int} (h : SB S n) (hw : w = 0 ∧ 0 ≤ z ∧ z ≤ 999 ∨ (w = 1 ∨ w = 2) ∧ 0 ≤ z ∧ z ≤ 1 ∨ w = 3 ∧ 0 ≤ z ∧ z ≤ 99) : SB (upm S w k z) n := by
  refine ⟨fun j h1 h2 => ?_, ?_⟩
  · have := h.1 j h1 h2
    unfold upm
    refine ⟨?_, ?_, ?_, ?_, ?_, ?_, ?_, ?_⟩ <;> split <;> omega
  · rw [upm_ne (Or.inl (by omega))]
    exact h.2
theorem SB.stir {S : Mm} {n c k co : Int} (h : SB S n) (hk : 0 ≤ k ∧ k < 6) (hco : 0 ≤ co ∧ co ≤ 99) : SB (fStir c k co S) n := by
  have hb := h.1 k hk.1 hk.2
  unfold fStir
  split
  · exact h.up012 (by omega)
  split
  · exact h.up012 (by omega)
  split
  · exact ((h.up012 (by omega)).up012 (by omega)).up012 (by omega)
  split
  · exact (h.up012 (by omega)).up012 (by omega)
  split
  · exact h.up012 (by omega)
  · exact h
/-- what stands at a part's head in a pad without a fault -/
theorem part_ok {p : Int → Int} {n i : Int} (hi : 0 ≤ i) (h : i < n) (hf : sfl p (n - i).toNat i 0 = -6) :
    ((p i = 46 ∨ (97 ≤ p i ∧ p i < 103)) ∧ i + 1 < n ∧ 49 ≤ p (i + 1) ∧ p (i + 1) ≤ 57 ∧ sfl p (n - (i + 2)).toNat (i + 2) 0 = -6)
    ∨ ((p i = 105 ∨ p i = 107 ∨ p i = 120 ∨ p i = 121 ∨ p i = 122) ∧ i + 1 < n ∧ 97 ≤ p (i + 1) ∧ p (i + 1) < 103 ∧ sfl p (n - (i + 2)).toNat (i + 2) 0 = -6)
    ∨ (p i = 63 ∧ i + 2 < n ∧ 97 ≤ p (i + 1) ∧ p (i + 1) < 103 ∧ 97 ≤ p (i + 2) ∧ p (i + 2) < 103 ∧ p (i + 2) ≠ p (i + 1) ∧ sfl p (n - (i + 3)).toNat (i + 3) 0 = -6) := by
  have e1 : i + 1 + 1 = i + 2 := by omega
  have e2 : i + 2 + 1 = i + 3 := by omega
  have nz : ∀ k st : Int, 0 ≤ k → n ≤ k → st ≠ 0 → sfl p (n - k).toNat k st = k := fun k st h1 h2 h3 => by rw [sfl_end h2, if_neg h3]
  rw [sfl_step h] at hf
  have hx : nxt 0 (p i) (pv p i) = hd0 (p i) := rfl
  rw [hx] at hf
  have two : ∀ st : Int, st ≠ 0 → sfl p (n - (i + 1)).toNat (i + 1) st = -6 → i + 1 < n ∧ nxt st (p (i + 1)) (pv p (i + 1)) ≠ -1 ∧ sfl p (n - (i + 2)).toNat (i + 2) (nxt st (p (i + 1)) (pv p (i + 1))) = -6 := by
    intro st hs hq
    by_cases hn : i + 1 < n
    · rw [sfl_step hn] at hq
      split at hq
      · omega
      · next hne => rw [e1] at hq; exact ⟨hn, hne, hq⟩
    · rw [nz (i + 1) st (by omega) (by omega) hs] at hq
      omega
  split at hf
  · omega
  · next hne =>
    by_cases a1 : p i = 46 ∨ (97 ≤ p i ∧ p i < 103)
    · have hh : hd0 (p i) = 1 := by unfold hd0; (repeat' split) <;> omega
      rw [hh] at hf
      obtain ⟨b1, b2, b3⟩ := two 1 (by decide) hf
      have : 49 ≤ p (i + 1) ∧ p (i + 1) ≤ 57 := by
        unfold nxt at b2
        simp at b2
        exact b2
      have h0 : nxt 1 (p (i + 1)) (pv p (i + 1)) = 0 := by unfold nxt; simp [this]
      rw [h0] at b3
      exact Or.inl ⟨a1, b1, this.1, this.2, b3⟩
    · by_cases a2 : p i = 63
      · have hh : hd0 (p i) = 3 := by unfold hd0; (repeat' split) <;> omega
        rw [hh] at hf
        obtain ⟨b1, b2, b3⟩ := two 3 (by decide) hf
        have hn1 : 97 ≤ p (i + 1) ∧ p (i + 1) < 103 := by
          unfold nxt at b2
          simp at b2
          exact b2
        have h4 : nxt 3 (p (i + 1)) (pv p (i + 1)) = 4 := by unfold nxt; simp [hn1]
        rw [h4] at b3
        have hn : i + 2 < n := by
          apply Classical.byContradiction
          intro hn
          rw [nz (i + 2) 4 (by omega) (by omega) (by decide)] at b3
          omega
        rw [sfl_step hn] at b3
        have hpv : pv p (i + 2) = p (i + 1) := by
          unfold pv
          rw [if_neg (by omega)]
          congr 1
          omega
        split at b3
        · omega
        · next hne2 =>
          have h5 : (97 ≤ p (i + 2) ∧ p (i + 2) < 103) ∧ p (i + 2) ≠ p (i + 1) := by
            rw [hpv] at hne2
            unfold nxt at hne2
            simp at hne2
            refine ⟨⟨?_, ?_⟩, ?_⟩ <;> omega
          have h6 : nxt 4 (p (i + 2)) (pv p (i + 2)) = 0 := by rw [hpv]; unfold nxt; simp [h5]
          rw [h6, e2] at b3
          exact Or.inr (Or.inr ⟨a2, hn, hn1.1, hn1.2, h5.1.1, h5.1.2, h5.2, b3⟩)
      · have a3 : p i = 105 ∨ p i = 107 ∨ p i = 120 ∨ p i = 121 ∨ p i = 122 := by
          apply Classical.byContradiction
          intro a3
          apply hne
          unfold hd0
          (repeat' split) <;> omega
        have hh : hd0 (p i) = 2 := by unfold hd0; (repeat' split) <;> omega
        rw [hh] at hf
        obtain ⟨b1, b2, b3⟩ := two 2 (by decide) hf
        have hn1 : 97 ≤ p (i + 1) ∧ p (i + 1) < 103 := by
          unfold nxt at b2
          simp at b2
          exact b2
        have h4 : nxt 2 (p (i + 1)) (pv p (i + 1)) = 0 := by unfold nxt; simp [hn1]
        rw [h4] at b3
        exact Or.inr (Or.inl ⟨a3, b1, hn1.1, hn1.2, b3⟩)
theorem sgn_kp {M M0 : Mm} {i : Int} (hK : Kp M0 M) (h : 0 ≤ i ∧ i < M0 20 1) : sgn M i = M0 21 i := by
  unfold sgn
  rw [hK 20 1 (by omega), hK 21 i (by omega), if_pos h]
theorem fRun_end {p : Int → Int} {n co ak : Int} {f : Nat} {i : Int} {S : Mm} (h : n ≤ i) : fRun p n co ak f i S = S := by
  cases f with
  | zero => rfl
  | succ f => exact if_neg (by omega)
theorem fRun_step {p : Int → Int} {n co ak : Int} {f : Nat} {i : Int} {S : Mm} (h : i < n) : fRun p n co ak (f + 1) i S = fRun p n co ak f (i + (if p i = 63 then 3 else 2)) (fPart p i co ak S) := if_pos h

set_option maxRecDepth 100000 in
set_option maxHeartbeats 4000000 in
theorem lp_X6_begin {v : Ev} {as : List Nat} (M : Mm) (E : Cx v cX6_begin 3 yX6_begin.cls 3) (hret : RetV v as cX6_begin (fun M' => absC M' = sit0 (fun w k => M (3 + w) k) ∧ Kp M M')) : ∀ (N : Nat) (M1 : Mm) (i : Int), (6 - i).toNat < N → (0 ≤ i ∧ i ≤ 6) → (∀ a b, M1 a b = if a = 28 ∧ 0 ≤ b ∧ b < i then 0 else cpR M 2 23 4 a b) → Ws v as SH 0 0 14 [some (rv 22), some (rv 1), some (iv i)] [] M1 := by
  intro N
  induction N with
  | zero =>
    intro M1 i hN
    exact absurd hN (Nat.not_lt_zero _)
  | succ N ih =>
    intro M1 i hN g0 g1
    refine s_iload_n E dX6_begin_14 rfl ?_
    refine s_bipush E dX6_begin_15 rfl ?_
    refine s_icmp_ge E 33 dX6_begin_17 (by decide) (by omega) (by omega) (fun h17 => ?_) (fun h17 => ?_)
    · refine s_aload_n E dX6_begin_33 rfl ?_
      refine s_iconst E dX6_begin_34 ?_
      refine s_putI (kf := 2) E 2 rfl dX6_begin_35 rfl inb_X6 tyX6_ok nmX6 (Nat.le_of_ble_eq_true rfl) ⟨rfl, rfl⟩ fl_X6_20 (by decide) sh22 rfl ?_
      refine s_aload_n E dX6_begin_38 rfl ?_
      refine s_iconst E dX6_begin_39 ?_
      refine s_putI (kf := 3) E 3 rfl dX6_begin_40 rfl inb_X6 tyX6_ok nmX6 (Nat.le_of_ble_eq_true rfl) ⟨rfl, rfl⟩ fl_X6_24 (by decide) sh22 rfl ?_
      refine s_aload_n E dX6_begin_43 rfl ?_
      refine s_bipush E dX6_begin_44 rfl ?_
      refine s_putI (kf := 4) E 4 rfl dX6_begin_46 rfl inb_X6 tyX6_ok nmX6 (Nat.le_of_ble_eq_true rfl) ⟨rfl, rfl⟩ fl_X6_27 (by decide) sh22 rfl ?_
      refine hret _ ?_ _ _ dX6_begin_49
      obtain rfl : i = 6 := by omega
      refine ⟨?_, fun a b q => ?_⟩
      · rw [absC_uf2, absC_uf1, absC_uf0]
        funext w k
        dsimp only [absC, upm, sit0]
        simp only [g1, cpR]
        by_cases c1 : w = 5
        · subst c1
          by_cases c2 : k = 0 <;> by_cases c3 : k = 1 <;> by_cases c4 : k = 2 <;> simp [c2, c3, c4] <;> omega
        · by_cases c2 : 0 ≤ w ∧ w < 4 ∧ 0 ≤ k ∧ k < 6
          · rw [if_neg (by omega), if_neg (by omega), if_neg (by omega), if_pos (by omega), if_neg (by omega), if_pos (by omega), if_pos c2]
            congr 1
            omega
          · (repeat' split) <;> first | rfl | omega
      · rw [upm_ne (by omega), upm_ne (by omega), upm_ne (by omega), g1, if_neg (by omega)]
        exact if_neg (by omega)
    · refine s_aload_n E dX6_begin_20 rfl ?_
      refine s_getR (kf := 1) E dX6_begin_21 rfl inb_X6 (Nat.le_of_ble_eq_true rfl) fl_X6_16 (by decide) sh22 rfl ?_
      refine s_iload_n E dX6_begin_24 rfl ?_
      refine s_iconst E dX6_begin_25 ?_
      refine s_iast E dX6_begin_26 (by decide) sh28 (Nat.le_of_ble_eq_true rfl) (by omega) ?_
      refine s_iinc (ls' := [_, _, _]) E dX6_begin_27 rfl rfl ?_
      refine s_goto E 14 dX6_begin_30 (by decide) ?_
      refine ih _ _ (by omega) (by omega) (fun a b => ?_)
      unfold upm
      rw [g1 a b]
      (repeat' split) <;> first | rfl | omega

set_option maxRecDepth 100000 in
set_option maxHeartbeats 4000000 in
theorem c_X6_begin (M : Mm) : CtV yX6_begin cX6_begin 3 3 SH [rv 22, rv 1] M (fun M' => absC M' = sit0 (fun w k => M (3 + w) k) ∧ Kp M M') := by
  refine CtV.of rfl (Nat.le_of_ble_eq_true rfl) (fun v as E hret => ?_)
  show Ws v as SH 0 0 0 [some (rv 22), some (rv 1), none] [] M
  refine s_aload_n E dX6_begin_0 rfl ?_
  refine s_getR (kf := 0) E dX6_begin_1 rfl inb_X2 (Nat.le_of_ble_eq_true rfl) fl_X6_69 (by decide) sh1 rfl ?_
  refine s_aload_n E dX6_begin_4 rfl ?_
  refine s_getR (kf := 0) E dX6_begin_5 rfl inb_X6 (Nat.le_of_ble_eq_true rfl) fl_X6_11 (by decide) sh22 rfl ?_
  refine s_iconst E dX6_begin_8 ?_
  refine s_callSNv E (c_cpR_2_23 _) dX6_begin_9 mf_X7_copyRows ml_X6_70 rfl (Nat.le_of_ble_eq_true rfl) (Nat.le_of_ble_eq_true rfl) rfl (fun M9 h9 => ?_)
  subst M9
  refine s_iconst E dX6_begin_12 ?_
  refine s_istore_n (ls' := [_, _, _]) E dX6_begin_13 (Nat.le_of_ble_eq_true rfl) rfl ?_
  exact lp_X6_begin M E hret 7 _ 0 (by decide) (by decide) (fun a b => (if_neg (by omega)).symm)

set_option maxRecDepth 100000 in
set_option maxHeartbeats 4000000 in
theorem lp_X6_run {v : Ev} {as : List Nat} (M0 T : Mm) (hp : PadOK (M0 21) (M0 20 1)) (hco : 0 ≤ M0 1 3 ∧ M0 1 3 ≤ 99) (hak : 0 ≤ M0 1 4 ∧ M0 1 4 ≤ 99) (E : Cx v cX6_run 6 yX6_run.cls 6) (hret : RetV v as cX6_run (fun M' => absC M' = T ∧ Kp M0 M' ∧ SB (absC M') 400)) : ∀ (N : Nat) (f : Nat) (M : Mm) (i : Int) (o4 o5 : Option Vv), f < N → (0 ≤ i ∧ i ≤ M0 20 1) → ((M0 20 1 - i).toNat ≤ f) → (SB (absC M) (9 * i)) → (Kp M0 M) → (sfl (M0 21) (M0 20 1 - i).toNat i 0 = -6) → (fRun (M0 21) (M0 20 1) (M0 1 3) (M0 1 4) f i (absC M) = T) → Ws v as SH 0 0 7 [some (rv 22), some (rv 1), some (rv 20), some (iv i), o4, o5] [] M := by
  intro N
  induction N with
  | zero =>
    intro f M i o4 o5 hN
    exact absurd hN (Nat.not_lt_zero _)
  | succ N ih =>
    intro f M i o4 o5 hN g0 g1 g2 g3 g4 g5
    have hp0 := hp.1; have hp1 := hp.2.1; have hp2 := hp.2.2
    have k1 := g3 20 1 (by decide)
    refine s_iload_n E dX6_run_7 rfl ?_
    refine s_aload_n E dX6_run_8 rfl ?_
    refine s_getI (kf := 1) E 1 rfl dX6_run_9 rfl inb_X5 (Nat.le_of_ble_eq_true rfl) fl_X6_34 (by decide) sh20 rfl ?_
    rw [k1]
    refine s_icmp_ge E 146 dX6_run_12 (by decide) (by omega) (by omega) (fun h12 => ?_) (fun h12 => ?_)
    · refine hret _ ?_ _ _ dX6_run_146
      exact ⟨by rw [← g5, fRun_end (by omega)], g3, g2.mono (by omega) (by omega)⟩
    · have pt := part_ok g0.1 (by omega) g4
      have b0 := hp2 i (by omega) (by omega)
      have b1 := hp2 (i + 1) (by omega) (by omega)
      obtain ⟨f, rfl⟩ : ∃ q, f = q + 1 := ⟨f - 1, by omega⟩
      rw [fRun_step (by omega)] at g5
      refine s_aload_n E dX6_run_15 rfl ?_
      refine s_iload_n E dX6_run_16 rfl ?_
      refine s_callVi E (c_X5_sign _ _ (by omega) (by omega)) dX6_run_17 mf_X5_sign ml_X6_39 rfl (Nat.le_of_ble_eq_true rfl) (Nat.le_of_ble_eq_true rfl) (by decide) sh20 rfl rfl (fun r17 M17 h17 => ?_)
      obtain ⟨e17, f17⟩ := h17; subst r17; subst M17
      rw [sgn_kp g3 ⟨by omega, by omega⟩]
      refine s_istore (ls' := [_, _, _, _, _, _]) E dX6_run_20 (Nat.le_of_ble_eq_true rfl) rfl ?_
      refine s_aload_n E dX6_run_22 rfl ?_
      refine s_iload_n E dX6_run_23 rfl ?_
      refine s_iconst E dX6_run_24 ?_
      refine s_iadd E dX6_run_25 ?_
      refine s_callVi E (c_X5_sign _ _ (by omega) (by omega)) dX6_run_26 mf_X5_sign ml_X6_39 rfl (Nat.le_of_ble_eq_true rfl) (Nat.le_of_ble_eq_true rfl) (by decide) sh20 rfl rfl (fun r26 M26 h26 => ?_)
      obtain ⟨e26, f26⟩ := h26; subst r26; subst M26
      rw [sgn_kp (i := i + 1) g3 ⟨by omega, by omega⟩]
      refine s_istore (ls' := [_, _, _, _, _, _]) E dX6_run_29 (Nat.le_of_ble_eq_true rfl) rfl ?_
      refine s_iload E dX6_run_31 rfl ?_
      refine s_bipush E dX6_run_33 rfl ?_
      refine s_icmp_ne E 52 dX6_run_35 (by decide) (by omega) (by omega) (fun h35 => ?_) (fun h35 => ?_)
      · refine s_iload E dX6_run_52 rfl ?_
        refine s_callSNi E (c_X7_isOneSign _ _ (by omega)) dX6_run_54 mf_X7_isOneSign ml_X6_47 rfl (Nat.le_of_ble_eq_true rfl) (Nat.le_of_ble_eq_true rfl) rfl (fun r54 M54 h54 => ?_)
        obtain ⟨e54, f54⟩ := h54; subst r54; subst M54
        refine s_ifeqB E 77 dX6_run_57 (by decide) (fun h57 => ?_) (fun h57 => ?_)
        · refine s_iload E dX6_run_77 rfl ?_
          refine s_bipush E dX6_run_79 rfl ?_
          refine s_icmp_ne E 110 dX6_run_81 (by decide) (by omega) (by omega) (fun h81 => ?_) (fun h81 => ?_)
          · refine s_aload_n E dX6_run_110 rfl ?_
            refine s_iload E dX6_run_111 rfl ?_
            refine s_iload E dX6_run_113 rfl ?_
            refine s_bipush E dX6_run_115 rfl ?_
            refine s_isub E dX6_run_117 ?_
            refine s_aload_n E dX6_run_118 rfl ?_
            refine s_getI (kf := 3) E 3 rfl dX6_run_119 rfl inb_X2 (Nat.le_of_ble_eq_true rfl) fl_X6_60 (by decide) sh1 rfl ?_
            rw [g3 1 3 (by decide)]
            refine s_callVv E (c_X6_stir M _ _ _ (9 * i) (by omega) (by omega) hco g2) dX6_run_122 mf_X6_stir ml_X6_63 rfl (Nat.le_of_ble_eq_true rfl) (Nat.le_of_ble_eq_true rfl) (by decide) sh22 rfl rfl (fun M122 h122 => ?_)
            obtain ⟨e122, f122⟩ := h122
            refine s_iload_n E dX6_run_125 rfl ?_
            refine s_aload_n E dX6_run_126 rfl ?_
            refine s_iload_n E dX6_run_127 rfl ?_
            refine s_callVi E (c_X5_sign M122 i (by omega) (by have := f122 20 1 (by decide); omega)) dX6_run_128 mf_X5_sign ml_X6_39 rfl (Nat.le_of_ble_eq_true rfl) (Nat.le_of_ble_eq_true rfl) (by decide) sh20 rfl rfl (fun r128 M128 h128 => ?_)
            obtain ⟨e128, f128⟩ := h128; subst r128; subst M128
            rw [sgn_kp (g3.tr f122) ⟨by omega, by omega⟩]
            refine s_bipush E dX6_run_131 rfl ?_
            refine s_icmp_ne E 140 dX6_run_133 (by decide) (by omega) (by omega) (fun h133 => ?_) (fun h133 => ?_)
            · refine s_iconst E dX6_run_140 ?_
              refine s_iadd E dX6_run_141 ?_
              refine s_istore_n (ls' := [_, _, _, _, _, _]) E dX6_run_142 (Nat.le_of_ble_eq_true rfl) rfl ?_
              refine s_goto E 7 dX6_run_143 (by decide) ?_
              refine ih f M122 (i + 2) _ _ (by omega) (by omega) (by omega) ?_ (g3.tr f122) ?_ ?_
              · rw [e122]
                exact (g2.stir (by omega) hco).mono (by omega) (by omega)
              · rcases pt with q | q | q
                · first | exact q.2.2.2.2 | (exfalso; omega)
                · first | exact q.2.2.2.2 | (exfalso; omega)
                · first | exact q.2.2.2.2.2.2.2 | (exfalso; omega)
              · rw [e122, ← g5, if_neg (by omega)]
                unfold fPart
                rw [if_neg (by omega), if_neg (by omega), if_neg (by omega)]
            · refine s_iconst E dX6_run_136 ?_
              refine s_goto E 141 dX6_run_137 (by decide) ?_
              refine s_iadd E dX6_run_141 ?_
              refine s_istore_n (ls' := [_, _, _, _, _, _]) E dX6_run_142 (Nat.le_of_ble_eq_true rfl) rfl ?_
              refine s_goto E 7 dX6_run_143 (by decide) ?_
              exfalso; omega
          · refine s_aload_n E dX6_run_84 rfl ?_
            refine s_iload E dX6_run_85 rfl ?_
            refine s_bipush E dX6_run_87 rfl ?_
            refine s_isub E dX6_run_89 ?_
            refine s_aload_n E dX6_run_90 rfl ?_
            refine s_iload_n E dX6_run_91 rfl ?_
            refine s_iconst E dX6_run_92 ?_
            refine s_iadd E dX6_run_93 ?_
            refine s_callVi E (c_X5_sign _ _ (by omega) (by omega)) dX6_run_94 mf_X5_sign ml_X6_39 rfl (Nat.le_of_ble_eq_true rfl) (Nat.le_of_ble_eq_true rfl) (by decide) sh20 rfl rfl (fun r94 M94 h94 => ?_)
            obtain ⟨e94, f94⟩ := h94; subst r94; subst M94
            rw [sgn_kp (i := i + 2) g3 ⟨by omega, by omega⟩]
            refine s_bipush E dX6_run_97 rfl ?_
            refine s_isub E dX6_run_99 ?_
            refine s_aload_n E dX6_run_100 rfl ?_
            refine s_getI (kf := 4) E 4 rfl dX6_run_101 rfl inb_X2 (Nat.le_of_ble_eq_true rfl) fl_X6_51 (by decide) sh1 rfl ?_
            rw [g3 1 4 (by decide)]
            refine s_callVv E (c_X6_ask M _ _ _ (9 * i) (by omega) (by omega) g2) dX6_run_104 mf_X6_ask ml_X6_56 rfl (Nat.le_of_ble_eq_true rfl) (Nat.le_of_ble_eq_true rfl) (by decide) sh22 rfl rfl (fun M104 h104 => ?_)
            obtain ⟨e104, f104⟩ := h104
            refine s_goto E 125 dX6_run_107 (by decide) ?_
            refine s_iload_n E dX6_run_125 rfl ?_
            refine s_aload_n E dX6_run_126 rfl ?_
            refine s_iload_n E dX6_run_127 rfl ?_
            refine s_callVi E (c_X5_sign M104 i (by omega) (by have := f104 20 1 (by decide); omega)) dX6_run_128 mf_X5_sign ml_X6_39 rfl (Nat.le_of_ble_eq_true rfl) (Nat.le_of_ble_eq_true rfl) (by decide) sh20 rfl rfl (fun r128 M128 h128 => ?_)
            obtain ⟨e128, f128⟩ := h128; subst r128; subst M128
            rw [sgn_kp (g3.tr f104) ⟨by omega, by omega⟩]
            refine s_bipush E dX6_run_131 rfl ?_
            refine s_icmp_ne E 140 dX6_run_133 (by decide) (by omega) (by omega) (fun h133 => ?_) (fun h133 => ?_)
            · refine s_iconst E dX6_run_140 ?_
              refine s_iadd E dX6_run_141 ?_
              refine s_istore_n (ls' := [_, _, _, _, _, _]) E dX6_run_142 (Nat.le_of_ble_eq_true rfl) rfl ?_
              refine s_goto E 7 dX6_run_143 (by decide) ?_
              exfalso; omega
            · refine s_iconst E dX6_run_136 ?_
              refine s_goto E 141 dX6_run_137 (by decide) ?_
              refine s_iadd E dX6_run_141 ?_
              refine s_istore_n (ls' := [_, _, _, _, _, _]) E dX6_run_142 (Nat.le_of_ble_eq_true rfl) rfl ?_
              refine s_goto E 7 dX6_run_143 (by decide) ?_
              refine ih f M104 (i + 3) _ _ (by omega) (by omega) (by omega) ?_ (g3.tr f104) ?_ ?_
              · rw [e104]
                exact (g2.ask hak).mono (by omega) (by omega)
              · rcases pt with q | q | q
                · first | exact q.2.2.2.2 | (exfalso; omega)
                · first | exact q.2.2.2.2 | (exfalso; omega)
                · first | exact q.2.2.2.2.2.2.2 | (exfalso; omega)
              · rw [e104, ← g5, if_pos (by omega)]
                unfold fPart
                rw [if_neg (by omega), if_neg (by omega), if_pos (by omega)]
        · refine s_aload_n E dX6_run_60 rfl ?_
          refine s_iload E dX6_run_61 rfl ?_
          refine s_bipush E dX6_run_63 rfl ?_
          refine s_isub E dX6_run_65 ?_
          refine s_iload E dX6_run_66 rfl ?_
          refine s_bipush E dX6_run_68 rfl ?_
          refine s_isub E dX6_run_70 ?_
          refine s_callVv E (c_X6_last M (M0 21 i - 97) _ (9 * i) (by omega) (by omega) (by omega) g2) dX6_run_71 mf_X6_last ml_X6_43 rfl (Nat.le_of_ble_eq_true rfl) (Nat.le_of_ble_eq_true rfl) (by decide) sh22 rfl rfl (fun M71 h71 => ?_)
          obtain ⟨e71, f71⟩ := h71
          refine s_goto E 125 dX6_run_74 (by decide) ?_
          refine s_iload_n E dX6_run_125 rfl ?_
          refine s_aload_n E dX6_run_126 rfl ?_
          refine s_iload_n E dX6_run_127 rfl ?_
          refine s_callVi E (c_X5_sign M71 i (by omega) (by have := f71 20 1 (by decide); omega)) dX6_run_128 mf_X5_sign ml_X6_39 rfl (Nat.le_of_ble_eq_true rfl) (Nat.le_of_ble_eq_true rfl) (by decide) sh20 rfl rfl (fun r128 M128 h128 => ?_)
          obtain ⟨e128, f128⟩ := h128; subst r128; subst M128
          rw [sgn_kp (g3.tr f71) ⟨by omega, by omega⟩]
          refine s_bipush E dX6_run_131 rfl ?_
          refine s_icmp_ne E 140 dX6_run_133 (by decide) (by omega) (by omega) (fun h133 => ?_) (fun h133 => ?_)
          · refine s_iconst E dX6_run_140 ?_
            refine s_iadd E dX6_run_141 ?_
            refine s_istore_n (ls' := [_, _, _, _, _, _]) E dX6_run_142 (Nat.le_of_ble_eq_true rfl) rfl ?_
            refine s_goto E 7 dX6_run_143 (by decide) ?_
            refine ih f M71 (i + 2) _ _ (by omega) (by omega) (by omega) ?_ (g3.tr f71) ?_ ?_
            · rw [e71]
              exact (SB.last g2 (by omega)).mono (by omega) (by omega)
            · rcases pt with q | q | q
              · first | exact q.2.2.2.2 | (exfalso; omega)
              · first | exact q.2.2.2.2 | (exfalso; omega)
              · first | exact q.2.2.2.2.2.2.2 | (exfalso; omega)
            · rw [e71, ← g5, if_neg (by omega)]
              unfold fPart
              rw [if_neg (by omega), if_pos (by omega)]
          · refine s_iconst E dX6_run_136 ?_
            refine s_goto E 141 dX6_run_137 (by decide) ?_
            refine s_iadd E dX6_run_141 ?_
            refine s_istore_n (ls' := [_, _, _, _, _, _]) E dX6_run_142 (Nat.le_of_ble_eq_true rfl) rfl ?_
            refine s_goto E 7 dX6_run_143 (by decide) ?_
            exfalso; omega
      · refine s_aload_n E dX6_run_38 rfl ?_
        refine s_bipush E dX6_run_39 rfl ?_
        refine s_iload E dX6_run_41 rfl ?_
        refine s_bipush E dX6_run_43 rfl ?_
        refine s_isub E dX6_run_45 ?_
        refine s_callVv E (c_X6_last M 6 _ (9 * i) (by omega) (by omega) (by omega) g2) dX6_run_46 mf_X6_last ml_X6_43 rfl (Nat.le_of_ble_eq_true rfl) (Nat.le_of_ble_eq_true rfl) (by decide) sh22 rfl rfl (fun M46 h46 => ?_)
        obtain ⟨e46, f46⟩ := h46
        refine s_goto E 125 dX6_run_49 (by decide) ?_
        refine s_iload_n E dX6_run_125 rfl ?_
        refine s_aload_n E dX6_run_126 rfl ?_
        refine s_iload_n E dX6_run_127 rfl ?_
        refine s_callVi E (c_X5_sign M46 i (by omega) (by have := f46 20 1 (by decide); omega)) dX6_run_128 mf_X5_sign ml_X6_39 rfl (Nat.le_of_ble_eq_true rfl) (Nat.le_of_ble_eq_true rfl) (by decide) sh20 rfl rfl (fun r128 M128 h128 => ?_)
        obtain ⟨e128, f128⟩ := h128; subst r128; subst M128
        rw [sgn_kp (g3.tr f46) ⟨by omega, by omega⟩]
        refine s_bipush E dX6_run_131 rfl ?_
        refine s_icmp_ne E 140 dX6_run_133 (by decide) (by omega) (by omega) (fun h133 => ?_) (fun h133 => ?_)
        · refine s_iconst E dX6_run_140 ?_
          refine s_iadd E dX6_run_141 ?_
          refine s_istore_n (ls' := [_, _, _, _, _, _]) E dX6_run_142 (Nat.le_of_ble_eq_true rfl) rfl ?_
          refine s_goto E 7 dX6_run_143 (by decide) ?_
          refine ih f M46 (i + 2) _ _ (by omega) (by omega) (by omega) ?_ (g3.tr f46) ?_ ?_
          · rw [e46]
            exact (SB.last g2 (by omega)).mono (by omega) (by omega)
          · rcases pt with q | q | q
            · first | exact q.2.2.2.2 | (exfalso; omega)
            · first | exact q.2.2.2.2 | (exfalso; omega)
            · first | exact q.2.2.2.2.2.2.2 | (exfalso; omega)
          · rw [e46, ← g5, if_neg (by omega)]
            unfold fPart
            rw [if_pos (by omega)]
        · refine s_iconst E dX6_run_136 ?_
          refine s_goto E 141 dX6_run_137 (by decide) ?_
          refine s_iadd E dX6_run_141 ?_
          refine s_istore_n (ls' := [_, _, _, _, _, _]) E dX6_run_142 (Nat.le_of_ble_eq_true rfl) rfl ?_
          refine s_goto E 7 dX6_run_143 (by decide) ?_
          exfalso; omega

theorem SB_sit0 {o : Mm} (h : ∀ k, 0 ≤ k → k < 6 → 0 ≤ o 0 k ∧ o 0 k ≤ 999 ∧ 0 ≤ o 1 k ∧ o 1 k ≤ 1 ∧ 0 ≤ o 2 k ∧ o 2 k ≤ 1 ∧ 0 ≤ o 3 k ∧ o 3 k ≤ 99) : SB (sit0 o) 0 := by
  refine ⟨fun k h1 h2 => ?_, ?_⟩
  · have := h k h1 h2
    unfold sit0
    simp only [if_pos (show (0 : Int) ≤ 0 ∧ (0 : Int) < 4 ∧ 0 ≤ k ∧ k < 6 by omega), if_pos (show (0 : Int) ≤ 1 ∧ (1 : Int) < 4 ∧ 0 ≤ k ∧ k < 6 by omega), if_pos (show (0 : Int) ≤ 2 ∧ (2 : Int) < 4 ∧ 0 ≤ k ∧ k < 6 by omega), if_pos (show (0 : Int) ≤ 3 ∧ (3 : Int) < 4 ∧ 0 ≤ k ∧ k < 6 by omega)]
    exact this
  · have e : sit0 o 5 1 = 0 := by
      unfold sit0
      rw [if_neg (by omega), if_neg (by omega)]
    omega

set_option maxRecDepth 100000 in
set_option maxHeartbeats 4000000 in
theorem c_X6_run (M : Mm) (hp : PadOK (M 21) (M 20 1)) (hf : sFault (M 21) (M 20 1) = -6) (hco : 0 ≤ M 1 3 ∧ M 1 3 ≤ 99) (hak : 0 ≤ M 1 4 ∧ M 1 4 ≤ 99) (hs : ∀ k, 0 ≤ k → k < 6 → 0 ≤ M 3 k ∧ M 3 k ≤ 999 ∧ 0 ≤ M 4 k ∧ M 4 k ≤ 1 ∧ 0 ≤ M 5 k ∧ M 5 k ≤ 1 ∧ 0 ≤ M 6 k ∧ M 6 k ≤ 99) : CtV yX6_run cX6_run 6 6 SH [rv 22, rv 1, rv 20] M (fun M' => absC M' = fRun (M 21) (M 20 1) (M 1 3) (M 1 4) 40 0 (sit0 (fun w k => M (3 + w) k)) ∧ Kp M M' ∧ SB (absC M') 400) := by
  refine CtV.of rfl (Nat.le_of_ble_eq_true rfl) (fun v as E hret => ?_)
  show Ws v as SH 0 0 0 [some (rv 22), some (rv 1), some (rv 20), none, none, none] [] M
  refine s_aload_n E dX6_run_0 rfl ?_
  refine s_aload_n E dX6_run_1 rfl ?_
  refine s_callVv E (c_X6_begin M) dX6_run_2 mf_X6_begin ml_X6_30 rfl (Nat.le_of_ble_eq_true rfl) (Nat.le_of_ble_eq_true rfl) (by decide) sh22 rfl rfl (fun M2 h2 => ?_)
  obtain ⟨e2, f2⟩ := h2
  refine s_iconst E dX6_run_5 ?_
  refine s_istore_n (ls' := [_, _, _, _, _, _]) E dX6_run_6 (Nat.le_of_ble_eq_true rfl) rfl ?_
  have hp0 := hp.1; have hp1 := hp.2.1
  exact lp_X6_run M _ hp hco hak E hret 41 40 M2 0 _ _ (by decide) (by omega) (by omega) (by rw [e2]; exact SB_sit0 hs) f2 (by rw [Int.sub_zero]; exact hf) (by rw [e2])
