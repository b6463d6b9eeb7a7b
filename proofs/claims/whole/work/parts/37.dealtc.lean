/-! ===== dealt: the class's call ===== -/
theorem eD_ind {V : (Int → Int) → Int} {b0 b1 : Int} {z z' : Int → Int} : ∀ (r : Nat) (p left : Int) (a : Int → Int), 0 ≤ left → (∀ b : Int → Int, (∀ j, j < p → b j = a j) → (∀ j, p ≤ j → j ≤ p + r → 0 ≤ b j ∧ b j ≤ left) → (∀ j, p + r < j → b j = a j) → V b < b0 ∧ V b < b1) → eD V r p left a (b0, z) = eD V r p left a (b1, z')
  | 0, p, left, a, h0, h => by
    have q := h (updF a p left) (fun j hj => by unfold updF; rw [if_neg (by omega)]) (fun j h1 h2 => by unfold updF; rw [if_pos (by omega)]; omega) (fun j hj => by unfold updF; rw [if_neg (by omega)])
    show evD V (updF a p left) (b0, z) = evD V (updF a p left) (b1, z')
    unfold evD
    rw [if_pos q.1, if_pos q.2]
  | r + 1, p, left, a, h0, h => by
    have ih := eD_ind (V := V) (b0 := b0) (b1 := b1) (z := z) (z' := z') r (p + 1) (left - left) (updF a p left) (by omega) (fun b q1 q2 q3 => by
      refine h b (fun j hj => ?_) (fun j h3 h4 => ?_) (fun j hj => ?_)
      · rw [q1 j (by omega)]; unfold updF; rw [if_neg (by omega)]
      · by_cases e : j = p
        · rw [q1 j (by omega)]; unfold updF; rw [if_pos e]; omega
        · have := q2 j (by omega) (by omega); omega
      · rw [q3 j (by omega)]; unfold updF; rw [if_neg (by omega)])
    show eL (fun g st => eD V r (p + 1) (left - g) (updF a p g) st) (left + 1).toNat left (b0, z) = eL (fun g st => eD V r (p + 1) (left - g) (updF a p g) st) (left + 1).toNat left (b1, z')
    rw [eL_step h0, eL_step h0]
    congr 1
noncomputable def DR (V : (Int → Int) → Int) (n D : Int) : St := eD V (n - 1).toNat 0 D (fun _ => 0) (1000000, fun _ => 0)

set_option maxRecDepth 100000 in
set_option maxHeartbeats 4000000 in
theorem c_X0_findBestDeal (M : Mm) (D : Int) (hd : DL M) (hn : 1 ≤ nH M ∧ nH M ≤ 4) (hD : 0 ≤ D ∧ D ≤ 20) : CtV yX0_findBestDeal cX0_findBestDeal 3 9 SH [rv 29, rv 14, iv D] M (fun M' => M' 29 2 = (DR (VC M) (nH M) D).1 ∧ (∀ j, 0 ≤ j → j < nH M → M' 31 (M 32 j) = (DR (VC M) (nH M) D).2 j) ∧ Fr [29, 31, 33, 35] M M') := by
  refine CtV.of rfl (Nat.le_of_ble_eq_true rfl) (fun v as E hret => ?_)
  show Ws v as SH 0 0 0 [some (rv 29), some (rv 14), some (iv D)] [] M
  refine s_aload_n E dX0_findBestDeal_0 rfl ?_
  refine s_ldc E dX0_findBestDeal_1 cst_X0_18 ?_
  refine s_putI (kf := 2) E 2 rfl dX0_findBestDeal_3 rfl inb_X0 tyX0_ok nmX0 (Nat.le_of_ble_eq_true rfl) ⟨rfl, rfl⟩ fl_X0_19 (by decide) sh29 rfl ?_
  have hd1 : DL (upm M 29 2 1000000) := hd.fr ((Fr.rf _ M).up (by decide)) (fun b hb => upm_ne (Or.inr hb))
  have e14 : (upm M 29 2 1000000) 14 = M 14 := upm_row (by decide)
  have e15 : (upm M 29 2 1000000) 15 = M 15 := upm_row (by decide)
  have e16 : (upm M 29 2 1000000) 16 = M 16 := upm_row (by decide)
  have e17 : (upm M 29 2 1000000) 17 = M 17 := upm_row (by decide)
  have e32 : (upm M 29 2 1000000) 32 = M 32 := upm_row (by decide)
  have eV : VC (upm M 29 2 1000000) = VC M := by unfold VC; rw [e14, e15, e16, e17]
  have eH : nH (upm M 29 2 1000000) = nH M := by unfold nH; rw [e14, e15]
  have e2 : (upm M 29 2 1000000) 29 2 = 1000000 := upm_eq _ _ _ _
  have hDS : DS (upm M 29 2 1000000) (upm M 29 2 1000000) (fun _ => 0) 0 (1000000, fun j => M 31 (M 32 j)) := ⟨Fr.rf _ _, fun _ _ => rfl, e2, by rw [e2]; exact ⟨(by decide : (0:Int) ≤ 1000000), (by decide : (1000000:Int) ≤ 1000000)⟩, fun j h1 h2 => by rw [e32, upm_row (by decide)], fun j h1 h2 => by omega⟩
  have hCd := c_X0_deal (upm M 29 2 1000000) hd1 (by rw [e2]; decide) (nH M - 1).toNat (upm M 29 2 1000000) 0 D (fun _ => 0) _ (by rw [eH]; omega) (by decide) hD (fun j h1 h2 => by omega) hDS
  rw [eV] at hCd
  have hin : eD (VC M) (nH M - 1).toNat 0 D (fun _ => 0) (1000000, fun j => M 31 (M 32 j)) = DR (VC M) (nH M) D := eD_ind _ _ _ _ hD.1 (fun b q1 q2 q3 => by
    have := (VA_spec (be := M 17) hd.1 (a := b) (fun j h1 h2 => by have h3 : j < nH M := h2
                                                                   have := q2 j (by omega) (by omega); omega)).1
    have h9 : VC M b ≤ 2000 := this.2
    omega)
  rw [hin] at hCd
  refine s_aload_n E dX0_findBestDeal_6 rfl ?_
  refine s_aload_n E dX0_findBestDeal_7 rfl ?_
  refine s_iconst E dX0_findBestDeal_8 ?_
  refine s_iload_n E dX0_findBestDeal_9 rfl ?_
  refine s_callSv E hCd dX0_findBestDeal_10 mf_X0_deal ml_X0_94 rfl (by omega) (Nat.le_of_ble_eq_true rfl) rfl (fun M10 h10 => ?_)
  refine hret _ ?_ _ _ dX0_findBestDeal_13
  refine ⟨h10.2.2.1, fun j h1 h2 => ?_, fun x hx => ?_⟩
  · have := h10.2.2.2.2.1 j h1 (by rw [eH]; exact h2)
    rw [e32] at this
    exact this
  · rw [h10.1 x hx, upm_row (fun q => hx (by rw [q]; decide))]

set_option maxRecDepth 100000 in
set_option maxHeartbeats 4000000 in
theorem c_X7_dealt (M : Mm) (D k : Int) (hD : inI D) (hk : inI k) (hm : MOK (M 14 3) (M 15) (M 16) (M 17)) : CtI yX7_dealt cX7_dealt 4 .int 10 SH [rv 0, iv D, iv k] M (fun r M' => Kp M M' ∧ (¬ (k = -1 ∨ (0 ≤ k ∧ k < 6)) → r = -1) ∧ ((k = -1 ∨ (0 ≤ k ∧ k < 6)) → ¬ (0 ≤ D ∧ D ≤ 20) → r = -2) ∧ ((k = -1 ∨ (0 ≤ k ∧ k < 6)) → (0 ≤ D ∧ D ≤ 20) → ¬ (1 ≤ nH M ∧ nH M ≤ 4) → r = -5) ∧ ((k = -1 ∨ (0 ≤ k ∧ k < 6)) → (0 ≤ D ∧ D ≤ 20) → (1 ≤ nH M ∧ nH M ≤ 4) → (k = -1 → r = sumN (M 16) (M 14 3).toNat + (DR (VC M) (nH M) D).1) ∧ (k ≠ -1 → hasP (M 14 3) (M 15) k → r = (DR (VC M) (nH M) D).2 (ps (M 14 3) (M 15) k)) ∧ (k ≠ -1 → ¬ hasP (M 14 3) (M 15) k → r = -6))) := by
  refine CtI.of rfl (Nat.le_of_ble_eq_true rfl) (Or.inl rfl) (fun v as E hret => ?_)
  show Ws v as SH 0 0 0 [some (rv 0), some (iv D), some (iv k), none] [] M
  refine s_iload_n E dX7_dealt_0 rfl ?_
  refine s_iconst E dX7_dealt_1 ?_
  refine s_icmp_eq E 14 dX7_dealt_2 (by decide) (by omega) (by omega) (fun h2 => ?_) (fun h2 => ?_)
  · refine s_iload_n E dX7_dealt_14 rfl ?_
    refine s_if_lt E 24 dX7_dealt_15 (by decide) (by omega) (fun h15 => ?_) (fun h15 => ?_)
    · refine s_bipush E dX7_dealt_24 rfl ?_
      refine hret _ _ ?_ (fun q => by cases q) _ _ dX7_dealt_26
      exact ⟨Kp.rf M, fun q => by omega, fun _ _ => rfl, fun _ q => by omega, fun _ q => by omega⟩
    · refine s_iload_n E dX7_dealt_18 rfl ?_
      refine s_bipush E dX7_dealt_19 rfl ?_
      refine s_icmp_le E 27 dX7_dealt_21 (by decide) (by omega) (by omega) (fun h21 => ?_) (fun h21 => ?_)
      · refine s_aload_n E dX7_dealt_27 rfl ?_
        refine s_getR (kf := 0) E dX7_dealt_28 rfl inb_X7 (Nat.le_of_ble_eq_true rfl) fl_X7_10 (by decide) sh0 rfl ?_
        refine s_getR (kf := 2) E dX7_dealt_31 rfl inb_X2 (Nat.le_of_ble_eq_true rfl) fl_X7_114 (by decide) sh1 rfl ?_
        refine s_astore_n (ls' := [_, _, _, _]) E dX7_dealt_34 (Nat.le_of_ble_eq_true rfl) rfl ?_
        refine s_aload_n E dX7_dealt_35 rfl ?_
        refine s_getR (kf := 5) E dX7_dealt_36 rfl inb_X7 (Nat.le_of_ble_eq_true rfl) fl_X7_41 (by decide) sh0 rfl ?_
        refine s_aload_n E dX7_dealt_39 rfl ?_
        refine s_callVv E (c_X0_findHolders M hm) dX7_dealt_40 mf_X0_findHolders ml_X7_155 rfl (Nat.le_of_ble_eq_true rfl) (Nat.le_of_ble_eq_true rfl) (by decide) sh29 rfl rfl (fun M40 h40 => ?_)
        obtain ⟨a40, c40, d40⟩ := h40
        have k14 := d40 14 (by decide); have k15 := d40 15 (by decide); have k16 := d40 16 (by decide); have k17 := d40 17 (by decide)
        have b40 : M40 29 3 = nH M ∧ ∀ k, 0 ≤ k → k < 6 → hasP (M 14 3) (M 15) k → M40 32 (ps (M 14 3) (M 15) k) = k := by
          have q := a40
          unfold HO at q
          rw [k14, k15] at q
          exact q
        have k40 : Kp M M40 := d40.kp (by decide)
        have bn := ps_rng (c := M 14 3) (bo := M 15) (k := 6) (by decide)
        have bn2 : 0 ≤ nH M ∧ nH M ≤ 6 := bn
        refine s_aload_n E dX7_dealt_43 rfl ?_
        refine s_getR (kf := 5) E dX7_dealt_44 rfl inb_X7 (Nat.le_of_ble_eq_true rfl) fl_X7_41 (by decide) sh0 rfl ?_
        refine s_getI (kf := 3) E 3 rfl dX7_dealt_47 rfl inb_X0 (Nat.le_of_ble_eq_true rfl) fl_X7_158 (by decide) sh29 rfl ?_
        rw [b40.1]
        refine s_iconst E dX7_dealt_50 ?_
        refine s_icmp_lt E 65 dX7_dealt_51 (by decide) (by omega) (by omega) (fun h51 => ?_) (fun h51 => ?_)
        · refine s_bipush E dX7_dealt_65 rfl ?_
          refine hret _ _ ?_ (fun q => by cases q) _ _ dX7_dealt_67
          exact ⟨k40, fun q => by omega, fun _ q => by omega, fun _ _ _ => rfl, fun _ _ q => by omega⟩
        · refine s_aload_n E dX7_dealt_54 rfl ?_
          refine s_getR (kf := 5) E dX7_dealt_55 rfl inb_X7 (Nat.le_of_ble_eq_true rfl) fl_X7_41 (by decide) sh0 rfl ?_
          refine s_getI (kf := 3) E 3 rfl dX7_dealt_58 rfl inb_X0 (Nat.le_of_ble_eq_true rfl) fl_X7_158 (by decide) sh29 rfl ?_
          rw [b40.1]
          refine s_iconst E dX7_dealt_61 ?_
          refine s_icmp_le E 68 dX7_dealt_62 (by decide) (by omega) (by omega) (fun h62 => ?_) (fun h62 => ?_)
          · refine s_iload_n E dX7_dealt_68 rfl ?_
            refine s_iconst E dX7_dealt_69 ?_
            refine s_icmp_eq E 84 dX7_dealt_70 (by decide) (by omega) (by omega) (fun h70 => ?_) (fun h70 => ?_)
            · refine s_aload_n E dX7_dealt_84 rfl ?_
              refine s_getR (kf := 5) E dX7_dealt_85 rfl inb_X7 (Nat.le_of_ble_eq_true rfl) fl_X7_41 (by decide) sh0 rfl ?_
              refine s_aload_n E dX7_dealt_88 rfl ?_
              refine s_callVv E (c_X0_prepare M40 (by rw [k14, k15, k16, k17]; exact hm)) dX7_dealt_89 mf_X0_prepare ml_X7_132 rfl (Nat.le_of_ble_eq_true rfl) (Nat.le_of_ble_eq_true rfl) (by decide) sh29 rfl rfl (fun M89 h89 => ?_)
              obtain ⟨a89, b89, d89⟩ := h89
              have e29 : M89 29 3 = M40 29 3 := a89.2 3 (by decide)
              replace a89 := a89.1
              have m14 : M89 14 = M 14 := by rw [d89 14 (by decide), k14]
              have m15 : M89 15 = M 15 := by rw [d89 15 (by decide), k15]
              have m16 : M89 16 = M 16 := by rw [d89 16 (by decide), k16]
              have m17 : M89 17 = M 17 := by rw [d89 17 (by decide), k17]
              have m32 : M89 32 = M40 32 := d89 32 (by decide)
              rw [k14] at a89
              rw [k14, k15, k16] at b89
              have hDL : DL M89 := by
                unfold DL HO
                rw [m14, m15, m16, m17, m32]
                exact ⟨hm, a89, b89, e29.trans b40.1, b40.2⟩
              have eV : VC M89 = VC M := by unfold VC; rw [m14, m15, m16, m17]
              have eH : nH M89 = nH M := by unfold nH; rw [m14, m15]
              refine s_aload_n E dX7_dealt_92 rfl ?_
              refine s_getR (kf := 5) E dX7_dealt_93 rfl inb_X7 (Nat.le_of_ble_eq_true rfl) fl_X7_41 (by decide) sh0 rfl ?_
              refine s_aload_n E dX7_dealt_96 rfl ?_
              refine s_iload_n E dX7_dealt_97 rfl ?_
              refine s_callVv E (c_X0_findBestDeal M89 D hDL (by rw [eH]; omega) (by omega)) dX7_dealt_98 mf_X0_findBestDeal ml_X7_164 rfl (Nat.le_of_ble_eq_true rfl) (Nat.le_of_ble_eq_true rfl) (by decide) sh29 rfl rfl (fun M98 h98 => ?_)
              obtain ⟨a98, b98, c98⟩ := h98
              have k98 : Kp M M98 := (k40.tr (d89.kp (by decide))).tr (c98.kp (by decide))
              refine s_iload_n E dX7_dealt_101 rfl ?_
              refine s_iconst E dX7_dealt_102 ?_
              refine s_icmp_ne E 121 dX7_dealt_103 (by decide) (by omega) (by omega) (fun h103 => ?_) (fun h103 => ?_)
              · refine s_aload_n E dX7_dealt_121 rfl ?_
                refine s_getR (kf := 5) E dX7_dealt_122 rfl inb_X7 (Nat.le_of_ble_eq_true rfl) fl_X7_41 (by decide) sh0 rfl ?_
                refine s_getR (kf := 1) E dX7_dealt_125 rfl inb_X0 (Nat.le_of_ble_eq_true rfl) fl_X7_170 (by decide) sh29 rfl ?_
                refine s_iload_n E dX7_dealt_128 rfl ?_
                refine s_iald E dX7_dealt_129 (by decide) sh31 (Nat.le_of_ble_eq_true rfl) (by omega) ?_
                refine hret _ _ ?_ (fun q => by cases q) _ _ dX7_dealt_130
                exact absurd h70 h103
              · refine s_aload_n E dX7_dealt_106 rfl ?_
                refine s_callVi E (c_X4_allMinutes _ (by rw [c98 14 (by decide), m14]; have := hm.1; have := hm.2.1; omega)) dX7_dealt_107 mf_X4_allMinutes ml_X7_145 rfl (Nat.le_of_ble_eq_true rfl) (Nat.le_of_ble_eq_true rfl) (by decide) sh14 rfl rfl (fun r107 M107 h107 => ?_)
                obtain ⟨e107, f107⟩ := h107; subst r107; subst M107
                rw [c98 16 (by decide), c98 14 (by decide), m14, m16]
                refine s_aload_n E dX7_dealt_110 rfl ?_
                refine s_getR (kf := 5) E dX7_dealt_111 rfl inb_X7 (Nat.le_of_ble_eq_true rfl) fl_X7_41 (by decide) sh0 rfl ?_
                refine s_getI (kf := 2) E 2 rfl dX7_dealt_114 rfl inb_X0 (Nat.le_of_ble_eq_true rfl) fl_X7_167 (by decide) sh29 rfl ?_
                refine s_iadd E dX7_dealt_117 ?_
                refine s_goto E 130 dX7_dealt_118 (by decide) ?_
                refine hret _ _ ?_ (fun q => by cases q) _ _ dX7_dealt_130
                exact ⟨k98, fun q => by omega, fun _ q => by omega, fun _ _ q => by omega, fun _ _ _ => ⟨fun _ => by rw [a98, eV, eH], fun q => by omega, fun q => by omega⟩⟩
            · refine s_aload_n E dX7_dealt_73 rfl ?_
              refine s_iload_n E dX7_dealt_74 rfl ?_
              refine s_callVi E (c_X4_has _ _ (by omega) (by rw [k14, k15, k16, k17]; exact hm)) dX7_dealt_75 mf_X4_has ml_X7_161 rfl (Nat.le_of_ble_eq_true rfl) (Nat.le_of_ble_eq_true rfl) (by decide) sh14 rfl rfl (fun r75 M75 h75 => ?_)
              obtain ⟨e75, f75⟩ := h75; subst r75; subst M75
              rw [show (∃ j, (0 ≤ j ∧ j < M40 14 3) ∧ M40 15 j = k) = hasP (M 14 3) (M 15) k by rw [k14, k15]; rfl]
              refine s_ifneB E 84 dX7_dealt_78 (by decide) (fun h78 => ?_) (fun h78 => ?_)
              · refine s_aload_n E dX7_dealt_84 rfl ?_
                refine s_getR (kf := 5) E dX7_dealt_85 rfl inb_X7 (Nat.le_of_ble_eq_true rfl) fl_X7_41 (by decide) sh0 rfl ?_
                refine s_aload_n E dX7_dealt_88 rfl ?_
                refine s_callVv E (c_X0_prepare M40 (by rw [k14, k15, k16, k17]; exact hm)) dX7_dealt_89 mf_X0_prepare ml_X7_132 rfl (Nat.le_of_ble_eq_true rfl) (Nat.le_of_ble_eq_true rfl) (by decide) sh29 rfl rfl (fun M89 h89 => ?_)
                obtain ⟨a89, b89, d89⟩ := h89
                have e29 : M89 29 3 = M40 29 3 := a89.2 3 (by decide)
                replace a89 := a89.1
                have m14 : M89 14 = M 14 := by rw [d89 14 (by decide), k14]
                have m15 : M89 15 = M 15 := by rw [d89 15 (by decide), k15]
                have m16 : M89 16 = M 16 := by rw [d89 16 (by decide), k16]
                have m17 : M89 17 = M 17 := by rw [d89 17 (by decide), k17]
                have m32 : M89 32 = M40 32 := d89 32 (by decide)
                rw [k14] at a89
                rw [k14, k15, k16] at b89
                have hDL : DL M89 := by
                  unfold DL HO
                  rw [m14, m15, m16, m17, m32]
                  exact ⟨hm, a89, b89, e29.trans b40.1, b40.2⟩
                have eV : VC M89 = VC M := by unfold VC; rw [m14, m15, m16, m17]
                have eH : nH M89 = nH M := by unfold nH; rw [m14, m15]
                refine s_aload_n E dX7_dealt_92 rfl ?_
                refine s_getR (kf := 5) E dX7_dealt_93 rfl inb_X7 (Nat.le_of_ble_eq_true rfl) fl_X7_41 (by decide) sh0 rfl ?_
                refine s_aload_n E dX7_dealt_96 rfl ?_
                refine s_iload_n E dX7_dealt_97 rfl ?_
                refine s_callVv E (c_X0_findBestDeal M89 D hDL (by rw [eH]; omega) (by omega)) dX7_dealt_98 mf_X0_findBestDeal ml_X7_164 rfl (Nat.le_of_ble_eq_true rfl) (Nat.le_of_ble_eq_true rfl) (by decide) sh29 rfl rfl (fun M98 h98 => ?_)
                obtain ⟨a98, b98, c98⟩ := h98
                have k98 : Kp M M98 := (k40.tr (d89.kp (by decide))).tr (c98.kp (by decide))
                refine s_iload_n E dX7_dealt_101 rfl ?_
                refine s_iconst E dX7_dealt_102 ?_
                refine s_icmp_ne E 121 dX7_dealt_103 (by decide) (by omega) (by omega) (fun h103 => ?_) (fun h103 => ?_)
                · refine s_aload_n E dX7_dealt_121 rfl ?_
                  refine s_getR (kf := 5) E dX7_dealt_122 rfl inb_X7 (Nat.le_of_ble_eq_true rfl) fl_X7_41 (by decide) sh0 rfl ?_
                  refine s_getR (kf := 1) E dX7_dealt_125 rfl inb_X0 (Nat.le_of_ble_eq_true rfl) fl_X7_170 (by decide) sh29 rfl ?_
                  refine s_iload_n E dX7_dealt_128 rfl ?_
                  refine s_iald E dX7_dealt_129 (by decide) sh31 (Nat.le_of_ble_eq_true rfl) (by omega) ?_
                  refine hret _ _ ?_ (fun q => by cases q) _ _ dX7_dealt_130
                  refine ⟨k98, fun q => by omega, fun _ q => by omega, fun _ _ q => by omega, fun _ _ _ => ⟨fun q => by omega, fun _ q => ?_, fun _ q => ?_⟩⟩
                  · have hp := ps_lt (c := M 14 3) (bo := M 15) (k := k) (k' := 6) (by omega) (by omega) q
                    have hp0 := ps_rng (c := M 14 3) (bo := M 15) (k := k) (by omega)
                    have := b98 (ps (M 14 3) (M 15) k) hp0.1 (by rw [eH]; exact hp)
                    rw [eV, eH, m32, b40.2 k (by omega) (by omega) q] at this
                    exact this
                  · exact absurd h78 q
                · refine s_aload_n E dX7_dealt_106 rfl ?_
                  refine s_callVi E (c_X4_allMinutes _ (by rw [c98 14 (by decide), m14]; have := hm.1; have := hm.2.1; omega)) dX7_dealt_107 mf_X4_allMinutes ml_X7_145 rfl (Nat.le_of_ble_eq_true rfl) (Nat.le_of_ble_eq_true rfl) (by decide) sh14 rfl rfl (fun r107 M107 h107 => ?_)
                  obtain ⟨e107, f107⟩ := h107; subst r107; subst M107
                  rw [c98 16 (by decide), c98 14 (by decide), m14, m16]
                  refine s_aload_n E dX7_dealt_110 rfl ?_
                  refine s_getR (kf := 5) E dX7_dealt_111 rfl inb_X7 (Nat.le_of_ble_eq_true rfl) fl_X7_41 (by decide) sh0 rfl ?_
                  refine s_getI (kf := 2) E 2 rfl dX7_dealt_114 rfl inb_X0 (Nat.le_of_ble_eq_true rfl) fl_X7_167 (by decide) sh29 rfl ?_
                  refine s_iadd E dX7_dealt_117 ?_
                  refine s_goto E 130 dX7_dealt_118 (by decide) ?_
                  refine hret _ _ ?_ (fun q => by cases q) _ _ dX7_dealt_130
                  exact ⟨k98, fun q => by omega, fun _ q => by omega, fun _ _ q => by omega, fun _ _ _ => ⟨fun _ => by rw [a98, eV, eH], fun q => by omega, fun q => by omega⟩⟩
              · refine s_bipush E dX7_dealt_81 rfl ?_
                refine hret _ _ ?_ (fun q => by cases q) _ _ dX7_dealt_83
                exact ⟨k40, fun q => by omega, fun _ q => by omega, fun _ _ q => by omega, fun _ _ _ => ⟨fun q => by omega, fun _ q => absurd q h78, fun _ _ => rfl⟩⟩
          · refine s_bipush E dX7_dealt_65 rfl ?_
            refine hret _ _ ?_ (fun q => by cases q) _ _ dX7_dealt_67
            exact ⟨k40, fun q => by omega, fun _ q => by omega, fun _ _ _ => rfl, fun _ _ q => by omega⟩
      · refine s_bipush E dX7_dealt_24 rfl ?_
        refine hret _ _ ?_ (fun q => by cases q) _ _ dX7_dealt_26
        exact ⟨Kp.rf M, fun q => by omega, fun _ _ => rfl, fun _ q => by omega, fun _ q => by omega⟩
  · refine s_iload_n E dX7_dealt_5 rfl ?_
    refine s_callSi E (c_X7_isOne _ _ (by omega)) dX7_dealt_6 mf_X7_isOne ml_X7_59 rfl (Nat.le_of_ble_eq_true rfl) (Nat.le_of_ble_eq_true rfl) rfl (fun r6 M6 h6 => ?_)
    obtain ⟨e6, f6⟩ := h6; subst r6; subst M6
    refine s_ifneB E 14 dX7_dealt_9 (by decide) (fun h9 => ?_) (fun h9 => ?_)
    · refine s_iload_n E dX7_dealt_14 rfl ?_
      refine s_if_lt E 24 dX7_dealt_15 (by decide) (by omega) (fun h15 => ?_) (fun h15 => ?_)
      · refine s_bipush E dX7_dealt_24 rfl ?_
        refine hret _ _ ?_ (fun q => by cases q) _ _ dX7_dealt_26
        exact ⟨Kp.rf M, fun q => by omega, fun _ _ => rfl, fun _ q => by omega, fun _ q => by omega⟩
      · refine s_iload_n E dX7_dealt_18 rfl ?_
        refine s_bipush E dX7_dealt_19 rfl ?_
        refine s_icmp_le E 27 dX7_dealt_21 (by decide) (by omega) (by omega) (fun h21 => ?_) (fun h21 => ?_)
        · refine s_aload_n E dX7_dealt_27 rfl ?_
          refine s_getR (kf := 0) E dX7_dealt_28 rfl inb_X7 (Nat.le_of_ble_eq_true rfl) fl_X7_10 (by decide) sh0 rfl ?_
          refine s_getR (kf := 2) E dX7_dealt_31 rfl inb_X2 (Nat.le_of_ble_eq_true rfl) fl_X7_114 (by decide) sh1 rfl ?_
          refine s_astore_n (ls' := [_, _, _, _]) E dX7_dealt_34 (Nat.le_of_ble_eq_true rfl) rfl ?_
          refine s_aload_n E dX7_dealt_35 rfl ?_
          refine s_getR (kf := 5) E dX7_dealt_36 rfl inb_X7 (Nat.le_of_ble_eq_true rfl) fl_X7_41 (by decide) sh0 rfl ?_
          refine s_aload_n E dX7_dealt_39 rfl ?_
          refine s_callVv E (c_X0_findHolders M hm) dX7_dealt_40 mf_X0_findHolders ml_X7_155 rfl (Nat.le_of_ble_eq_true rfl) (Nat.le_of_ble_eq_true rfl) (by decide) sh29 rfl rfl (fun M40 h40 => ?_)
          obtain ⟨a40, c40, d40⟩ := h40
          have k14 := d40 14 (by decide); have k15 := d40 15 (by decide); have k16 := d40 16 (by decide); have k17 := d40 17 (by decide)
          have b40 : M40 29 3 = nH M ∧ ∀ k, 0 ≤ k → k < 6 → hasP (M 14 3) (M 15) k → M40 32 (ps (M 14 3) (M 15) k) = k := by
            have q := a40
            unfold HO at q
            rw [k14, k15] at q
            exact q
          have k40 : Kp M M40 := d40.kp (by decide)
          have bn := ps_rng (c := M 14 3) (bo := M 15) (k := 6) (by decide)
          have bn2 : 0 ≤ nH M ∧ nH M ≤ 6 := bn
          refine s_aload_n E dX7_dealt_43 rfl ?_
          refine s_getR (kf := 5) E dX7_dealt_44 rfl inb_X7 (Nat.le_of_ble_eq_true rfl) fl_X7_41 (by decide) sh0 rfl ?_
          refine s_getI (kf := 3) E 3 rfl dX7_dealt_47 rfl inb_X0 (Nat.le_of_ble_eq_true rfl) fl_X7_158 (by decide) sh29 rfl ?_
          rw [b40.1]
          refine s_iconst E dX7_dealt_50 ?_
          refine s_icmp_lt E 65 dX7_dealt_51 (by decide) (by omega) (by omega) (fun h51 => ?_) (fun h51 => ?_)
          · refine s_bipush E dX7_dealt_65 rfl ?_
            refine hret _ _ ?_ (fun q => by cases q) _ _ dX7_dealt_67
            exact ⟨k40, fun q => by omega, fun _ q => by omega, fun _ _ _ => rfl, fun _ _ q => by omega⟩
          · refine s_aload_n E dX7_dealt_54 rfl ?_
            refine s_getR (kf := 5) E dX7_dealt_55 rfl inb_X7 (Nat.le_of_ble_eq_true rfl) fl_X7_41 (by decide) sh0 rfl ?_
            refine s_getI (kf := 3) E 3 rfl dX7_dealt_58 rfl inb_X0 (Nat.le_of_ble_eq_true rfl) fl_X7_158 (by decide) sh29 rfl ?_
            rw [b40.1]
            refine s_iconst E dX7_dealt_61 ?_
            refine s_icmp_le E 68 dX7_dealt_62 (by decide) (by omega) (by omega) (fun h62 => ?_) (fun h62 => ?_)
            · refine s_iload_n E dX7_dealt_68 rfl ?_
              refine s_iconst E dX7_dealt_69 ?_
              refine s_icmp_eq E 84 dX7_dealt_70 (by decide) (by omega) (by omega) (fun h70 => ?_) (fun h70 => ?_)
              · refine s_aload_n E dX7_dealt_84 rfl ?_
                refine s_getR (kf := 5) E dX7_dealt_85 rfl inb_X7 (Nat.le_of_ble_eq_true rfl) fl_X7_41 (by decide) sh0 rfl ?_
                refine s_aload_n E dX7_dealt_88 rfl ?_
                refine s_callVv E (c_X0_prepare M40 (by rw [k14, k15, k16, k17]; exact hm)) dX7_dealt_89 mf_X0_prepare ml_X7_132 rfl (Nat.le_of_ble_eq_true rfl) (Nat.le_of_ble_eq_true rfl) (by decide) sh29 rfl rfl (fun M89 h89 => ?_)
                obtain ⟨a89, b89, d89⟩ := h89
                have e29 : M89 29 3 = M40 29 3 := a89.2 3 (by decide)
                replace a89 := a89.1
                have m14 : M89 14 = M 14 := by rw [d89 14 (by decide), k14]
                have m15 : M89 15 = M 15 := by rw [d89 15 (by decide), k15]
                have m16 : M89 16 = M 16 := by rw [d89 16 (by decide), k16]
                have m17 : M89 17 = M 17 := by rw [d89 17 (by decide), k17]
                have m32 : M89 32 = M40 32 := d89 32 (by decide)
                rw [k14] at a89
                rw [k14, k15, k16] at b89
                have hDL : DL M89 := by
                  unfold DL HO
                  rw [m14, m15, m16, m17, m32]
                  exact ⟨hm, a89, b89, e29.trans b40.1, b40.2⟩
                have eV : VC M89 = VC M := by unfold VC; rw [m14, m15, m16, m17]
                have eH : nH M89 = nH M := by unfold nH; rw [m14, m15]
                refine s_aload_n E dX7_dealt_92 rfl ?_
                refine s_getR (kf := 5) E dX7_dealt_93 rfl inb_X7 (Nat.le_of_ble_eq_true rfl) fl_X7_41 (by decide) sh0 rfl ?_
                refine s_aload_n E dX7_dealt_96 rfl ?_
                refine s_iload_n E dX7_dealt_97 rfl ?_
                refine s_callVv E (c_X0_findBestDeal M89 D hDL (by rw [eH]; omega) (by omega)) dX7_dealt_98 mf_X0_findBestDeal ml_X7_164 rfl (Nat.le_of_ble_eq_true rfl) (Nat.le_of_ble_eq_true rfl) (by decide) sh29 rfl rfl (fun M98 h98 => ?_)
                obtain ⟨a98, b98, c98⟩ := h98
                have k98 : Kp M M98 := (k40.tr (d89.kp (by decide))).tr (c98.kp (by decide))
                refine s_iload_n E dX7_dealt_101 rfl ?_
                refine s_iconst E dX7_dealt_102 ?_
                refine s_icmp_ne E 121 dX7_dealt_103 (by decide) (by omega) (by omega) (fun h103 => ?_) (fun h103 => ?_)
                · refine s_aload_n E dX7_dealt_121 rfl ?_
                  refine s_getR (kf := 5) E dX7_dealt_122 rfl inb_X7 (Nat.le_of_ble_eq_true rfl) fl_X7_41 (by decide) sh0 rfl ?_
                  refine s_getR (kf := 1) E dX7_dealt_125 rfl inb_X0 (Nat.le_of_ble_eq_true rfl) fl_X7_170 (by decide) sh29 rfl ?_
                  refine s_iload_n E dX7_dealt_128 rfl ?_
                  refine s_iald E dX7_dealt_129 (by decide) sh31 (Nat.le_of_ble_eq_true rfl) (by omega) ?_
                  refine hret _ _ ?_ (fun q => by cases q) _ _ dX7_dealt_130
                  exact absurd h70 h103
                · refine s_aload_n E dX7_dealt_106 rfl ?_
                  refine s_callVi E (c_X4_allMinutes _ (by rw [c98 14 (by decide), m14]; have := hm.1; have := hm.2.1; omega)) dX7_dealt_107 mf_X4_allMinutes ml_X7_145 rfl (Nat.le_of_ble_eq_true rfl) (Nat.le_of_ble_eq_true rfl) (by decide) sh14 rfl rfl (fun r107 M107 h107 => ?_)
                  obtain ⟨e107, f107⟩ := h107; subst r107; subst M107
                  rw [c98 16 (by decide), c98 14 (by decide), m14, m16]
                  refine s_aload_n E dX7_dealt_110 rfl ?_
                  refine s_getR (kf := 5) E dX7_dealt_111 rfl inb_X7 (Nat.le_of_ble_eq_true rfl) fl_X7_41 (by decide) sh0 rfl ?_
                  refine s_getI (kf := 2) E 2 rfl dX7_dealt_114 rfl inb_X0 (Nat.le_of_ble_eq_true rfl) fl_X7_167 (by decide) sh29 rfl ?_
                  refine s_iadd E dX7_dealt_117 ?_
                  refine s_goto E 130 dX7_dealt_118 (by decide) ?_
                  refine hret _ _ ?_ (fun q => by cases q) _ _ dX7_dealt_130
                  exact ⟨k98, fun q => by omega, fun _ q => by omega, fun _ _ q => by omega, fun _ _ _ => ⟨fun _ => by rw [a98, eV, eH], fun q => by omega, fun q => by omega⟩⟩
              · refine s_aload_n E dX7_dealt_73 rfl ?_
                refine s_iload_n E dX7_dealt_74 rfl ?_
                refine s_callVi E (c_X4_has _ _ (by omega) (by rw [k14, k15, k16, k17]; exact hm)) dX7_dealt_75 mf_X4_has ml_X7_161 rfl (Nat.le_of_ble_eq_true rfl) (Nat.le_of_ble_eq_true rfl) (by decide) sh14 rfl rfl (fun r75 M75 h75 => ?_)
                obtain ⟨e75, f75⟩ := h75; subst r75; subst M75
                rw [show (∃ j, (0 ≤ j ∧ j < M40 14 3) ∧ M40 15 j = k) = hasP (M 14 3) (M 15) k by rw [k14, k15]; rfl]
                refine s_ifneB E 84 dX7_dealt_78 (by decide) (fun h78 => ?_) (fun h78 => ?_)
                · refine s_aload_n E dX7_dealt_84 rfl ?_
                  refine s_getR (kf := 5) E dX7_dealt_85 rfl inb_X7 (Nat.le_of_ble_eq_true rfl) fl_X7_41 (by decide) sh0 rfl ?_
                  refine s_aload_n E dX7_dealt_88 rfl ?_
                  refine s_callVv E (c_X0_prepare M40 (by rw [k14, k15, k16, k17]; exact hm)) dX7_dealt_89 mf_X0_prepare ml_X7_132 rfl (Nat.le_of_ble_eq_true rfl) (Nat.le_of_ble_eq_true rfl) (by decide) sh29 rfl rfl (fun M89 h89 => ?_)
                  obtain ⟨a89, b89, d89⟩ := h89
                  have e29 : M89 29 3 = M40 29 3 := a89.2 3 (by decide)
                  replace a89 := a89.1
                  have m14 : M89 14 = M 14 := by rw [d89 14 (by decide), k14]
                  have m15 : M89 15 = M 15 := by rw [d89 15 (by decide), k15]
                  have m16 : M89 16 = M 16 := by rw [d89 16 (by decide), k16]
                  have m17 : M89 17 = M 17 := by rw [d89 17 (by decide), k17]
                  have m32 : M89 32 = M40 32 := d89 32 (by decide)
                  rw [k14] at a89
                  rw [k14, k15, k16] at b89
                  have hDL : DL M89 := by
                    unfold DL HO
                    rw [m14, m15, m16, m17, m32]
                    exact ⟨hm, a89, b89, e29.trans b40.1, b40.2⟩
                  have eV : VC M89 = VC M := by unfold VC; rw [m14, m15, m16, m17]
                  have eH : nH M89 = nH M := by unfold nH; rw [m14, m15]
                  refine s_aload_n E dX7_dealt_92 rfl ?_
                  refine s_getR (kf := 5) E dX7_dealt_93 rfl inb_X7 (Nat.le_of_ble_eq_true rfl) fl_X7_41 (by decide) sh0 rfl ?_
                  refine s_aload_n E dX7_dealt_96 rfl ?_
                  refine s_iload_n E dX7_dealt_97 rfl ?_
                  refine s_callVv E (c_X0_findBestDeal M89 D hDL (by rw [eH]; omega) (by omega)) dX7_dealt_98 mf_X0_findBestDeal ml_X7_164 rfl (Nat.le_of_ble_eq_true rfl) (Nat.le_of_ble_eq_true rfl) (by decide) sh29 rfl rfl (fun M98 h98 => ?_)
                  obtain ⟨a98, b98, c98⟩ := h98
                  have k98 : Kp M M98 := (k40.tr (d89.kp (by decide))).tr (c98.kp (by decide))
                  refine s_iload_n E dX7_dealt_101 rfl ?_
                  refine s_iconst E dX7_dealt_102 ?_
                  refine s_icmp_ne E 121 dX7_dealt_103 (by decide) (by omega) (by omega) (fun h103 => ?_) (fun h103 => ?_)
                  · refine s_aload_n E dX7_dealt_121 rfl ?_
                    refine s_getR (kf := 5) E dX7_dealt_122 rfl inb_X7 (Nat.le_of_ble_eq_true rfl) fl_X7_41 (by decide) sh0 rfl ?_
                    refine s_getR (kf := 1) E dX7_dealt_125 rfl inb_X0 (Nat.le_of_ble_eq_true rfl) fl_X7_170 (by decide) sh29 rfl ?_
                    refine s_iload_n E dX7_dealt_128 rfl ?_
                    refine s_iald E dX7_dealt_129 (by decide) sh31 (Nat.le_of_ble_eq_true rfl) (by omega) ?_
                    refine hret _ _ ?_ (fun q => by cases q) _ _ dX7_dealt_130
                    refine ⟨k98, fun q => by omega, fun _ q => by omega, fun _ _ q => by omega, fun _ _ _ => ⟨fun q => by omega, fun _ q => ?_, fun _ q => ?_⟩⟩
                    · have hp := ps_lt (c := M 14 3) (bo := M 15) (k := k) (k' := 6) (by omega) (by omega) q
                      have hp0 := ps_rng (c := M 14 3) (bo := M 15) (k := k) (by omega)
                      have := b98 (ps (M 14 3) (M 15) k) hp0.1 (by rw [eH]; exact hp)
                      rw [eV, eH, m32, b40.2 k (by omega) (by omega) q] at this
                      exact this
                    · exact absurd h78 q
                  · refine s_aload_n E dX7_dealt_106 rfl ?_
                    refine s_callVi E (c_X4_allMinutes _ (by rw [c98 14 (by decide), m14]; have := hm.1; have := hm.2.1; omega)) dX7_dealt_107 mf_X4_allMinutes ml_X7_145 rfl (Nat.le_of_ble_eq_true rfl) (Nat.le_of_ble_eq_true rfl) (by decide) sh14 rfl rfl (fun r107 M107 h107 => ?_)
                    obtain ⟨e107, f107⟩ := h107; subst r107; subst M107
                    rw [c98 16 (by decide), c98 14 (by decide), m14, m16]
                    refine s_aload_n E dX7_dealt_110 rfl ?_
                    refine s_getR (kf := 5) E dX7_dealt_111 rfl inb_X7 (Nat.le_of_ble_eq_true rfl) fl_X7_41 (by decide) sh0 rfl ?_
                    refine s_getI (kf := 2) E 2 rfl dX7_dealt_114 rfl inb_X0 (Nat.le_of_ble_eq_true rfl) fl_X7_167 (by decide) sh29 rfl ?_
                    refine s_iadd E dX7_dealt_117 ?_
                    refine s_goto E 130 dX7_dealt_118 (by decide) ?_
                    refine hret _ _ ?_ (fun q => by cases q) _ _ dX7_dealt_130
                    exact ⟨k98, fun q => by omega, fun _ q => by omega, fun _ _ q => by omega, fun _ _ _ => ⟨fun _ => by rw [a98, eV, eH], fun q => by omega, fun q => by omega⟩⟩
                · refine s_bipush E dX7_dealt_81 rfl ?_
                  refine hret _ _ ?_ (fun q => by cases q) _ _ dX7_dealt_83
                  exact ⟨k40, fun q => by omega, fun _ q => by omega, fun _ _ q => by omega, fun _ _ _ => ⟨fun q => by omega, fun _ q => absurd q h78, fun _ _ => rfl⟩⟩
            · refine s_bipush E dX7_dealt_65 rfl ?_
              refine hret _ _ ?_ (fun q => by cases q) _ _ dX7_dealt_67
              exact ⟨k40, fun q => by omega, fun _ q => by omega, fun _ _ _ => rfl, fun _ _ q => by omega⟩
        · refine s_bipush E dX7_dealt_24 rfl ?_
          refine hret _ _ ?_ (fun q => by cases q) _ _ dX7_dealt_26
          exact ⟨Kp.rf M, fun q => by omega, fun _ _ => rfl, fun _ q => by omega, fun _ q => by omega⟩
    · refine s_iconst E dX7_dealt_12 ?_
      refine hret _ _ ?_ (fun q => by cases q) _ _ dX7_dealt_13
      exact ⟨Kp.rf M, fun _ => rfl, fun q => by omega, fun q => by omega, fun q => by omega⟩
