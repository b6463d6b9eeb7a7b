/-! ===== the class's agenda ===== -/
/-- only the rows of l may have changed -/
def Fr (l : List Int) (M M' : Mm) : Prop := ∀ a, a ∉ l → M' a = M a
theorem Fr.rf (l : List Int) (M : Mm) : Fr l M M := fun _ _ => rfl
theorem Fr.tr {l : List Int} {M M1 M2 : Mm} (h : Fr l M M1) (h2 : Fr l M1 M2) : Fr l M M2 := fun a q => (h2 a q).trans (h a q)
theorem Fr.up {l : List Int} {M M1 : Mm} {a b z : Int} (h : Fr l M M1) (ha : a ∈ l) : Fr l M (upm M1 a b z) := fun k q => (upm_row (fun e => q (by rw [e]; exact ha))).trans (h k q)
theorem Fr.sub {l l' : List Int} {M M' : Mm} (h : Fr l M M') (hs : ∀ a ∈ l, a ∈ l') : Fr l' M M' := fun a q => h a (fun w => q (hs a w))
theorem Fr.kp {l : List Int} {M M' : Mm} (h : Fr l M M') (hl : ∀ a ∈ l, (22 ≤ a ∧ a ≤ 36) ∨ (40 ≤ a ∧ a ≤ 44)) : Kp M M' := fun k j q => by rw [h k (fun w => q ((hl k w).elim Or.inl (fun x => Or.inr (Or.inl x))))]
theorem Fr.kpM {l : List Int} {M M' : Mm} (h : Fr l M M') (hl : ∀ a ∈ l, 84 ≤ a ∧ a ≤ 92) : KpM M M' := fun k j q _ => by rw [h k (fun w => q (hl k w))]
theorem nbt_small {s m : Int} (hm : 0 ≤ m ∧ m < 8) (hs : 0 ≤ s ∧ s < iShl 1 m) : ¬ bt s m := by
  obtain ⟨n, rfl⟩ := Int.eq_ofNat_of_zero_le hs.1
  obtain ⟨k, rfl⟩ := Int.eq_ofNat_of_zero_le hm.1
  rw [iShl1 k (by omega)] at hs
  have := pow_lt256 (k := k) (by omega)
  rw [bt_nat (by omega) (by omega), Nat.testBit_lt_two_pow (by omega)]
  decide
theorem shl_succ {m : Int} (hm : 0 ≤ m ∧ m < 8) : iShl 1 (m + 1) = 2 * iShl 1 m := by
  obtain ⟨k, rfl⟩ := Int.eq_ofNat_of_zero_le hm.1
  rw [iShl1 k (by omega), show ((k : Int) + 1) = ((k + 1 : Nat) : Int) by omega, iShl1 (k + 1) (by omega), Nat.pow_succ]
  omega
theorem shl_mono {m c : Int} (h : 0 ≤ m ∧ m ≤ c ∧ c ≤ 8) : iShl 1 m ≤ iShl 1 c := by
  obtain ⟨k, rfl⟩ := Int.eq_ofNat_of_zero_le h.1
  obtain ⟨n, rfl⟩ := Int.eq_ofNat_of_zero_le (show 0 ≤ c by omega)
  rw [iShl1 k (by omega), iShl1 n (by omega)]
  have : 2 ^ k ≤ 2 ^ n := Nat.pow_le_pow_right (by decide) (by omega)
  omega

set_option maxRecDepth 100000 in
set_option maxHeartbeats 4000000 in
theorem c_X4_isNext (M : Mm) (m s : Int) (hm : 0 ≤ m ∧ m < 8) : CtI yX4_isNext cX4_isNext 3 .boolean 2 SH [rv 14, iv m, iv s] M (fun r M' => r = b2 (mayB (M 17) s m) ∧ M' = M) := by
  refine CtI.of rfl (Nat.le_of_ble_eq_true rfl) (Or.inr rfl) (fun v as E hret => ?_)
  show Ws v as SH 0 0 0 [some (rv 14), some (iv m), some (iv s)] [] M
  refine s_iload_n E dX4_isNext_0 rfl ?_
  refine s_iload_n E dX4_isNext_1 rfl ?_
  refine s_callSNi E (c_X7_holds _ _ _ ) dX4_isNext_2 mf_X7_holds ml_X4_25 rfl (Nat.le_of_ble_eq_true rfl) (Nat.le_of_ble_eq_true rfl) rfl (fun r2 M2 h2 => ?_)
  obtain ⟨e2, f2⟩ := h2; subst r2; subst M2
  refine s_ifneB E 25 dX4_isNext_5 (by decide) (fun h5 => ?_) (fun h5 => ?_)
  · refine s_iconst E dX4_isNext_25 ?_
    refine hret _ _ ?_ (fun _ => Or.inl rfl) _ _ dX4_isNext_26
    exact ⟨(b2_neg (fun q => q.1 h5)).symm, rfl⟩
  · refine s_aload_n E dX4_isNext_8 rfl ?_
    refine s_getR (kf := 2) E dX4_isNext_9 rfl inb_X4 (Nat.le_of_ble_eq_true rfl) fl_X4_18 (by decide) sh14 rfl ?_
    refine s_iload_n E dX4_isNext_12 rfl ?_
    refine s_iald E dX4_isNext_13 (by decide) sh17 (Nat.le_of_ble_eq_true rfl) (by omega) ?_
    refine s_iload_n E dX4_isNext_14 rfl ?_
    refine s_iconst E dX4_isNext_15 ?_
    refine s_ixor E dX4_isNext_16 ?_
    refine s_iand E dX4_isNext_17 ?_
    refine s_if_ne E 25 dX4_isNext_18 (by decide) (inI_and _ _) (fun h18 => ?_) (fun h18 => ?_)
    · refine s_iconst E dX4_isNext_25 ?_
      refine hret _ _ ?_ (fun _ => Or.inl rfl) _ _ dX4_isNext_26
      exact ⟨(b2_neg (fun q => h18 q.2)).symm, rfl⟩
    · refine s_iconst E dX4_isNext_21 ?_
      refine s_goto E 26 dX4_isNext_22 (by decide) ?_
      refine hret _ _ ?_ (fun _ => Or.inr rfl) _ _ dX4_isNext_26
      exact ⟨(b2_pos ⟨h5, Classical.byContradiction h18⟩).symm, rfl⟩

set_option maxRecDepth 100000 in
set_option maxHeartbeats 4000000 in
theorem lp_X4_all {v : Ev} {as : List Nat} (M : Mm) (hc : 0 ≤ M 14 3 ∧ M 14 3 ≤ 8) (E : Cx v cX4_allMinutes 3 yX4_allMinutes.cls 1) (hret : RetI v as cX4_allMinutes .int (fun r M' => r = sumN (M 16) (M 14 3).toNat ∧ M' = M)) : ∀ (N : Nat) (t j : Int), (M 14 3 - j).toNat < N → (0 ≤ j ∧ j ≤ M 14 3) → (t = sumN (M 16) j.toNat) → Ws v as SH 0 0 4 [some (rv 14), some (iv t), some (iv j)] [] M := by
  intro N
  induction N with
  | zero =>
    intro t j hN
    exact absurd hN (Nat.not_lt_zero _)
  | succ N ih =>
    intro t j hN g0 g1
    refine s_iload_n E dX4_allMinutes_4 rfl ?_
    refine s_aload_n E dX4_allMinutes_5 rfl ?_
    refine s_getI (kf := 3) E 3 rfl dX4_allMinutes_6 rfl inb_X4 (Nat.le_of_ble_eq_true rfl) fl_X4_21 (by decide) sh14 rfl ?_
    refine s_icmp_ge E 27 dX4_allMinutes_9 (by decide) (by omega) (by omega) (fun h9 => ?_) (fun h9 => ?_)
    · refine s_iload_n E dX4_allMinutes_27 rfl ?_
      refine hret _ _ ?_ (fun q => by cases q) _ _ dX4_allMinutes_28
      exact ⟨by rw [g1, show j = M 14 3 by omega], rfl⟩
    · refine s_iload_n E dX4_allMinutes_12 rfl ?_
      refine s_aload_n E dX4_allMinutes_13 rfl ?_
      refine s_getR (kf := 1) E dX4_allMinutes_14 rfl inb_X4 (Nat.le_of_ble_eq_true rfl) fl_X4_15 (by decide) sh14 rfl ?_
      refine s_iload_n E dX4_allMinutes_17 rfl ?_
      refine s_iald E dX4_allMinutes_18 (by decide) sh16 (Nat.le_of_ble_eq_true rfl) (by omega) ?_
      refine s_iadd E dX4_allMinutes_19 ?_
      refine s_istore_n (ls' := [_, _, _]) E dX4_allMinutes_20 (Nat.le_of_ble_eq_true rfl) rfl ?_
      refine s_iinc (ls' := [_, _, _]) E dX4_allMinutes_21 rfl rfl ?_
      refine s_goto E 4 dX4_allMinutes_24 (by decide) ?_
      exact ih _ _ (by omega) (by omega) (by rw [sumN_step (by omega), ← g1])

set_option maxRecDepth 100000 in
set_option maxHeartbeats 4000000 in
theorem c_X4_allMinutes (M : Mm) (hc : 0 ≤ M 14 3 ∧ M 14 3 ≤ 8) : CtI yX4_allMinutes cX4_allMinutes 3 .int 1 SH [rv 14] M (fun r M' => r = sumN (M 16) (M 14 3).toNat ∧ M' = M) := by
  refine CtI.of rfl (Nat.le_of_ble_eq_true rfl) (Or.inl rfl) (fun v as E hret => ?_)
  show Ws v as SH 0 0 0 [some (rv 14), none, none] [] M
  refine s_iconst E dX4_allMinutes_0 ?_
  refine s_istore_n (ls' := [_, _, _]) E dX4_allMinutes_1 (Nat.le_of_ble_eq_true rfl) rfl ?_
  refine s_iconst E dX4_allMinutes_2 ?_
  refine s_istore_n (ls' := [_, _, _]) E dX4_allMinutes_3 (Nat.le_of_ble_eq_true rfl) rfl ?_
  exact lp_X4_all M hc E hret ((M 14 3).toNat + 1) 0 0 (by omega) (by omega) rfl

set_option maxRecDepth 100000 in
set_option maxHeartbeats 4000000 in
theorem lp_X4_has {v : Ev} {as : List Nat} (M : Mm) (k : Int) (hk : inI k) (hm : MOK (M 14 3) (M 15) (M 16) (M 17)) (E : Cx v cX4_has 3 yX4_has.cls 1) (hret : RetI v as cX4_has .boolean (fun r M' => r = b2 (∃ j, (0 ≤ j ∧ j < M 14 3) ∧ M 15 j = k) ∧ M' = M)) : ∀ (N : Nat) (j : Int), (M 14 3 - j).toNat < N → (0 ≤ j ∧ j ≤ M 14 3) → (∀ i, 0 ≤ i → i < j → M 15 i ≠ k) → Ws v as SH 0 0 2 [some (rv 14), some (iv k), some (iv j)] [] M := by
  intro N
  induction N with
  | zero =>
    intro j hN
    exact absurd hN (Nat.not_lt_zero _)
  | succ N ih =>
    intro j hN g0 g1
    have hc := hm.1; have hc2 := hm.2.1
    refine s_iload_n E dX4_has_2 rfl ?_
    refine s_aload_n E dX4_has_3 rfl ?_
    refine s_getI (kf := 3) E 3 rfl dX4_has_4 rfl inb_X4 (Nat.le_of_ble_eq_true rfl) fl_X4_21 (by decide) sh14 rfl ?_
    refine s_icmp_ge E 28 dX4_has_7 (by decide) (by omega) (by omega) (fun h7 => ?_) (fun h7 => ?_)
    · refine s_iconst E dX4_has_28 ?_
      refine hret _ _ ?_ (fun _ => Or.inl rfl) _ _ dX4_has_29
      exact ⟨(b2_neg (fun ⟨i, q1, q2⟩ => g1 i q1.1 (by omega) q2)).symm, rfl⟩
    · have b0 := hm.2.2 j (by omega) (by omega)
      refine s_aload_n E dX4_has_10 rfl ?_
      refine s_getR (kf := 0) E dX4_has_11 rfl inb_X4 (Nat.le_of_ble_eq_true rfl) fl_X4_9 (by decide) sh14 rfl ?_
      refine s_iload_n E dX4_has_14 rfl ?_
      refine s_iald E dX4_has_15 (by decide) sh15 (Nat.le_of_ble_eq_true rfl) (by omega) ?_
      refine s_iload_n E dX4_has_16 rfl ?_
      refine s_icmp_ne E 22 dX4_has_17 (by decide) (by omega) (by omega) (fun h17 => ?_) (fun h17 => ?_)
      · refine s_iinc (ls' := [_, _, _]) E dX4_has_22 rfl rfl ?_
        refine s_goto E 2 dX4_has_25 (by decide) ?_
        exact ih _ (by omega) (by omega) (fun i h1 h2 => by
          by_cases e : i = j
          · rw [e]; exact h17
          · exact g1 i h1 (by omega))
      · refine s_iconst E dX4_has_20 ?_
        refine hret _ _ ?_ (fun _ => Or.inr rfl) _ _ dX4_has_21
        exact ⟨(b2_pos ⟨j, by omega, by omega⟩).symm, rfl⟩

set_option maxRecDepth 100000 in
set_option maxHeartbeats 4000000 in
theorem c_X4_has (M : Mm) (k : Int) (hk : inI k) (hm : MOK (M 14 3) (M 15) (M 16) (M 17)) : CtI yX4_has cX4_has 3 .boolean 1 SH [rv 14, iv k] M (fun r M' => r = b2 (∃ j, (0 ≤ j ∧ j < M 14 3) ∧ M 15 j = k) ∧ M' = M) := by
  refine CtI.of rfl (Nat.le_of_ble_eq_true rfl) (Or.inr rfl) (fun v as E hret => ?_)
  show Ws v as SH 0 0 0 [some (rv 14), some (iv k), none] [] M
  refine s_iconst E dX4_has_0 ?_
  refine s_istore_n (ls' := [_, _, _]) E dX4_has_1 (Nat.le_of_ble_eq_true rfl) rfl ?_
  have hc := hm.1
  exact lp_X4_has M k hk hm E hret ((M 14 3).toNat + 1) 0 (by omega) (by omega) (fun i h1 h2 => by omega)

set_option maxRecDepth 100000 in
set_option maxHeartbeats 4000000 in
theorem c_X0_lack (M : Mm) (s m : Int) (hs : 0 ≤ s ∧ s ≤ 255) (hm : 0 ≤ m ∧ m < 8) (hb : 0 ≤ M 15 m ∧ M 15 m ≤ 5) : CtI yX0_lack cX0_lack 4 .int 1 SH [rv 29, rv 14, iv s, iv m] M (fun r M' => r = M 34 (s * 8 + m) - M 33 (M 15 m) ∧ M' = M) := by
  refine CtI.of rfl (Nat.le_of_ble_eq_true rfl) (Or.inl rfl) (fun v as E hret => ?_)
  show Ws v as SH 0 0 0 [some (rv 29), some (rv 14), some (iv s), some (iv m)] [] M
  refine s_aload_n E dX0_lack_0 rfl ?_
  refine s_getR (kf := 6) E dX0_lack_1 rfl inb_X0 (Nat.le_of_ble_eq_true rfl) fl_X0_32 (by decide) sh29 rfl ?_
  refine s_iload_n E dX0_lack_4 rfl ?_
  refine s_bipush E dX0_lack_5 rfl ?_
  refine s_imul E dX0_lack_7 ?_
  refine s_iload_n E dX0_lack_8 rfl ?_
  refine s_iadd E dX0_lack_9 ?_
  refine s_iald E dX0_lack_10 (by decide) sh34 (Nat.le_of_ble_eq_true rfl) (by omega) ?_
  refine s_aload_n E dX0_lack_11 rfl ?_
  refine s_getR (kf := 5) E dX0_lack_12 rfl inb_X0 (Nat.le_of_ble_eq_true rfl) fl_X0_29 (by decide) sh29 rfl ?_
  refine s_aload_n E dX0_lack_15 rfl ?_
  refine s_getR (kf := 0) E dX0_lack_16 rfl inb_X4 (Nat.le_of_ble_eq_true rfl) fl_X0_63 (by decide) sh14 rfl ?_
  refine s_iload_n E dX0_lack_19 rfl ?_
  refine s_iald E dX0_lack_20 (by decide) sh15 (Nat.le_of_ble_eq_true rfl) (by omega) ?_
  refine s_iald E dX0_lack_21 (by decide) sh33 (Nat.le_of_ble_eq_true rfl) (by omega) ?_
  refine s_isub E dX0_lack_22 ?_
  refine hret _ _ ?_ (fun q => by cases q) _ _ dX0_lack_23
  exact ⟨rfl, rfl⟩

set_option maxRecDepth 100000 in
set_option maxHeartbeats 4000000 in
theorem lp_X0_nb {v : Ev} {as : List Nat} (M0 : Mm) (s m : Int) (hm : MOK (M0 14 3) (M0 15) (M0 16) (M0 17)) (hs : 0 ≤ s ∧ s ≤ full (M0 14 3)) (hmm : 0 ≤ m ∧ m < M0 14 3) (hbt : ¬ bt s m) (E : Cx v cX0_needBehind 8 yX0_needBehind.cls 1) (hret : RetV v as cX0_needBehind (fun M' => (∀ j, 0 ≤ j → j < M0 14 3 → M' 34 (so s m * 8 + j) = M0 34 (s * 8 + j) + (if M0 15 m = M0 15 j then M0 16 m else - M0 16 m)) ∧ (∀ b, ¬ (so s m * 8 ≤ b ∧ b < so s m * 8 + 8) → M' 34 b = M0 34 b) ∧ Fr [34] M0 M')) : ∀ (N : Nat) (M : Mm) (i : Int) (o7 : Option Vv), (M0 14 3 - i).toNat < N → (0 ≤ i ∧ i ≤ M0 14 3) → (∀ j, 0 ≤ j → j < i → M 34 (so s m * 8 + j) = M0 34 (s * 8 + j) + (if M0 15 m = M0 15 j then M0 16 m else - M0 16 m)) → (∀ b, ¬ (so s m * 8 ≤ b ∧ b < so s m * 8 + i) → M 34 b = M0 34 b) → (Fr [34] M0 M) → Ws v as SH 0 0 18 [some (rv 29), some (rv 14), some (iv s), some (iv m), some (iv (so s m)), some (iv (M0 16 m)), some (iv i), o7] [] M := by
  intro N
  induction N with
  | zero =>
    intro M i o7 hN
    exact absurd hN (Nat.not_lt_zero _)
  | succ N ih =>
    intro M i o7 hN g0 g1 g2 g3
    have hc := hm.1; have hc2 := hm.2.1
    have hf := full_rng (c := M0 14 3) ⟨hc, hc2⟩
    have hso := so_le (c := M0 14 3) ⟨hc, hc2⟩ hs hmm
    have hgt := so_gt (s := s) (m := m) (by omega) (by omega) hbt
    have e14 := g3 14 (by decide); have e15 := g3 15 (by decide)
    have b1 := hm.2.2 m (by omega) (by omega)
    refine s_iload E dX0_needBehind_18 rfl ?_
    refine s_aload_n E dX0_needBehind_20 rfl ?_
    refine s_getI (kf := 3) E 3 rfl dX0_needBehind_21 rfl inb_X4 (Nat.le_of_ble_eq_true rfl) fl_X0_45 (by decide) sh14 rfl ?_
    rw [e14]
    refine s_icmp_ge E 87 dX0_needBehind_24 (by decide) (by omega) (by omega) (fun h24 => ?_) (fun h24 => ?_)
    · refine hret _ ?_ _ _ dX0_needBehind_87
      have e : i = M0 14 3 := by omega
      exact ⟨fun j h1 h2 => g1 j h1 (by omega), fun b h => g2 b (by omega), g3⟩
    · have b2 := hm.2.2 i (by omega) (by omega)
      refine s_aload_n E dX0_needBehind_27 rfl ?_
      refine s_getR (kf := 0) E dX0_needBehind_28 rfl inb_X4 (Nat.le_of_ble_eq_true rfl) fl_X0_63 (by decide) sh14 rfl ?_
      refine s_iload_n E dX0_needBehind_31 rfl ?_
      refine s_iald E dX0_needBehind_32 (by decide) sh15 (Nat.le_of_ble_eq_true rfl) (by omega) ?_
      rw [e15]
      refine s_aload_n E dX0_needBehind_33 rfl ?_
      refine s_getR (kf := 0) E dX0_needBehind_34 rfl inb_X4 (Nat.le_of_ble_eq_true rfl) fl_X0_63 (by decide) sh14 rfl ?_
      refine s_iload E dX0_needBehind_37 rfl ?_
      refine s_iald E dX0_needBehind_39 (by decide) sh15 (Nat.le_of_ble_eq_true rfl) (by omega) ?_
      rw [e15]
      refine s_icmp_ne E 48 dX0_needBehind_40 (by decide) (by omega) (by omega) (fun h40 => ?_) (fun h40 => ?_)
      · refine s_iload E dX0_needBehind_48 rfl ?_
        refine s_ineg E dX0_needBehind_50 ?_
        refine s_istore (ls' := [_, _, _, _, _, _, _, _]) E dX0_needBehind_51 (Nat.le_of_ble_eq_true rfl) rfl ?_
        refine s_aload_n E dX0_needBehind_53 rfl ?_
        refine s_getR (kf := 6) E dX0_needBehind_54 rfl inb_X0 (Nat.le_of_ble_eq_true rfl) fl_X0_32 (by decide) sh29 rfl ?_
        refine s_iload E dX0_needBehind_57 rfl ?_
        refine s_bipush E dX0_needBehind_59 rfl ?_
        refine s_imul E dX0_needBehind_61 ?_
        refine s_iload E dX0_needBehind_62 rfl ?_
        refine s_iadd E dX0_needBehind_64 ?_
        refine s_aload_n E dX0_needBehind_65 rfl ?_
        refine s_getR (kf := 6) E dX0_needBehind_66 rfl inb_X0 (Nat.le_of_ble_eq_true rfl) fl_X0_32 (by decide) sh29 rfl ?_
        refine s_iload_n E dX0_needBehind_69 rfl ?_
        refine s_bipush E dX0_needBehind_70 rfl ?_
        refine s_imul E dX0_needBehind_72 ?_
        refine s_iload E dX0_needBehind_73 rfl ?_
        refine s_iadd E dX0_needBehind_75 ?_
        refine s_iald E dX0_needBehind_76 (by decide) sh34 (Nat.le_of_ble_eq_true rfl) (by omega) ?_
        rw [g2 (s * 8 + i) (by omega)]
        refine s_iload E dX0_needBehind_77 rfl ?_
        refine s_iadd E dX0_needBehind_79 ?_
        refine s_iast E dX0_needBehind_80 (by decide) sh34 (Nat.le_of_ble_eq_true rfl) (by omega) ?_
        refine s_iinc (ls' := [_, _, _, _, _, _, _, _]) E dX0_needBehind_81 rfl rfl ?_
        refine s_goto E 18 dX0_needBehind_84 (by decide) ?_
        refine ih _ _ _ (by omega) (by omega) (fun j h1 h2 => ?_) (fun b h => ?_) (g3.up (by decide))
        · by_cases e : j = i
          · subst e
            rw [upm_eq, if_neg h40]
          · rw [upm_ne (Or.inr (by omega))]
            exact g1 j h1 (by omega)
        · rw [upm_ne (Or.inr (by omega))]
          exact g2 b (by omega)
      · refine s_iload E dX0_needBehind_43 rfl ?_
        refine s_goto E 51 dX0_needBehind_45 (by decide) ?_
        refine s_istore (ls' := [_, _, _, _, _, _, _, _]) E dX0_needBehind_51 (Nat.le_of_ble_eq_true rfl) rfl ?_
        refine s_aload_n E dX0_needBehind_53 rfl ?_
        refine s_getR (kf := 6) E dX0_needBehind_54 rfl inb_X0 (Nat.le_of_ble_eq_true rfl) fl_X0_32 (by decide) sh29 rfl ?_
        refine s_iload E dX0_needBehind_57 rfl ?_
        refine s_bipush E dX0_needBehind_59 rfl ?_
        refine s_imul E dX0_needBehind_61 ?_
        refine s_iload E dX0_needBehind_62 rfl ?_
        refine s_iadd E dX0_needBehind_64 ?_
        refine s_aload_n E dX0_needBehind_65 rfl ?_
        refine s_getR (kf := 6) E dX0_needBehind_66 rfl inb_X0 (Nat.le_of_ble_eq_true rfl) fl_X0_32 (by decide) sh29 rfl ?_
        refine s_iload_n E dX0_needBehind_69 rfl ?_
        refine s_bipush E dX0_needBehind_70 rfl ?_
        refine s_imul E dX0_needBehind_72 ?_
        refine s_iload E dX0_needBehind_73 rfl ?_
        refine s_iadd E dX0_needBehind_75 ?_
        refine s_iald E dX0_needBehind_76 (by decide) sh34 (Nat.le_of_ble_eq_true rfl) (by omega) ?_
        rw [g2 (s * 8 + i) (by omega)]
        refine s_iload E dX0_needBehind_77 rfl ?_
        refine s_iadd E dX0_needBehind_79 ?_
        refine s_iast E dX0_needBehind_80 (by decide) sh34 (Nat.le_of_ble_eq_true rfl) (by omega) ?_
        refine s_iinc (ls' := [_, _, _, _, _, _, _, _]) E dX0_needBehind_81 rfl rfl ?_
        refine s_goto E 18 dX0_needBehind_84 (by decide) ?_
        refine ih _ _ _ (by omega) (by omega) (fun j h1 h2 => ?_) (fun b h => ?_) (g3.up (by decide))
        · by_cases e : j = i
          · subst e
            rw [upm_eq, if_pos (Classical.byContradiction h40)]
          · rw [upm_ne (Or.inr (by omega))]
            exact g1 j h1 (by omega)
        · rw [upm_ne (Or.inr (by omega))]
          exact g2 b (by omega)

set_option maxRecDepth 100000 in
set_option maxHeartbeats 4000000 in
theorem c_X0_needBehind (M : Mm) (s m : Int) (hm : MOK (M 14 3) (M 15) (M 16) (M 17)) (hs : 0 ≤ s ∧ s ≤ full (M 14 3)) (hmm : 0 ≤ m ∧ m < M 14 3) (hbt : ¬ bt s m) : CtV yX0_needBehind cX0_needBehind 8 1 SH [rv 29, rv 14, iv s, iv m] M (fun M' => (∀ j, 0 ≤ j → j < M 14 3 → M' 34 (so s m * 8 + j) = M 34 (s * 8 + j) + (if M 15 m = M 15 j then M 16 m else - M 16 m)) ∧ (∀ b, ¬ (so s m * 8 ≤ b ∧ b < so s m * 8 + 8) → M' 34 b = M 34 b) ∧ Fr [34] M M') := by
  refine CtV.of rfl (Nat.le_of_ble_eq_true rfl) (fun v as E hret => ?_)
  show Ws v as SH 0 0 0 [some (rv 29), some (rv 14), some (iv s), some (iv m), none, none, none, none] [] M
  have hc := hm.1; have hc2 := hm.2.1
  refine s_iload_n E dX0_needBehind_0 rfl ?_
  refine s_iconst E dX0_needBehind_1 ?_
  refine s_iload_n E dX0_needBehind_2 rfl ?_
  refine s_ishl E dX0_needBehind_3 ?_
  refine s_ior E dX0_needBehind_4 ?_
  refine s_istore (ls' := [_, _, _, _, _, _, _, _]) E dX0_needBehind_5 (Nat.le_of_ble_eq_true rfl) rfl ?_
  refine s_aload_n E dX0_needBehind_7 rfl ?_
  refine s_getR (kf := 1) E dX0_needBehind_8 rfl inb_X4 (Nat.le_of_ble_eq_true rfl) fl_X0_50 (by decide) sh14 rfl ?_
  refine s_iload_n E dX0_needBehind_11 rfl ?_
  refine s_iald E dX0_needBehind_12 (by decide) sh16 (Nat.le_of_ble_eq_true rfl) (by omega) ?_
  refine s_istore (ls' := [_, _, _, _, _, _, _, _]) E dX0_needBehind_13 (Nat.le_of_ble_eq_true rfl) rfl ?_
  refine s_iconst E dX0_needBehind_15 ?_
  refine s_istore (ls' := [_, _, _, _, _, _, _, _]) E dX0_needBehind_16 (Nat.le_of_ble_eq_true rfl) rfl ?_
  exact lp_X0_nb M s m hm hs hmm hbt E hret ((M 14 3).toNat + 1) M 0 _ (by omega) (by omega) (fun j h1 h2 => by omega) (fun _ _ => rfl) (Fr.rf _ M)

set_option maxRecDepth 100000 in
set_option maxHeartbeats 4000000 in
theorem lp_X0_pr_in {v : Ev} {as : List Nat} (M0 : Mm) (hm : MOK (M0 14 3) (M0 15) (M0 16) (M0 17)) (l : Int) (hl : 0 ≤ l ∧ l < M0 14 3) (E : Cx v cX0_prepare 4 yX0_prepare.cls 2) (hret : ∀ (M : Mm) (o3 : Option Vv), (∀ s m, 0 ≤ s → s < iShl 1 (l + 1) → 0 ≤ m → m < M0 14 3 → M 34 (s * 8 + m) = nd (M0 14 3) (M0 15) (M0 16) s m) → Fr [29, 34] M0 M → (M 29 9 = full (M0 14 3) ∧ ∀ b, b ≠ 9 → M 29 b = M0 29 b) → Ws v as SH 0 0 59 [some (rv 29), some (rv 14), some (iv l), o3] [] M) : ∀ (N : Nat) (M : Mm) (q : Int), (iShl 1 l - q).toNat < N → (0 ≤ q ∧ q ≤ iShl 1 l) → ((∀ s m, 0 ≤ s → s < iShl 1 l + q → 0 ≤ m → m < M0 14 3 → M 34 (s * 8 + m) = nd (M0 14 3) (M0 15) (M0 16) s m)) → (Fr [29, 34] M0 M) → (M 29 9 = full (M0 14 3) ∧ ∀ b, b ≠ 9 → M 29 b = M0 29 b) → Ws v as SH 0 0 39 [some (rv 29), some (rv 14), some (iv l), some (iv q)] [] M := by
  intro N
  induction N with
  | zero =>
    intro M q hN
    exact absurd hN (Nat.not_lt_zero _)
  | succ N ih =>
    intro M q hN g0 g1 g2 g3
    have hc := hm.1; have hc2 := hm.2.1
    have hsh := shl_rng (c := l) (by omega)
    have hsx := shl_succ (m := l) (by omega)
    have hmo := shl_mono (m := l + 1) (c := M0 14 3) (by omega)
    have e14 := g2 14 (by decide); have e15 := g2 15 (by decide); have e16 := g2 16 (by decide); have e17 := g2 17 (by decide)
    have hf : full (M0 14 3) = iShl 1 (M0 14 3) - 1 := rfl
    refine s_iload_n E dX0_prepare_39 rfl ?_
    refine s_iconst E dX0_prepare_40 ?_
    refine s_iload_n E dX0_prepare_41 rfl ?_
    refine s_ishl E dX0_prepare_42 ?_
    refine s_icmp_ge E 59 dX0_prepare_43 (by decide) (by omega) (by omega) (fun h43 => ?_) (fun h43 => ?_)
    · exact hret M _ (fun s m h1 h2 h3 h4 => g1 s m h1 (by omega) h3 h4) g2 g3
    · have hnb := nbt_small (s := q) (m := l) (by omega) (by omega)
      refine s_aload_n E dX0_prepare_46 rfl ?_
      refine s_aload_n E dX0_prepare_47 rfl ?_
      refine s_iload_n E dX0_prepare_48 rfl ?_
      refine s_iload_n E dX0_prepare_49 rfl ?_
      refine s_callVv E (c_X0_needBehind M q l (by rw [e14, e15, e16, e17]; exact hm) (by rw [e14]; omega) (by rw [e14]; omega) hnb) dX0_prepare_50 mf_X0_needBehind ml_X0_59 rfl (Nat.le_of_ble_eq_true rfl) (Nat.le_of_ble_eq_true rfl) (by decide) sh29 rfl rfl (fun M50 h50 => ?_)
      obtain ⟨a50, b50, c50⟩ := h50
      rw [e14, e15, e16] at a50
      have hsa := so_add (s := q) (m := l) (by have := full_rng (c := M0 14 3) (by omega); omega) (by omega) hnb
      refine s_iinc (ls' := [_, _, _, _]) E dX0_prepare_53 rfl rfl ?_
      refine s_goto E 39 dX0_prepare_56 (by decide) ?_
      refine ih _ _ (by omega) (by omega) (fun s m h1 h2 h3 h4 => ?_) (g2.tr (c50.sub (by decide))) (by rw [c50 29 (by decide)]; exact g3)
      by_cases e : s = so q l
      · subst e
        rw [a50 m h3 h4, g1 q m (by omega) (by omega) h3 h4, nd_so ⟨hc, hc2⟩ (by have := full_rng (c := M0 14 3) (by omega); omega) hl hnb]
      · rw [b50 _ (by omega)]
        exact g1 s m h1 (by omega) h3 h4

set_option maxRecDepth 100000 in
set_option maxHeartbeats 4000000 in
theorem lp_X0_pr {v : Ev} {as : List Nat} (M0 : Mm) (hm : MOK (M0 14 3) (M0 15) (M0 16) (M0 17)) (E : Cx v cX0_prepare 4 yX0_prepare.cls 2) (hret : RetV v as cX0_prepare (fun M' => (M' 29 9 = full (M0 14 3) ∧ ∀ b, b ≠ 9 → M' 29 b = M0 29 b) ∧ (∀ s m, 0 ≤ s → s ≤ full (M0 14 3) → 0 ≤ m → m < M0 14 3 → M' 34 (s * 8 + m) = nd (M0 14 3) (M0 15) (M0 16) s m) ∧ Fr [29, 34] M0 M')) : ∀ (N : Nat) (M : Mm) (l : Int) (o3 : Option Vv), (M0 14 3 - l).toNat < N → (0 ≤ l ∧ l ≤ M0 14 3) → ((∀ s m, 0 ≤ s → s < iShl 1 l → 0 ≤ m → m < M0 14 3 → M 34 (s * 8 + m) = nd (M0 14 3) (M0 15) (M0 16) s m)) → (Fr [29, 34] M0 M) → (M 29 9 = full (M0 14 3) ∧ ∀ b, b ≠ 9 → M 29 b = M0 29 b) → Ws v as SH 0 0 29 [some (rv 29), some (rv 14), some (iv l), o3] [] M := by
  intro N
  induction N with
  | zero =>
    intro M l o3 hN
    exact absurd hN (Nat.not_lt_zero _)
  | succ N ih =>
    intro M l o3 hN g0 g1 g2 g3
    have hc := hm.1; have hc2 := hm.2.1
    have e14 := g2 14 (by decide)
    refine s_iload_n E dX0_prepare_29 rfl ?_
    refine s_aload_n E dX0_prepare_30 rfl ?_
    refine s_getI (kf := 3) E 3 rfl dX0_prepare_31 rfl inb_X4 (Nat.le_of_ble_eq_true rfl) fl_X0_45 (by decide) sh14 rfl ?_
    rw [e14]
    refine s_icmp_ge E 65 dX0_prepare_34 (by decide) (by omega) (by omega) (fun h34 => ?_) (fun h34 => ?_)
    · refine hret _ ?_ _ _ dX0_prepare_65
      have e : l = M0 14 3 := by omega
      exact ⟨g3, fun s m h1 h2 h3 h4 => g1 s m h1 (by rw [e]; unfold full at h2; omega) h3 h4, g2⟩
    · refine s_iconst E dX0_prepare_37 ?_
      refine s_istore_n (ls' := [_, _, _, _]) E dX0_prepare_38 (Nat.le_of_ble_eq_true rfl) rfl ?_
      refine lp_X0_pr_in M0 hm l (by omega) E (fun M2 o3 a b c => ?_) ((iShl 1 l).toNat + 1) M 0 (by have := shl_rng (c := l) (by omega); omega) (by have := shl_rng (c := l) (by omega); omega) (fun s m h1 h2 h3 h4 => g1 s m h1 (by omega) h3 h4) g2 g3
      refine s_iinc (ls' := [_, _, _, _]) E dX0_prepare_59 rfl rfl ?_
      refine s_goto E 29 dX0_prepare_62 (by decide) ?_
      exact ih _ _ _ (by omega) (by omega) a b c

set_option maxRecDepth 100000 in
set_option maxHeartbeats 4000000 in
theorem c_X0_prepare (M : Mm) (hm : MOK (M 14 3) (M 15) (M 16) (M 17)) : CtV yX0_prepare cX0_prepare 4 2 SH [rv 29, rv 14] M (fun M' => (M' 29 9 = full (M 14 3) ∧ ∀ b, b ≠ 9 → M' 29 b = M 29 b) ∧ (∀ s m, 0 ≤ s → s ≤ full (M 14 3) → 0 ≤ m → m < M 14 3 → M' 34 (s * 8 + m) = nd (M 14 3) (M 15) (M 16) s m) ∧ Fr [29, 34] M M') := by
  refine CtV.of rfl (Nat.le_of_ble_eq_true rfl) (fun v as E hret => ?_)
  show Ws v as SH 0 0 0 [some (rv 29), some (rv 14), none, none] [] M
  have hc := hm.1; have hc2 := hm.2.1
  refine s_aload_n E dX0_prepare_0 rfl ?_
  refine s_iconst E dX0_prepare_1 ?_
  refine s_aload_n E dX0_prepare_2 rfl ?_
  refine s_getI (kf := 3) E 3 rfl dX0_prepare_3 rfl inb_X4 (Nat.le_of_ble_eq_true rfl) fl_X0_45 (by decide) sh14 rfl ?_
  refine s_ishl E dX0_prepare_6 ?_
  refine s_iconst E dX0_prepare_7 ?_
  refine s_isub E dX0_prepare_8 ?_
  refine s_putI (kf := 9) E 9 rfl dX0_prepare_9 rfl inb_X0 tyX0_ok nmX0 (Nat.le_of_ble_eq_true rfl) ⟨rfl, rfl⟩ fl_X0_42 (by decide) sh29 rfl ?_
  refine s_aload_n E dX0_prepare_12 rfl ?_
  refine s_getR (kf := 1) E dX0_prepare_13 rfl inb_X4 (Nat.le_of_ble_eq_true rfl) fl_X0_50 (by decide) sh14 rfl ?_
  refine s_iconst E dX0_prepare_16 ?_
  refine s_aload_n E dX0_prepare_17 rfl ?_
  refine s_getR (kf := 6) E dX0_prepare_18 rfl inb_X0 (Nat.le_of_ble_eq_true rfl) fl_X0_32 (by decide) sh29 rfl ?_
  refine s_iconst E dX0_prepare_21 ?_
  refine s_bipush E dX0_prepare_22 rfl ?_
  refine s_copy E dX0_prepare_24 ml_X0_53 mw_copy (Nat.le_of_ble_eq_true rfl) (Nat.le_of_ble_eq_true rfl) (by decide) (by decide) sh16 sh34 (by decide) ?_
  refine s_iconst E dX0_prepare_27 ?_
  refine s_istore_n (ls' := [_, _, _, _]) E dX0_prepare_28 (Nat.le_of_ble_eq_true rfl) rfl ?_
  refine lp_X0_pr M hm E hret ((M 14 3).toNat + 1) _ 0 _ (by omega) (by omega) (fun s m h1 h2 h3 h4 => ?_) (fun a h => ?_) ?_
  · have e0 : s = 0 := by have : iShl 1 0 = 1 := by decide
                          omega
    subst e0
    rw [nd_0 ⟨hc, hc2⟩, Int.zero_mul, Int.zero_add, cp0_in (by omega), upm_ne (Or.inl (by decide))]
  · rw [cp0_row (fun e => h (by rw [e]; decide)), upm_row (fun e => h (by rw [e]; decide))]
  · refine ⟨?_, fun b hb => ?_⟩
    · rw [cp0_row (by decide), upm_eq]
      rfl
    · rw [cp0_row (by decide), upm_ne (Or.inr hb)]

set_option maxRecDepth 100000 in
set_option maxHeartbeats 4000000 in
theorem c_X0_takeShares (M : Mm) : CtV yX0_takeShares cX0_takeShares 2 1 SH [rv 29, rv 3] M (fun M' => M' = cp0 M 3 33 6) := by
  refine CtV.of rfl (Nat.le_of_ble_eq_true rfl) (fun v as E hret => ?_)
  show Ws v as SH 0 0 0 [some (rv 29), some (rv 3)] [] M
  refine s_aload_n E dX0_takeShares_0 rfl ?_
  refine s_iconst E dX0_takeShares_1 ?_
  refine s_aload_n E dX0_takeShares_2 rfl ?_
  refine s_getR (kf := 5) E dX0_takeShares_3 rfl inb_X0 (Nat.le_of_ble_eq_true rfl) fl_X0_29 (by decide) sh29 rfl ?_
  refine s_iconst E dX0_takeShares_6 ?_
  refine s_bipush E dX0_takeShares_7 rfl ?_
  refine s_copy E dX0_takeShares_9 ml_X0_53 mw_copy (Nat.le_of_ble_eq_true rfl) (Nat.le_of_ble_eq_true rfl) (by decide) (by decide) sh3 sh33 (by decide) ?_
  refine hret _ ?_ _ _ dX0_takeShares_12
  rfl
