/-! ===== least: the reference ===== -/
def mB (M : Mm) : Int → Int := fun j => M 82 (3 * j)
def mI (M : Mm) : Int → Int := fun j => M 82 (3 * j + 1)
def mE (M : Mm) : Int → Int := fun j => M 82 (3 * j + 2)
def spB (M : Mm) (k s : Int) (n : Nat) : Int := sumN (fun j => sb s j * (if mB M j = k then mI M j else 0)) n
def AGM (M : Mm) (L : Int → Int → Int) : Prop := MOK (M 79 5) (mB M) (mI M) (mE M) ∧ ∀ s m, 0 ≤ s → s ≤ full (M 79 5) → 0 ≤ m → m < M 79 5 → lk (M 79 5) (mB M) (mI M) (M 86) s m = L s m ∧ -2000 ≤ L s m ∧ L s m ≤ 2000
theorem AGM.fr {M M' : Mm} {L : Int → Int → Int} {l : List Int} (h : AGM M L) (hF : Fr l M M') (h79 : (79 : Int) ∉ l) (h82 : (82 : Int) ∉ l) (h86 : (86 : Int) ∉ l) : AGM M' L := by
  unfold AGM mB mI mE
  rw [hF 79 h79, hF 82 h82, hF 86 h86]
  exact h
theorem spB_rng {M : Mm} {c : Int} {be : Int → Int} (h : MOK c (mB M) (mI M) be) (k s : Int) {n : Nat} (hn : (n : Int) ≤ 8) : 0 ≤ spB M k s n ∧ spB M k s n ≤ 480 := by
  have := sumN_rng (g := fun j => sb s j * (if mB M j = k then mI M j else 0)) (a := 0) (b := 60) (n := n) (fun j h1 h2 => by
    have a := h.2.2 j h1 (by omega)
    show 0 ≤ sb s j * (if mB M j = k then mI M j else 0) ∧ sb s j * (if mB M j = k then mI M j else 0) ≤ 60
    rw [sbm]
    split <;> (try split) <;> omega)
  unfold spB
  omega
theorem beg_eq {M : Mm} {c s m : Int} : mI M m + 2 * spB M (mB M m) s c.toNat = tt c (mI M) s + nd c (mB M) (mI M) s m := by
  have e : sumN (fun j => sb s j * (if mB M j = mB M m then mI M j else 0) + sb s j * (if mB M j = mB M m then mI M j else 0)) c.toNat = tt c (mI M) s + sumN (fun j => sb s j * (if mB M j = mB M m then mI M j else - mI M j)) c.toNat :=
    sumN_add (fun j _ _ => by
      rcases sb_01 s j with h | h <;> rw [h] <;> split <;> omega)
  rw [sumN_add (g := fun j => sb s j * (if mB M j = mB M m then mI M j else 0)) (h := fun j => sb s j * (if mB M j = mB M m then mI M j else 0)) (fun _ _ _ => rfl)] at e
  unfold spB nd
  omega

set_option maxRecDepth 100000 in
set_option maxHeartbeats 4000000 in
theorem c_X8_mayBegin (M : Mm) (s m : Int) (hm : 0 ≤ m ∧ m < 8) : CtI yX8_mayBegin cX8_mayBegin 3 .boolean 1 SH [rv 79, iv s, iv m] M (fun r M' => r = b2 (mayB (mE M) s m) ∧ M' = M) := by
  refine CtI.of rfl (Nat.le_of_ble_eq_true rfl) (Or.inr rfl) (fun v as E hret => ?_)
  show Ws v as SH 0 0 0 [some (rv 79), some (iv s), some (iv m)] [] M
  refine s_iload_n E dX8_mayBegin_0 rfl ?_
  refine s_iload_n E dX8_mayBegin_1 rfl ?_
  refine s_ishr E dX8_mayBegin_2 ?_
  refine s_iconst E dX8_mayBegin_3 ?_
  refine s_iand E dX8_mayBegin_4 ?_
  refine s_if_ne E 29 dX8_mayBegin_5 (by decide) (inI_and _ _) (fun h5 => ?_) (fun h5 => ?_)
  · refine s_iconst E dX8_mayBegin_29 ?_
    refine hret _ _ ?_ (fun _ => Or.inl rfl) _ _ dX8_mayBegin_30
    exact ⟨(b2_neg (fun q => h5 (nbt0 q.1))).symm, rfl⟩
  · refine s_aload_n E dX8_mayBegin_8 rfl ?_
    refine s_getR (kf := 6) E dX8_mayBegin_9 rfl inb_X8 (Nat.le_of_ble_eq_true rfl) fl_X8_23 (by decide) sh79 rfl ?_
    refine s_iconst E dX8_mayBegin_12 ?_
    refine s_iload_n E dX8_mayBegin_13 rfl ?_
    refine s_imul E dX8_mayBegin_14 ?_
    refine s_iconst E dX8_mayBegin_15 ?_
    refine s_iadd E dX8_mayBegin_16 ?_
    refine s_iald E dX8_mayBegin_17 (by decide) sh82 (Nat.le_of_ble_eq_true rfl) (by omega) ?_
    refine s_iload_n E dX8_mayBegin_18 rfl ?_
    refine s_iconst E dX8_mayBegin_19 ?_
    refine s_ixor E dX8_mayBegin_20 ?_
    refine s_iand E dX8_mayBegin_21 ?_
    refine s_if_ne E 29 dX8_mayBegin_22 (by decide) (inI_and _ _) (fun h22 => ?_) (fun h22 => ?_)
    · refine s_iconst E dX8_mayBegin_29 ?_
      refine hret _ _ ?_ (fun _ => Or.inl rfl) _ _ dX8_mayBegin_30
      exact ⟨(b2_neg (fun q => h22 q.2)).symm, rfl⟩
    · refine s_iconst E dX8_mayBegin_25 ?_
      refine s_goto E 30 dX8_mayBegin_26 (by decide) ?_
      refine hret _ _ ?_ (fun _ => Or.inr rfl) _ _ dX8_mayBegin_30
      exact ⟨(b2_pos ⟨fun q => by have := Classical.byContradiction h5; unfold bt at q; omega, Classical.byContradiction h22⟩).symm, rfl⟩

set_option maxRecDepth 100000 in
set_option maxHeartbeats 4000000 in
theorem lp_X8_spk {v : Ev} {as : List Nat} (M : Mm) (k s : Int) (hk : inI k) (hm : MOK (M 79 5) (mB M) (mI M) (mE M)) (E : Cx v cX8_spokenBy 5 yX8_spokenBy.cls 1) (hret : RetI v as cX8_spokenBy .int (fun r M' => r = spB M k s (M 79 5).toNat ∧ M' = M)) : ∀ (N : Nat) (t j : Int), (M 79 5 - j).toNat < N → (0 ≤ j ∧ j ≤ M 79 5) → (t = spB M k s j.toNat) → Ws v as SH 0 0 5 [some (rv 79), some (iv k), some (iv s), some (iv t), some (iv j)] [] M := by
  intro N
  induction N with
  | zero =>
    intro t j hN
    exact absurd hN (Nat.not_lt_zero _)
  | succ N ih =>
    intro t j hN g0 g1
    have hc := hm.1; have hc2 := hm.2.1
    refine s_iload E dX8_spokenBy_5 rfl ?_
    refine s_aload_n E dX8_spokenBy_7 rfl ?_
    refine s_getI (kf := 5) E 5 rfl dX8_spokenBy_8 rfl inb_X8 (Nat.le_of_ble_eq_true rfl) fl_X8_117 (by decide) sh79 rfl ?_
    refine s_icmp_ge E 61 dX8_spokenBy_11 (by decide) (by omega) (by omega) (fun h11 => ?_) (fun h11 => ?_)
    · refine s_iload_n E dX8_spokenBy_61 rfl ?_
      refine hret _ _ ?_ (fun q => by cases q) _ _ dX8_spokenBy_62
      exact ⟨by rw [g1, show j = M 79 5 by omega], rfl⟩
    · have bj := hm.2.2 j (by omega) (by omega)
      have fb : mB M j = M 82 (3 * j) := rfl
      have fi : mI M j = M 82 (3 * j + 1) := rfl
      refine s_iload_n E dX8_spokenBy_14 rfl ?_
      refine s_iload_n E dX8_spokenBy_15 rfl ?_
      refine s_iload E dX8_spokenBy_16 rfl ?_
      refine s_ishr E dX8_spokenBy_18 ?_
      refine s_iconst E dX8_spokenBy_19 ?_
      refine s_iand E dX8_spokenBy_20 ?_
      refine s_iconst E dX8_spokenBy_21 ?_
      refine s_icmp_ne E 52 dX8_spokenBy_22 (by decide) (inI_and _ _) (by decide) (fun h22 => ?_) (fun h22 => ?_)
      · refine s_iconst E dX8_spokenBy_52 ?_
        refine s_iadd E dX8_spokenBy_53 ?_
        refine s_istore_n (ls' := [_, _, _, _, _]) E dX8_spokenBy_54 (Nat.le_of_ble_eq_true rfl) rfl ?_
        refine s_iinc (ls' := [_, _, _, _, _]) E dX8_spokenBy_55 rfl rfl ?_
        refine s_goto E 5 dX8_spokenBy_58 (by decide) ?_
        refine ih _ _ (by omega) (by omega) ?_
        unfold spB at g1 ⊢
        rw [sumN_step (by omega), ← g1, sbm]
        rw [if_neg (show ¬ sb s j = 1 from h22)]
      · refine s_aload_n E dX8_spokenBy_25 rfl ?_
        refine s_getR (kf := 6) E dX8_spokenBy_26 rfl inb_X8 (Nat.le_of_ble_eq_true rfl) fl_X8_23 (by decide) sh79 rfl ?_
        refine s_iconst E dX8_spokenBy_29 ?_
        refine s_iload E dX8_spokenBy_30 rfl ?_
        refine s_imul E dX8_spokenBy_32 ?_
        refine s_iald E dX8_spokenBy_33 (by decide) sh82 (Nat.le_of_ble_eq_true rfl) (by omega) ?_
        refine s_iload_n E dX8_spokenBy_34 rfl ?_
        refine s_icmp_ne E 52 dX8_spokenBy_35 (by decide) (by omega) (by omega) (fun h35 => ?_) (fun h35 => ?_)
        · refine s_iconst E dX8_spokenBy_52 ?_
          refine s_iadd E dX8_spokenBy_53 ?_
          refine s_istore_n (ls' := [_, _, _, _, _]) E dX8_spokenBy_54 (Nat.le_of_ble_eq_true rfl) rfl ?_
          refine s_iinc (ls' := [_, _, _, _, _]) E dX8_spokenBy_55 rfl rfl ?_
          refine s_goto E 5 dX8_spokenBy_58 (by decide) ?_
          refine ih _ _ (by omega) (by omega) ?_
          unfold spB at g1 ⊢
          rw [sumN_step (by omega), ← g1, sbm]
          rw [if_pos (show sb s j = 1 from Classical.byContradiction h22), if_neg (by omega)]
        · refine s_aload_n E dX8_spokenBy_38 rfl ?_
          refine s_getR (kf := 6) E dX8_spokenBy_39 rfl inb_X8 (Nat.le_of_ble_eq_true rfl) fl_X8_23 (by decide) sh79 rfl ?_
          refine s_iconst E dX8_spokenBy_42 ?_
          refine s_iload E dX8_spokenBy_43 rfl ?_
          refine s_imul E dX8_spokenBy_45 ?_
          refine s_iconst E dX8_spokenBy_46 ?_
          refine s_iadd E dX8_spokenBy_47 ?_
          refine s_iald E dX8_spokenBy_48 (by decide) sh82 (Nat.le_of_ble_eq_true rfl) (by omega) ?_
          refine s_goto E 53 dX8_spokenBy_49 (by decide) ?_
          refine s_iadd E dX8_spokenBy_53 ?_
          refine s_istore_n (ls' := [_, _, _, _, _]) E dX8_spokenBy_54 (Nat.le_of_ble_eq_true rfl) rfl ?_
          refine s_iinc (ls' := [_, _, _, _, _]) E dX8_spokenBy_55 rfl rfl ?_
          refine s_goto E 5 dX8_spokenBy_58 (by decide) ?_
          refine ih _ _ (by omega) (by omega) ?_
          unfold spB at g1 ⊢
          rw [sumN_step (by omega), ← g1, sbm]
          rw [if_pos (show sb s j = 1 from Classical.byContradiction h22), if_pos (by omega)]
          rfl

set_option maxRecDepth 100000 in
set_option maxHeartbeats 4000000 in
theorem c_X8_spokenBy (M : Mm) (k s : Int) (hk : inI k) (hm : MOK (M 79 5) (mB M) (mI M) (mE M)) : CtI yX8_spokenBy cX8_spokenBy 5 .int 1 SH [rv 79, iv k, iv s] M (fun r M' => r = spB M k s (M 79 5).toNat ∧ M' = M) := by
  refine CtI.of rfl (Nat.le_of_ble_eq_true rfl) (Or.inl rfl) (fun v as E hret => ?_)
  show Ws v as SH 0 0 0 [some (rv 79), some (iv k), some (iv s), none, none] [] M
  refine s_iconst E dX8_spokenBy_0 ?_
  refine s_istore_n (ls' := [_, _, _, _, _]) E dX8_spokenBy_1 (Nat.le_of_ble_eq_true rfl) rfl ?_
  refine s_iconst E dX8_spokenBy_2 ?_
  refine s_istore (ls' := [_, _, _, _, _]) E dX8_spokenBy_3 (Nat.le_of_ble_eq_true rfl) rfl ?_
  have hc := hm.1; have hc2 := hm.2.1
  exact lp_X8_spk M k s hk hm E hret ((M 79 5).toNat + 1) 0 0 (by omega) (by omega) rfl

set_option maxRecDepth 100000 in
set_option maxHeartbeats 4000000 in
theorem c_X8_endOf (M : Mm) (L : Int → Int → Int) (s a m : Int) (hA : AGM M L) (hs : 0 ≤ s ∧ s ≤ full (M 79 5)) (ha : 0 ≤ a ∧ a ≤ 100000000) (hmm : 0 ≤ m ∧ m < M 79 5) : CtI yX8_endOf cX8_endOf 7 .int 2 SH [rv 79, iv s, iv a, iv m] M (fun r M' => r = max (tt (M 79 5) (mI M) s + L s m) a + mI M m ∧ M' = M) := by
  refine CtI.of rfl (Nat.le_of_ble_eq_true rfl) (Or.inl rfl) (fun v as E hret => ?_)
  show Ws v as SH 0 0 0 [some (rv 79), some (iv s), some (iv a), some (iv m), none, none, none] [] M
  have hm := hA.1
  have hc := hm.1; have hc2 := hm.2.1
  have bm := hm.2.2 m (by omega) (by omega)
  have fb : mB M m = M 82 (3 * m) := rfl
  have fi : mI M m = M 82 (3 * m + 1) := rfl
  have be := beg_eq (M := M) (c := M 79 5) (s := s) (m := m)
  have hl := hA.2 s m hs.1 hs.2 hmm.1 hmm.2
  have hlk : lk (M 79 5) (mB M) (mI M) (M 86) s m = nd (M 79 5) (mB M) (mI M) s m - M 86 (mB M m) := rfl
  have ht := tt_rng (s := s) hm
  have hsp := spB_rng hm (mB M m) s (n := (M 79 5).toNat) (by omega)
  rw [fb] at hsp be hlk
  refine s_aload_n E dX8_endOf_0 rfl ?_
  refine s_getR (kf := 6) E dX8_endOf_1 rfl inb_X8 (Nat.le_of_ble_eq_true rfl) fl_X8_23 (by decide) sh79 rfl ?_
  refine s_iconst E dX8_endOf_4 ?_
  refine s_iload_n E dX8_endOf_5 rfl ?_
  refine s_imul E dX8_endOf_6 ?_
  refine s_iald E dX8_endOf_7 (by decide) sh82 (Nat.le_of_ble_eq_true rfl) (by omega) ?_
  refine s_istore (ls' := [_, _, _, _, _, _, _]) E dX8_endOf_8 (Nat.le_of_ble_eq_true rfl) rfl ?_
  refine s_aload_n E dX8_endOf_10 rfl ?_
  refine s_getR (kf := 6) E dX8_endOf_11 rfl inb_X8 (Nat.le_of_ble_eq_true rfl) fl_X8_23 (by decide) sh79 rfl ?_
  refine s_iconst E dX8_endOf_14 ?_
  refine s_iload_n E dX8_endOf_15 rfl ?_
  refine s_imul E dX8_endOf_16 ?_
  refine s_iconst E dX8_endOf_17 ?_
  refine s_iadd E dX8_endOf_18 ?_
  refine s_iald E dX8_endOf_19 (by decide) sh82 (Nat.le_of_ble_eq_true rfl) (by omega) ?_
  refine s_istore (ls' := [_, _, _, _, _, _, _]) E dX8_endOf_20 (Nat.le_of_ble_eq_true rfl) rfl ?_
  refine s_iload E dX8_endOf_22 rfl ?_
  refine s_aload_n E dX8_endOf_24 rfl ?_
  refine s_getR (kf := 13) E dX8_endOf_25 rfl inb_X8 (Nat.le_of_ble_eq_true rfl) fl_X8_35 (by decide) sh79 rfl ?_
  refine s_iload E dX8_endOf_28 rfl ?_
  refine s_iald E dX8_endOf_30 (by decide) sh86 (Nat.le_of_ble_eq_true rfl) (by omega) ?_
  refine s_isub E dX8_endOf_31 ?_
  refine s_iconst E dX8_endOf_32 ?_
  refine s_aload_n E dX8_endOf_33 rfl ?_
  refine s_iload E dX8_endOf_34 rfl ?_
  refine s_iload_n E dX8_endOf_36 rfl ?_
  refine s_callVi E (c_X8_spokenBy _ _ _ (by omega) hm) dX8_endOf_37 mf_X8_spokenBy ml_X8_120 rfl (Nat.le_of_ble_eq_true rfl) (Nat.le_of_ble_eq_true rfl) (by decide) sh79 rfl rfl (fun r37 M37 h37 => ?_)
  obtain ⟨e37, f37⟩ := h37; subst r37; subst M37
  refine s_imul E dX8_endOf_40 ?_
  refine s_iadd E dX8_endOf_41 ?_
  refine s_istore (ls' := [_, _, _, _, _, _, _]) E dX8_endOf_42 (Nat.le_of_ble_eq_true rfl) rfl ?_
  refine s_iload E dX8_endOf_44 rfl ?_
  refine s_iload_n E dX8_endOf_46 rfl ?_
  refine s_icmp_le E 55 dX8_endOf_47 (by decide) (by omega) (by omega) (fun h47 => ?_) (fun h47 => ?_)
  · refine s_iload_n E dX8_endOf_55 rfl ?_
    refine s_iload E dX8_endOf_56 rfl ?_
    refine s_iadd E dX8_endOf_58 ?_
    refine hret _ _ ?_ (fun q => by cases q) _ _ dX8_endOf_59
    exact ⟨by omega, rfl⟩
  · refine s_iload E dX8_endOf_50 rfl ?_
    refine s_goto E 56 dX8_endOf_52 (by decide) ?_
    refine s_iload E dX8_endOf_56 rfl ?_
    refine s_iadd E dX8_endOf_58 ?_
    refine hret _ _ ?_ (fun q => by cases q) _ _ dX8_endOf_59
    exact ⟨by omega, rfl⟩

set_option maxRecDepth 100000 in
set_option maxHeartbeats 4000000 in
theorem lp_X8_lf_in {v : Ev} {as : List Nat} (M0 : Mm) (L : Int → Int → Int) (f a s : Int) (hA : AGM M0 L) (hs : 0 ≤ s ∧ s ≤ full (M0 79 5)) (N0 : Mm) (hN0 : Fr [87] M0 N0) (hF : ∀ t, 0 ≤ t → t ≤ full (M0 79 5) → 0 ≤ N0 87 t ∧ N0 87 t ≤ 100000000) (E : Cx v cX8_leastFrom 8 yX8_leastFrom.cls 3) (hret : ∀ (M : Mm) (o5 o6 o7 : Option Vv), (∀ t, M 87 t ≤ N0 87 t) → (N0 87 s < 100000000 → ∀ j, 0 ≤ j → j < M0 79 5 → mayB (mE M0) s j → M 87 (so s j) ≤ tt (M0 79 5) (mI M0) (so s j) + max (N0 87 s - tt (M0 79 5) (mI M0) s) (L s j)) → (∀ t, M 87 t = N0 87 t ∨ ∃ j, (0 ≤ j ∧ j < M0 79 5) ∧ mayB (mE M0) s j ∧ t = so s j ∧ N0 87 s < 100000000 ∧ M 87 t = tt (M0 79 5) (mI M0) t + max (N0 87 s - tt (M0 79 5) (mI M0) s) (L s j)) → Fr [87] M0 M → (∀ t, 0 ≤ t → t ≤ full (M0 79 5) → 0 ≤ M 87 t ∧ M 87 t ≤ 100000000) → Ws v as SH 0 0 150 [some (rv 79), some (iv f), some (iv a), some (iv (full (M0 79 5))), some (iv s), o5, o6, o7] [] M) : ∀ (N : Nat) (M : Mm) (m : Int) (o6 o7 : Option Vv), ((M0 79 5) - m).toNat < N → (0 ≤ m ∧ m ≤ (M0 79 5)) → (∀ t, M 87 t ≤ N0 87 t) → (N0 87 s < 100000000 → ∀ j, 0 ≤ j → j < m → mayB (mE M0) s j → M 87 (so s j) ≤ tt (M0 79 5) (mI M0) (so s j) + max (N0 87 s - tt (M0 79 5) (mI M0) s) (L s j)) → (∀ t, M 87 t = N0 87 t ∨ ∃ j, (0 ≤ j ∧ j < M0 79 5) ∧ mayB (mE M0) s j ∧ t = so s j ∧ N0 87 s < 100000000 ∧ M 87 t = tt (M0 79 5) (mI M0) t + max (N0 87 s - tt (M0 79 5) (mI M0) s) (L s j)) → (M 87 s = N0 87 s) → (Fr [87] M0 M) → (∀ t, 0 ≤ t → t ≤ full (M0 79 5) → 0 ≤ M 87 t ∧ M 87 t ≤ 100000000) → Ws v as SH 0 0 55 [some (rv 79), some (iv f), some (iv a), some (iv (full (M0 79 5))), some (iv s), some (iv m), o6, o7] [] M := by
  intro N
  induction N with
  | zero =>
    intro M m o6 o7 hN
    exact absurd hN (Nat.not_lt_zero _)
  | succ N ih =>
    intro M m o6 o7 hN g0 g1 g2 g3 g4 g5 g6
    have hN1 : m < M0 79 5 → (M0 79 5 - (m + 1)).toNat < N := fun h => by omega
    have hc := hA.1.1; have hc2 := hA.1.2.1
    have hfr := full_rng (c := M0 79 5) ⟨hc, hc2⟩
    have e79 := g5 79 (by decide); have e82 := g5 82 (by decide)
    have eI : mI M = mI M0 := by unfold mI; rw [e82]
    have eE : mE M = mE M0 := by unfold mE; rw [e82]
    have bs := hF s (by omega) (by omega)
    have ht := tt_rng (s := s) hA.1
    refine s_iload E dX8_leastFrom_55 rfl ?_
    refine s_aload_n E dX8_leastFrom_57 rfl ?_
    refine s_getI (kf := 5) E 5 rfl dX8_leastFrom_58 rfl inb_X8 (Nat.le_of_ble_eq_true rfl) fl_X8_117 (by decide) sh79 rfl ?_
    rw [e79]
    refine s_icmp_ge E 150 dX8_leastFrom_61 (by decide) (by omega) (by omega) (fun h61 => ?_) (fun h61 => ?_)
    · exact hret M _ _ _ g1 (fun h j h1 h2 h3 => g2 h j h1 (by omega) h3) g3 g5 g6
    · refine s_aload_n E dX8_leastFrom_64 rfl ?_
      refine s_getR (kf := 14) E dX8_leastFrom_65 rfl inb_X8 (Nat.le_of_ble_eq_true rfl) fl_X8_38 (by decide) sh79 rfl ?_
      refine s_iload E dX8_leastFrom_68 rfl ?_
      refine s_iald E dX8_leastFrom_70 (by decide) sh87 (Nat.le_of_ble_eq_true rfl) (by omega) ?_
      rw [g4]
      refine s_ldc E dX8_leastFrom_71 cst_X8_124 ?_
      refine s_icmp_ge E 150 dX8_leastFrom_73 (by decide) (by omega) (by omega) (fun h73 => ?_) (fun h73 => ?_)
      · exact hret M _ _ _ g1 (fun h j h1 h2 h3 => by omega) g3 g5 g6
      · refine s_aload_n E dX8_leastFrom_76 rfl ?_
        refine s_iload E dX8_leastFrom_77 rfl ?_
        refine s_iload E dX8_leastFrom_79 rfl ?_
        refine s_callVi E (c_X8_mayBegin _ _ _ (by omega)) dX8_leastFrom_81 mf_X8_mayBegin ml_X8_125 rfl (Nat.le_of_ble_eq_true rfl) (Nat.le_of_ble_eq_true rfl) (by decide) sh79 rfl rfl (fun r81 M81 h81 => ?_)
        obtain ⟨e81, f81⟩ := h81; subst r81; subst M81
        rw [eE]
        refine s_ifeqB E 144 dX8_leastFrom_84 (by decide) (fun h84 => ?_) (fun h84 => ?_)
        · refine s_iinc (ls' := [_, _, _, _, _, _, _, _]) E dX8_leastFrom_144 rfl rfl ?_
          refine s_goto E 55 dX8_leastFrom_147 (by decide) ?_
          refine ih _ _ _ _ (hN1 (by omega)) (by omega) g1 (fun h j h1 h2 h3 => ?_) g3 g4 g5 g6
          by_cases e : j = m
          · exact absurd (e ▸ h3) h84
          · exact g2 h j h1 (by omega) h3
        · have hso := so_le (c := (M0 79 5)) (s := s) (m := m) ⟨hc, hc2⟩ (by omega) (by omega)
          have hgt := so_gt (s := s) (m := m) (by omega) (by omega) h84.1
          have hts := tt_so (c := (M0 79 5)) (s := s) (m := m) (mi := mI M0) ⟨hc, hc2⟩ (by omega) (by omega) h84.1
          have bso := g6 (so s m) hso.1 hso.2
          have hl := hA.2 s m hs.1 hs.2 (by omega) (by omega)
          have bi := hA.1.2.2 m (by omega) (by omega)
          refine s_aload_n E dX8_leastFrom_87 rfl ?_
          refine s_iload E dX8_leastFrom_88 rfl ?_
          refine s_aload_n E dX8_leastFrom_90 rfl ?_
          refine s_getR (kf := 14) E dX8_leastFrom_91 rfl inb_X8 (Nat.le_of_ble_eq_true rfl) fl_X8_38 (by decide) sh79 rfl ?_
          refine s_iload E dX8_leastFrom_94 rfl ?_
          refine s_iald E dX8_leastFrom_96 (by decide) sh87 (Nat.le_of_ble_eq_true rfl) (by omega) ?_
          rw [g4]
          refine s_iload E dX8_leastFrom_97 rfl ?_
          refine s_callVi E (c_X8_endOf M L s _ m (hA.fr g5 (by decide) (by decide) (by decide)) (by rw [e79]; exact hs) (by omega) (by rw [e79]; omega)) dX8_leastFrom_99 mf_X8_endOf ml_X8_129 rfl (Nat.le_of_ble_eq_true rfl) (Nat.le_of_ble_eq_true rfl) (by decide) sh79 rfl rfl (fun r99 M99 h99 => ?_)
          obtain ⟨e99, f99⟩ := h99; subst r99; subst M99
          rw [e79, eI]
          have ev : max (tt (M0 79 5) (mI M0) s + L s m) (N0 87 s) + mI M0 m = tt (M0 79 5) (mI M0) (so s m) + max (N0 87 s - tt (M0 79 5) (mI M0) s) (L s m) := by omega
          rw [ev]
          refine s_istore (ls' := [_, _, _, _, _, _, _, _]) E dX8_leastFrom_102 (Nat.le_of_ble_eq_true rfl) rfl ?_
          refine s_iload E dX8_leastFrom_104 rfl ?_
          refine s_iconst E dX8_leastFrom_106 ?_
          refine s_iload E dX8_leastFrom_107 rfl ?_
          refine s_ishl E dX8_leastFrom_109 ?_
          refine s_ior E dX8_leastFrom_110 ?_
          rw [show iOr s (iShl 1 m) = so s m from rfl]
          refine s_istore (ls' := [_, _, _, _, _, _, _, _]) E dX8_leastFrom_111 (Nat.le_of_ble_eq_true rfl) rfl ?_
          refine s_aload_n E dX8_leastFrom_113 rfl ?_
          refine s_getR (kf := 14) E dX8_leastFrom_114 rfl inb_X8 (Nat.le_of_ble_eq_true rfl) fl_X8_38 (by decide) sh79 rfl ?_
          refine s_iload E dX8_leastFrom_117 rfl ?_
          refine s_iload E dX8_leastFrom_119 rfl ?_
          refine s_aload_n E dX8_leastFrom_121 rfl ?_
          refine s_getR (kf := 14) E dX8_leastFrom_122 rfl inb_X8 (Nat.le_of_ble_eq_true rfl) fl_X8_38 (by decide) sh79 rfl ?_
          refine s_iload E dX8_leastFrom_125 rfl ?_
          refine s_iald E dX8_leastFrom_127 (by decide) sh87 (Nat.le_of_ble_eq_true rfl) (by omega) ?_
          refine s_icmp_ge E 136 dX8_leastFrom_128 (by decide) (by omega) (by omega) (fun h128 => ?_) (fun h128 => ?_)
          · refine s_aload_n E dX8_leastFrom_136 rfl ?_
            refine s_getR (kf := 14) E dX8_leastFrom_137 rfl inb_X8 (Nat.le_of_ble_eq_true rfl) fl_X8_38 (by decide) sh79 rfl ?_
            refine s_iload E dX8_leastFrom_140 rfl ?_
            refine s_iald E dX8_leastFrom_142 (by decide) sh87 (Nat.le_of_ble_eq_true rfl) (by omega) ?_
            refine s_iast E dX8_leastFrom_143 (by decide) sh87 (Nat.le_of_ble_eq_true rfl) (by omega) ?_
            refine s_iinc (ls' := [_, _, _, _, _, _, _, _]) E dX8_leastFrom_144 rfl rfl ?_
            refine s_goto E 55 dX8_leastFrom_147 (by decide) ?_
            have X9 : M 87 (so s m) ≤ tt (M0 79 5) (mI M0) (so s m) + max (N0 87 s - tt (M0 79 5) (mI M0) s) (L s m) ∨ ¬ (M 87 (so s m) ≤ tt (M0 79 5) (mI M0) (so s m) + max (N0 87 s - tt (M0 79 5) (mI M0) s) (L s m)) := Classical.em _
            refine ih _ _ _ _ (hN1 (by omega)) (by omega) (fun t => ?_) (fun h j h1 h2 h3 => ?_) (fun t => ?_) ?_ (g5.up (by decide)) (fun t h1 h2 => ?_)
            · by_cases e : t = so s m
              · have := g1 (so s m); rw [e, upm_eq]; omega
              · rw [upm_ne (Or.inr e)]; exact g1 t
            · by_cases e : so s j = so s m
              · by_cases ej : j = m
                · rw [ej, upm_eq]; omega
                · have := g2 h j h1 (by omega) h3
                  rw [e] at this ⊢
                  rw [upm_eq]; omega
              · rw [upm_ne (Or.inr e)]
                exact g2 h j h1 (by rcases (show j < m ∨ j = m by omega) with q | q
                                    · exact q
                                    · exact absurd (by rw [q]) e) h3
            · by_cases e : t = so s m
              · rw [e, upm_eq]
                exact g3 (so s m)
              · rw [upm_ne (Or.inr e)]; exact g3 t
            · rw [upm_ne (Or.inr (by omega))]; exact g4
            · by_cases e : t = so s m
              · rw [e, upm_eq]; omega
              · rw [upm_ne (Or.inr e)]; exact g6 t h1 h2
          · refine s_iload E dX8_leastFrom_131 rfl ?_
            refine s_goto E 143 dX8_leastFrom_133 (by decide) ?_
            refine s_iast E dX8_leastFrom_143 (by decide) sh87 (Nat.le_of_ble_eq_true rfl) (by omega) ?_
            refine s_iinc (ls' := [_, _, _, _, _, _, _, _]) E dX8_leastFrom_144 rfl rfl ?_
            refine s_goto E 55 dX8_leastFrom_147 (by decide) ?_
            have X9 : M 87 (so s m) ≤ tt (M0 79 5) (mI M0) (so s m) + max (N0 87 s - tt (M0 79 5) (mI M0) s) (L s m) ∨ ¬ (M 87 (so s m) ≤ tt (M0 79 5) (mI M0) (so s m) + max (N0 87 s - tt (M0 79 5) (mI M0) s) (L s m)) := Classical.em _
            refine ih _ _ _ _ (hN1 (by omega)) (by omega) (fun t => ?_) (fun h j h1 h2 h3 => ?_) (fun t => ?_) ?_ (g5.up (by decide)) (fun t h1 h2 => ?_)
            · by_cases e : t = so s m
              · have := g1 (so s m); rw [e, upm_eq]; omega
              · rw [upm_ne (Or.inr e)]; exact g1 t
            · by_cases e : so s j = so s m
              · by_cases ej : j = m
                · rw [ej, upm_eq]; omega
                · have := g2 h j h1 (by omega) h3
                  rw [e] at this ⊢
                  rw [upm_eq]; omega
              · rw [upm_ne (Or.inr e)]
                exact g2 h j h1 (by rcases (show j < m ∨ j = m by omega) with q | q
                                    · exact q
                                    · exact absurd (by rw [q]) e) h3
            · by_cases e : t = so s m
              · rw [e, upm_eq]
                exact Or.inr ⟨m, by omega, h84, rfl, by omega, rfl⟩
              · rw [upm_ne (Or.inr e)]; exact g3 t
            · rw [upm_ne (Or.inr (by omega))]; exact g4
            · by_cases e : t = so s m
              · rw [e, upm_eq]; omega
              · rw [upm_ne (Or.inr e)]; exact g6 t h1 h2

set_option maxRecDepth 100000 in
set_option maxHeartbeats 4000000 in
theorem lp_X8_lf {v : Ev} {as : List Nat} (M0 : Mm) (L : Int → Int → Int) (f p : Int) (hA : AGM M0 L) (hf : 0 ≤ f ∧ f ≤ full (M0 79 5)) (hp : 0 ≤ p ∧ p ≤ 10000) (a : Int) (E : Cx v cX8_leastFrom 8 yX8_leastFrom.cls 3) (hret : RetI v as cX8_leastFrom .int (fun r M' => (∀ x, x < 1000000 → (r - tt (M0 79 5) (mI M0) (full (M0 79 5)) ≤ x ↔ p ≤ x ∧ Can (M0 79 5) L (mE M0) x f)) ∧ (0 ≤ r ∧ r ≤ 100000000) ∧ Fr [87] M0 M')) : ∀ (N : Nat) (M : Mm) (s : Int) (o5 o6 o7 : Option Vv), (full (M0 79 5) + 1 - s).toNat < N → (f ≤ s ∧ s ≤ full (M0 79 5) + 1) → (∀ t, 0 ≤ t → t ≤ full (M0 79 5) → 0 ≤ M 87 t ∧ M 87 t ≤ 100000000) → (∀ x, x < 1000000 → (Uu (M0 79 5) L (mE M0) (fun t => M 87 t - tt (M0 79 5) (mI M0) t) (min s (full (M0 79 5))) x ↔ p ≤ x ∧ Can (M0 79 5) L (mE M0) x f)) → (Fr [87] M0 M) → Ws v as SH 0 0 46 [some (rv 79), some (iv f), some (iv a), some (iv (full (M0 79 5))), some (iv s), o5, o6, o7] [] M := by
  intro N
  induction N with
  | zero =>
    intro M s o5 o6 o7 hN
    exact absurd hN (Nat.not_lt_zero _)
  | succ N ih =>
    intro M s o5 o6 o7 hN g0 g1 g2 g3
    have hc := hA.1.1; have hc2 := hA.1.2.1
    have hfr := full_rng (c := M0 79 5) ⟨hc, hc2⟩
    refine s_iload E dX8_leastFrom_46 rfl ?_
    refine s_iload_n E dX8_leastFrom_48 rfl ?_
    refine s_icmp_gt E 156 dX8_leastFrom_49 (by decide) (by omega) (by omega) (fun h49 => ?_) (fun h49 => ?_)
    · refine s_aload_n E dX8_leastFrom_156 rfl ?_
      refine s_getR (kf := 14) E dX8_leastFrom_157 rfl inb_X8 (Nat.le_of_ble_eq_true rfl) fl_X8_38 (by decide) sh79 rfl ?_
      refine s_iload_n E dX8_leastFrom_160 rfl ?_
      refine s_iald E dX8_leastFrom_161 (by decide) sh87 (Nat.le_of_ble_eq_true rfl) (by omega) ?_
      refine hret _ _ ?_ (fun q => by cases q) _ _ dX8_leastFrom_162
      have bf := g1 (full (M0 79 5)) (by omega) (by omega)
      refine ⟨fun x hx => ?_, bf, g3⟩
      rw [← g2 x hx, show min s (full (M0 79 5)) = full (M0 79 5) by omega, Uu_full]
    · refine s_iconst E dX8_leastFrom_52 ?_
      refine s_istore (ls' := [_, _, _, _, _, _, _, _]) E dX8_leastFrom_53 (Nat.le_of_ble_eq_true rfl) rfl ?_
      refine lp_X8_lf_in M0 L f a s hA (by omega) M g3 g1 E (fun M2 o5 o6 o7 a1 b1 c1 d1 e1 => ?_) ((M0 79 5).toNat + 1) M 0 _ _ (by omega) (by omega) (fun _ => Int.le_refl _) (fun _ j h1 h2 => by omega) (fun _ => Or.inl rfl) rfl g3 g1
      refine s_iinc (ls' := [_, _, _, _, _, _, _, _]) E dX8_leastFrom_150 rfl rfl ?_
      refine s_goto E 46 dX8_leastFrom_153 (by decide) ?_
      refine ih _ _ _ _ _ (by omega) (by omega) e1 (fun x hx => ?_) d1
      rw [← g2 x hx]
      by_cases hsf : s = full (M0 79 5)
      · rw [show min (s + 1) (full (M0 79 5)) = full (M0 79 5) by omega, show min s (full (M0 79 5)) = full (M0 79 5) by omega, Uu_full, Uu_full]
        have : M2 87 (full (M0 79 5)) = M 87 (full (M0 79 5)) := by
          rcases c1 (full (M0 79 5)) with q | ⟨j, q1, q2, q3, q4⟩
          · exact q
          · exact absurd ((bt_full ⟨hc, hc2⟩ (by omega)).mpr (by omega)) (hsf ▸ q2.1)
        rw [this]
      · rw [show min (s + 1) (full (M0 79 5)) = s + 1 by omega, show min s (full (M0 79 5)) = s by omega]
        refine (dp_step ⟨hc, hc2⟩ (by omega) (fun t _ _ => ?_) (fun h m h1 h2 h3 => ?_) (fun t h1 h2 h3 => ?_)).symm
        · have := a1 t
          show M2 87 t - _ ≤ M 87 t - _
          omega
        · have ht := tt_rng (s := s) hA.1
          have h9 : M 87 s - tt (M0 79 5) (mI M0) s ≤ x := h
          have := b1 (by omega) m h1 h2 h3
          show M2 87 (so s m) - _ ≤ max (M 87 s - _) _
          omega
        · have h9 : M2 87 t - tt (M0 79 5) (mI M0) t ≤ x := h3
          rcases c1 t with q | ⟨j, q1, q2, q3, q4, q5⟩
          · refine Or.inl ?_
            show M 87 t - _ ≤ x
            omega
          · refine Or.inr ⟨j, q1, q2, q3, ?_, by omega⟩
            show M 87 s - _ ≤ x
            omega

set_option maxRecDepth 100000 in
set_option maxHeartbeats 4000000 in
theorem lp_X8_lf0 {v : Ev} {as : List Nat} (M0 : Mm) (L : Int → Int → Int) (f p : Int) (hA : AGM M0 L) (hf : 0 ≤ f ∧ f ≤ full (M0 79 5)) (hp : 0 ≤ p ∧ p ≤ 10000) (a : Int) (ha : a = tt (M0 79 5) (mI M0) f + p) (E : Cx v cX8_leastFrom 8 yX8_leastFrom.cls 3) (hret : RetI v as cX8_leastFrom .int (fun r M' => (∀ x, x < 1000000 → (r - tt (M0 79 5) (mI M0) (full (M0 79 5)) ≤ x ↔ p ≤ x ∧ Can (M0 79 5) L (mE M0) x f)) ∧ (0 ≤ r ∧ r ≤ 100000000) ∧ Fr [87] M0 M')) : ∀ (N : Nat) (M : Mm) (t : Int) (o5 o6 o7 : Option Vv), (full (M0 79 5) + 1 - t).toNat < N → (0 ≤ t ∧ t ≤ full (M0 79 5) + 1) → (∀ q, 0 ≤ q → q < t → M 87 q = if q = f then a else 100000000) → (Fr [87] M0 M) → Ws v as SH 0 0 12 [some (rv 79), some (iv f), some (iv a), some (iv (full (M0 79 5))), some (iv t), o5, o6, o7] [] M := by
  intro N
  induction N with
  | zero =>
    intro M t o5 o6 o7 hN
    exact absurd hN (Nat.not_lt_zero _)
  | succ N ih =>
    intro M t o5 o6 o7 hN g0 g1 g2
    have hc := hA.1.1; have hc2 := hA.1.2.1
    have hfr := full_rng (c := M0 79 5) ⟨hc, hc2⟩
    have ht := tt_rng (s := f) hA.1
    refine s_iload E dX8_leastFrom_12 rfl ?_
    refine s_iload_n E dX8_leastFrom_14 rfl ?_
    refine s_icmp_gt E 43 dX8_leastFrom_15 (by decide) (by omega) (by omega) (fun h15 => ?_) (fun h15 => ?_)
    · refine s_iload_n E dX8_leastFrom_43 rfl ?_
      refine s_istore (ls' := [_, _, _, _, _, _, _, _]) E dX8_leastFrom_44 (Nat.le_of_ble_eq_true rfl) rfl ?_
      have gg : ∀ q, 0 ≤ q → q ≤ full (M0 79 5) → M 87 q = if q = f then a else 100000000 := fun q h1 h2 => g1 q h1 (by omega)
      refine lp_X8_lf M0 L f p hA hf hp a E hret ((full (M0 79 5)).toNat + 2) M f _ _ _ (by omega) (by omega) (fun q h1 h2 => ?_) (fun x hx => ?_) g2
      · rw [gg q h1 h2]; split <;> omega
      · rw [show min f (full (M0 79 5)) = f by omega]
        constructor
        · rintro ⟨q, q1, q2, q3, q4⟩
          have q5 : M 87 q - tt (M0 79 5) (mI M0) q ≤ x := q3
          have hq := tt_rng (s := q) hA.1
          rw [gg q (by omega) q2] at q5
          by_cases e : q = f
          · rw [if_pos e] at q5
            rw [e] at q4 q5
            exact ⟨by omega, q4⟩
          · rw [if_neg e] at q5
            omega
        · rintro ⟨q1, q2⟩
          refine ⟨f, by omega, by omega, ?_, q2⟩
          show M 87 f - _ ≤ x
          rw [gg f (by omega) (by omega), if_pos rfl]
          omega
    · refine s_aload_n E dX8_leastFrom_18 rfl ?_
      refine s_getR (kf := 14) E dX8_leastFrom_19 rfl inb_X8 (Nat.le_of_ble_eq_true rfl) fl_X8_38 (by decide) sh79 rfl ?_
      refine s_iload E dX8_leastFrom_22 rfl ?_
      refine s_iload E dX8_leastFrom_24 rfl ?_
      refine s_iload_n E dX8_leastFrom_26 rfl ?_
      refine s_icmp_ne E 34 dX8_leastFrom_27 (by decide) (by omega) (by omega) (fun h27 => ?_) (fun h27 => ?_)
      · refine s_ldc E dX8_leastFrom_34 cst_X8_124 ?_
        refine s_iast E dX8_leastFrom_36 (by decide) sh87 (Nat.le_of_ble_eq_true rfl) (by omega) ?_
        refine s_iinc (ls' := [_, _, _, _, _, _, _, _]) E dX8_leastFrom_37 rfl rfl ?_
        refine s_goto E 12 dX8_leastFrom_40 (by decide) ?_
        refine ih _ _ _ _ _ (by omega) (by omega) (fun q h1 h2 => ?_) (g2.up (by decide))
        by_cases e : q = t
        · rw [e, upm_eq, if_neg h27]
        · rw [upm_ne (Or.inr e)]; exact g1 q h1 (by omega)
      · refine s_iload_n E dX8_leastFrom_30 rfl ?_
        refine s_goto E 36 dX8_leastFrom_31 (by decide) ?_
        refine s_iast E dX8_leastFrom_36 (by decide) sh87 (Nat.le_of_ble_eq_true rfl) (by omega) ?_
        refine s_iinc (ls' := [_, _, _, _, _, _, _, _]) E dX8_leastFrom_37 rfl rfl ?_
        refine s_goto E 12 dX8_leastFrom_40 (by decide) ?_
        refine ih _ _ _ _ _ (by omega) (by omega) (fun q h1 h2 => ?_) (g2.up (by decide))
        by_cases e : q = t
        · rw [e, upm_eq, if_pos (by omega)]
        · rw [upm_ne (Or.inr e)]; exact g1 q h1 (by omega)

set_option maxRecDepth 100000 in
set_option maxHeartbeats 4000000 in
theorem c_X8_leastFrom (M : Mm) (L : Int → Int → Int) (f p : Int) (hA : AGM M L) (hf : 0 ≤ f ∧ f ≤ full (M 79 5)) (hp : 0 ≤ p ∧ p ≤ 10000) (a : Int) (ha : a = tt (M 79 5) (mI M) f + p) : CtI yX8_leastFrom cX8_leastFrom 8 .int 3 SH [rv 79, iv f, iv a] M (fun r M' => (∀ x, x < 1000000 → (r - tt (M 79 5) (mI M) (full (M 79 5)) ≤ x ↔ p ≤ x ∧ Can (M 79 5) L (mE M) x f)) ∧ (0 ≤ r ∧ r ≤ 100000000) ∧ Fr [87] M M') := by
  refine CtI.of rfl (Nat.le_of_ble_eq_true rfl) (Or.inl rfl) (fun v as E hret => ?_)
  show Ws v as SH 0 0 0 [some (rv 79), some (iv f), some (iv a), none, none, none, none, none] [] M
  refine s_iconst E dX8_leastFrom_0 ?_
  refine s_aload_n E dX8_leastFrom_1 rfl ?_
  refine s_getI (kf := 5) E 5 rfl dX8_leastFrom_2 rfl inb_X8 (Nat.le_of_ble_eq_true rfl) fl_X8_117 (by decide) sh79 rfl ?_
  refine s_ishl E dX8_leastFrom_5 ?_
  refine s_iconst E dX8_leastFrom_6 ?_
  refine s_isub E dX8_leastFrom_7 ?_
  refine s_istore_n (ls' := [_, _, _, _, _, _, _, _]) E dX8_leastFrom_8 (Nat.le_of_ble_eq_true rfl) rfl ?_
  refine s_iconst E dX8_leastFrom_9 ?_
  refine s_istore (ls' := [_, _, _, _, _, _, _, _]) E dX8_leastFrom_10 (Nat.le_of_ble_eq_true rfl) rfl ?_
  have hc := hA.1.1; have hc2 := hA.1.2.1
  have hfr := full_rng (c := M 79 5) ⟨hc, hc2⟩
  exact lp_X8_lf0 M L f p hA hf hp a ha E hret ((full (M 79 5)).toNat + 2) M 0 _ _ _ (by omega) (by omega) (fun q h1 h2 => by omega) (Fr.rf _ M)
