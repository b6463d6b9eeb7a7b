/-! ===== least: the reference's order ===== -/
def LcM (M : Mm) : Int → Int → Int := lk (M 79 5) (mB M) (mI M) (fun k => M 80 (4 * k))

set_option maxRecDepth 100000 in
set_option maxHeartbeats 4000000 in
theorem lp_X8_as {v : Ev} {as : List Nat} (M0 : Mm) (E : Cx v cX8_asSaved 2 yX8_asSaved.cls 1) (hret : RetV v as cX8_asSaved (fun M' => (∀ k, 0 ≤ k → k < 6 → M' 86 k = M0 80 (4 * k)) ∧ Fr [86] M0 M')) : ∀ (N : Nat) (M : Mm) (i : Int), (6 - i).toNat < N → (0 ≤ i ∧ i ≤ 6) → (∀ k, 0 ≤ k → k < i → M 86 k = M0 80 (4 * k)) → (Fr [86] M0 M) → Ws v as SH 0 0 2 [some (rv 79), some (iv i)] [] M := by
  intro N
  induction N with
  | zero =>
    intro M i hN
    exact absurd hN (Nat.not_lt_zero _)
  | succ N ih =>
    intro M i hN g0 g1 g2
    refine s_iload_n E dX8_asSaved_2 rfl ?_
    refine s_bipush E dX8_asSaved_3 rfl ?_
    refine s_icmp_ge E 28 dX8_asSaved_5 (by decide) (by omega) (by omega) (fun h5 => ?_) (fun h5 => ?_)
    · refine hret _ ?_ _ _ dX8_asSaved_28
      exact ⟨fun k h1 h2 => g1 k h1 (by omega), g2⟩
    · refine s_aload_n E dX8_asSaved_8 rfl ?_
      refine s_getR (kf := 13) E dX8_asSaved_9 rfl inb_X8 (Nat.le_of_ble_eq_true rfl) fl_X8_35 (by decide) sh79 rfl ?_
      refine s_iload_n E dX8_asSaved_12 rfl ?_
      refine s_aload_n E dX8_asSaved_13 rfl ?_
      refine s_getR (kf := 0) E dX8_asSaved_14 rfl inb_X8 (Nat.le_of_ble_eq_true rfl) fl_X8_7 (by decide) sh79 rfl ?_
      refine s_iconst E dX8_asSaved_17 ?_
      refine s_iload_n E dX8_asSaved_18 rfl ?_
      refine s_imul E dX8_asSaved_19 ?_
      refine s_iald E dX8_asSaved_20 (by decide) sh80 (Nat.le_of_ble_eq_true rfl) (by omega) ?_
      rw [g2 80 (by decide)]
      refine s_iast E dX8_asSaved_21 (by decide) sh86 (Nat.le_of_ble_eq_true rfl) (by omega) ?_
      refine s_iinc (ls' := [_, _]) E dX8_asSaved_22 rfl rfl ?_
      refine s_goto E 2 dX8_asSaved_25 (by decide) ?_
      refine ih _ _ (by omega) (by omega) (fun k h1 h2 => ?_) (g2.up (by decide))
      by_cases e : k = i
      · rw [e, upm_eq]
      · rw [upm_ne (Or.inr e)]; exact g1 k h1 (by omega)

set_option maxRecDepth 100000 in
set_option maxHeartbeats 4000000 in
theorem c_X8_asSaved (M : Mm) : CtV yX8_asSaved cX8_asSaved 2 1 SH [rv 79] M (fun M' => (∀ k, 0 ≤ k → k < 6 → M' 86 k = M 80 (4 * k)) ∧ Fr [86] M M') := by
  refine CtV.of rfl (Nat.le_of_ble_eq_true rfl) (fun v as E hret => ?_)
  show Ws v as SH 0 0 0 [some (rv 79), none] [] M
  refine s_iconst E dX8_asSaved_0 ?_
  refine s_istore_n (ls' := [_, _]) E dX8_asSaved_1 (Nat.le_of_ble_eq_true rfl) rfl ?_
  exact lp_X8_as M E hret 7 M 0 (by decide) (by decide) (fun k h1 h2 => by omega) (Fr.rf _ M)

theorem due_iff {c R r p l T : Int} {L : Int → Int → Int} {be : Int → Int} {s m : Int} (hm : 0 ≤ m ∧ m < c) (hmay : mayB be s m) (hl : l = L s m) (hR : 0 ≤ R ∧ R ≤ 2000) (hp : 0 ≤ p ∧ p ≤ R) (hPre : ∀ x, x < 1000000 → p ≤ x → Can c L be x s → R ≤ x)
    (hr : ∀ x, x < 1000000 → (r - T ≤ x ↔ max l p ≤ x ∧ Can c L be x (so s m))) (hb : r ≤ 100000000) : r = T + R ↔ L s m ≤ R ∧ Can c L be R (so s m) := by
  subst hl
  constructor
  · intro e
    have := (hr R (by omega)).mp (by omega)
    exact ⟨by omega, this.2⟩
  · rintro ⟨h1, h2⟩
    have h3 := (hr R (by omega)).mpr ⟨by omega, h2⟩
    have h4 := (hr (r - T) (by omega)).mp (Int.le_refl _)
    have h5 := hPre (r - T) (by omega) (by omega) (Can_iff.mpr (Or.inr ⟨m, hm, hmay, by omega, h4.2⟩))
    omega

set_option maxRecDepth 100000 in
set_option maxHeartbeats 4000000 in
theorem lp_X8_le_in {v : Ev} {as : List Nat} (M0 : Mm) (L : Int → Int → Int) (R : Int) (hA : AGM M0 L) (hR : 0 ≤ R ∧ R ≤ 2000) (hIs : IsP (M0 79 5) L (mE M0) R) (i p : Int) (k : Nat) (hk : (k : Int) < (M0 79 5)) (hinv : (0 ≤ p ∧ p ≤ R) ∧ ∀ x, x < 1000000 → p ≤ x → Can (M0 79 5) L (mE M0) x (sq (M0 79 5) L (mE M0) R k) → R ≤ x) (E : Cx v cX8_least 9 yX8_least.cls 4) (hret : ∀ (M : Mm) (o8 : Option Vv), Fr [87] M0 M → Ws v as SH 0 0 129 [some (rv 79), some (iv i), some (iv (tt (M0 79 5) (mI M0) (full (M0 79 5)) + R)), some (iv (sq (M0 79 5) L (mE M0) R k)), some (iv (tt (M0 79 5) (mI M0) (sq (M0 79 5) L (mE M0) R k) + p)), some (iv (nx (M0 79 5) L (mE M0) R (sq (M0 79 5) L (mE M0) R k))), some (iv (k : Int)), some (iv (max (tt (M0 79 5) (mI M0) (sq (M0 79 5) L (mE M0) R k) + L (sq (M0 79 5) L (mE M0) R k) (nx (M0 79 5) L (mE M0) R (sq (M0 79 5) L (mE M0) R k))) (tt (M0 79 5) (mI M0) (sq (M0 79 5) L (mE M0) R k) + p) + mI M0 (nx (M0 79 5) L (mE M0) R (sq (M0 79 5) L (mE M0) R k)))), o8] [] M) : ∀ (N : Nat) (M : Mm) (m t e : Int), ((M0 79 5) - m).toNat < N → (0 ≤ m ∧ m ≤ (M0 79 5)) → ((t = -6 ∧ ∀ j, 0 ≤ j → j < m → ¬ pd (M0 79 5) L (mE M0) R (sq (M0 79 5) L (mE M0) R k) j) ∨ (t = m - 1 ∧ 0 ≤ t ∧ t = nx (M0 79 5) L (mE M0) R (sq (M0 79 5) L (mE M0) R k) ∧ e = max (tt (M0 79 5) (mI M0) (sq (M0 79 5) L (mE M0) R k) + L (sq (M0 79 5) L (mE M0) R k) t) (tt (M0 79 5) (mI M0) (sq (M0 79 5) L (mE M0) R k) + p) + mI M0 t)) → (Fr [87] M0 M) → Ws v as SH 0 0 63 [some (rv 79), some (iv i), some (iv (tt (M0 79 5) (mI M0) (full (M0 79 5)) + R)), some (iv (sq (M0 79 5) L (mE M0) R k)), some (iv (tt (M0 79 5) (mI M0) (sq (M0 79 5) L (mE M0) R k) + p)), some (iv t), some (iv ((k : Int))), some (iv e), some (iv m)] [] M := by
  intro N
  induction N with
  | zero =>
    intro M m t e hN
    exact absurd hN (Nat.not_lt_zero _)
  | succ N ih =>
    intro M m t e hN g0 g1 g2
    have hc := hA.1.1; have hc2 := hA.1.2.1
    have hfr := full_rng (c := (M0 79 5)) ⟨hc, hc2⟩
    have hC0 := ((hIs R (by omega)).mp (Int.le_refl _)).2
    have e79 := g2 79 (by decide); have e82 := g2 82 (by decide)
    have eI : mI M = mI M0 := by unfold mI; rw [e82]
    have eE : mE M = mE M0 := by unfold mE; rw [e82]
    obtain ⟨q1, q2, q3⟩ := sq_ok (c := (M0 79 5)) (L := L) (be := mE M0) (P := R) ⟨hc, hc2⟩ hC0 k (by omega)
    have hne := sq_ne (c := (M0 79 5)) (L := L) (be := mE M0) (P := R) ⟨hc, hc2⟩ hC0 (k := k) (by omega)
    have hlt := (nx_iff hc hne).mpr q2
    obtain ⟨n1, n2, n3, n4⟩ := nx_spec (c := (M0 79 5)) (L := L) (be := mE M0) (P := R) (s := sq (M0 79 5) L (mE M0) R k) hc
    have htt := tt_rng (s := sq (M0 79 5) L (mE M0) R k) hA.1
    refine s_iload E dX8_least_63 rfl ?_
    refine s_aload_n E dX8_least_65 rfl ?_
    refine s_getI (kf := 5) E 5 rfl dX8_least_66 rfl inb_X8 (Nat.le_of_ble_eq_true rfl) fl_X8_117 (by decide) sh79 rfl ?_
    rw [e79]
    refine s_icmp_ge E 129 dX8_least_69 (by decide) (by omega) (by omega) (fun h69 => ?_) (fun h69 => ?_)
    · rcases g1 with q | q
      · exact absurd (n3 hlt) (q.2 _ n1 (by omega))
      · rw [q.2.2.2, q.2.2.1]
        exact hret M _ g2
    · refine s_iload E dX8_least_72 rfl ?_
      refine s_if_ge E 129 dX8_least_74 (by decide) (by omega) (fun h74 => ?_) (fun h74 => ?_)
      · rcases g1 with q | q
        · exact absurd (n3 hlt) (q.2 _ n1 (by omega))
        · rw [q.2.2.2, q.2.2.1]
          exact hret M _ g2
      · have bm := hA.1.2.2 m (by omega) (by omega)
        have hl := hA.2 (sq (M0 79 5) L (mE M0) R k) m q1.1 q1.2 (by omega) (by omega)
        have ht6 : t = -6 := by omega
        refine s_aload_n E dX8_least_77 rfl ?_
        refine s_iload_n E dX8_least_78 rfl ?_
        refine s_iload E dX8_least_79 rfl ?_
        refine s_callVi E (c_X8_mayBegin _ _ _ (by omega)) dX8_least_81 mf_X8_mayBegin ml_X8_125 rfl (Nat.le_of_ble_eq_true rfl) (Nat.le_of_ble_eq_true rfl) (by decide) sh79 rfl rfl (fun r81 M81 h81 => ?_)
        obtain ⟨e81, f81⟩ := h81; subst r81; subst M81
        rw [eE]
        refine s_ifeqB E 123 dX8_least_84 (by decide) (fun h84 => ?_) (fun h84 => ?_)
        · refine s_iinc (ls' := [_, _, _, _, _, _, _, _, _]) E dX8_least_123 rfl rfl ?_
          refine s_goto E 63 dX8_least_126 (by decide) ?_
          refine ih _ _ _ _ (by omega) (by omega) (Or.inl ⟨ht6, fun j h1 h2 h3 => ?_⟩) g2
          by_cases ej : j = m
          · exact h84 (ej ▸ h3.1)
          · rcases g1 with q | q
            · exact q.2 j h1 (by omega) h3
            · omega
        · have hso := so_le (c := (M0 79 5)) (s := sq (M0 79 5) L (mE M0) R k) (m := m) ⟨hc, hc2⟩ q1 (by omega)
          have hts := tt_so (c := (M0 79 5)) (s := sq (M0 79 5) L (mE M0) R k) (m := m) (mi := mI M0) ⟨hc, hc2⟩ (by omega) (by omega) h84.1
          have hno : ∀ j, 0 ≤ j → j < m → ¬ pd (M0 79 5) L (mE M0) R (sq (M0 79 5) L (mE M0) R k) j := by
            rcases g1 with q | q
            · exact q.2
            · omega
          refine s_aload_n E dX8_least_87 rfl ?_
          refine s_iload_n E dX8_least_88 rfl ?_
          refine s_iload E dX8_least_89 rfl ?_
          refine s_iload E dX8_least_91 rfl ?_
          refine s_callVi E (c_X8_endOf M L _ _ m (hA.fr g2 (by decide) (by decide) (by decide)) (by rw [e79]; exact q1) (by omega) (by rw [e79]; omega)) dX8_least_93 mf_X8_endOf ml_X8_129 rfl (Nat.le_of_ble_eq_true rfl) (Nat.le_of_ble_eq_true rfl) (by decide) sh79 rfl rfl (fun r93 M93 h93 => ?_)
          obtain ⟨e93, f93⟩ := h93; subst r93; subst M93
          rw [e79, eI]
          refine s_istore (ls' := [_, _, _, _, _, _, _, _, _]) E dX8_least_96 (Nat.le_of_ble_eq_true rfl) rfl ?_
          refine s_aload_n E dX8_least_98 rfl ?_
          refine s_iload_n E dX8_least_99 rfl ?_
          refine s_iconst E dX8_least_100 ?_
          refine s_iload E dX8_least_101 rfl ?_
          refine s_ishl E dX8_least_103 ?_
          refine s_ior E dX8_least_104 ?_
          rw [show iOr (sq (M0 79 5) L (mE M0) R k) (iShl 1 m) = so (sq (M0 79 5) L (mE M0) R k) m from rfl]
          refine s_iload E dX8_least_105 rfl ?_
          refine s_callVi E (c_X8_leastFrom M L (so (sq (M0 79 5) L (mE M0) R k) m) (max (L (sq (M0 79 5) L (mE M0) R k) m) p) (hA.fr g2 (by decide) (by decide) (by decide)) (by rw [e79]; exact hso) (by omega) _ (by rw [e79, eI, hts]; omega)) dX8_least_107 mf_X8_leastFrom ml_X8_136 rfl (Nat.le_of_ble_eq_true rfl) (Nat.le_of_ble_eq_true rfl) (by decide) sh79 rfl rfl (fun r107 M107 h107 => ?_)
          obtain ⟨a107, b107, d107⟩ := h107
          rw [e79, eI, eE] at a107
          have hdue := due_iff (c := (M0 79 5)) (R := R) (r := r107) (p := p) (l := L (sq (M0 79 5) L (mE M0) R k) m) (T := tt (M0 79 5) (mI M0) (full (M0 79 5))) (L := L) (be := mE M0) (s := sq (M0 79 5) L (mE M0) R k) (m := m) (by omega) h84 rfl hR hinv.1 hinv.2 a107 b107.2
          have htf := tt_rng (s := full (M0 79 5)) hA.1
          refine s_iload_n E dX8_least_110 rfl ?_
          refine s_icmp_ne E 119 dX8_least_111 (by decide) (by omega) (by omega) (fun h111 => ?_) (fun h111 => ?_)
          · refine s_bipush E dX8_least_119 rfl ?_
            refine s_istore (ls' := [_, _, _, _, _, _, _, _, _]) E dX8_least_121 (Nat.le_of_ble_eq_true rfl) rfl ?_
            refine s_iinc (ls' := [_, _, _, _, _, _, _, _, _]) E dX8_least_123 rfl rfl ?_
            refine s_goto E 63 dX8_least_126 (by decide) ?_
            refine ih _ _ _ _ (by omega) (by omega) (Or.inl ⟨rfl, fun j h1 h2 h3 => ?_⟩) (g2.tr d107)
            by_cases ej : j = m
            · exact h111 (hdue.mpr (ej ▸ h3.2))
            · exact hno j h1 (by omega) h3
          · refine s_iload E dX8_least_114 rfl ?_
            refine s_goto E 121 dX8_least_116 (by decide) ?_
            refine s_istore (ls' := [_, _, _, _, _, _, _, _, _]) E dX8_least_121 (Nat.le_of_ble_eq_true rfl) rfl ?_
            refine s_iinc (ls' := [_, _, _, _, _, _, _, _, _]) E dX8_least_123 rfl rfl ?_
            refine s_goto E 63 dX8_least_126 (by decide) ?_
            have hpd : pd (M0 79 5) L (mE M0) R (sq (M0 79 5) L (mE M0) R k) m := ⟨h84, hdue.mp (Classical.byContradiction h111)⟩
            have hmn : m = nx (M0 79 5) L (mE M0) R (sq (M0 79 5) L (mE M0) R k) := by
              rcases (show m < nx (M0 79 5) L (mE M0) R (sq (M0 79 5) L (mE M0) R k) ∨ m = nx (M0 79 5) L (mE M0) R (sq (M0 79 5) L (mE M0) R k) ∨ nx (M0 79 5) L (mE M0) R (sq (M0 79 5) L (mE M0) R k) < m by omega) with q | q | q
              · exact absurd hpd (n4 m (by omega) q)
              · exact q
              · exact absurd (n3 hlt) (hno _ n1 q)
            exact ih _ _ _ _ (by omega) (by omega) (Or.inr ⟨by omega, by omega, hmn, rfl⟩) (g2.tr d107)

set_option maxRecDepth 100000 in
set_option maxHeartbeats 4000000 in
theorem lp_X8_le {v : Ev} {as : List Nat} (M0 : Mm) (L : Int → Int → Int) (R : Int) (hA : AGM M0 L) (hR : 0 ≤ R ∧ R ≤ 2000) (hIs : IsP (M0 79 5) L (mE M0) R) (i : Int) (hi : 0 ≤ i ∧ i < (M0 79 5)) (E : Cx v cX8_least 9 yX8_least.cls 4) (hret : RetI v as cX8_least .int (fun r M' => r = nx (M0 79 5) L (mE M0) R (sq (M0 79 5) L (mE M0) R i.toNat) ∧ Fr [87] M0 M')) : ∀ (N : Nat) (M : Mm) (k : Nat) (p t : Int) (o7 o8 : Option Vv), (i + 1 - k).toNat < N → ((k : Int) ≤ i + 1) → (t = if k = 0 then -6 else nx (M0 79 5) L (mE M0) R (sq (M0 79 5) L (mE M0) R (k - 1))) → (Fr [87] M0 M) → ((k : Int) ≤ i → ((0 ≤ p ∧ p ≤ R) ∧ ∀ x, x < 1000000 → p ≤ x → Can (M0 79 5) L (mE M0) x (sq (M0 79 5) L (mE M0) R k) → R ≤ x)) → Ws v as SH 0 0 47 [some (rv 79), some (iv i), some (iv (tt (M0 79 5) (mI M0) (full (M0 79 5)) + R)), some (iv (sq (M0 79 5) L (mE M0) R k)), some (iv (tt (M0 79 5) (mI M0) (sq (M0 79 5) L (mE M0) R k) + p)), some (iv t), some (iv ((k : Int))), o7, o8] [] M := by
  intro N
  induction N with
  | zero =>
    intro M k p t o7 o8 hN
    exact absurd hN (Nat.not_lt_zero _)
  | succ N ih =>
    intro M k p t o7 o8 hN g0 g1 g2 g3
    have hc := hA.1.1; have hc2 := hA.1.2.1
    have hfr := full_rng (c := (M0 79 5)) ⟨hc, hc2⟩
    have hC0 := ((hIs R (by omega)).mp (Int.le_refl _)).2
    refine s_iload E dX8_least_47 rfl ?_
    refine s_iload_n E dX8_least_49 rfl ?_
    refine s_icmp_gt E 146 dX8_least_50 (by decide) (by omega) (by omega) (fun h50 => ?_) (fun h50 => ?_)
    · refine s_iload E dX8_least_146 rfl ?_
      refine hret _ _ ?_ (fun q => by cases q) _ _ dX8_least_148
      have e : k = i.toNat + 1 := by omega
      exact ⟨by rw [g1, if_neg (by omega), e]; rfl, g2⟩
    · refine s_bipush E dX8_least_53 rfl ?_
      refine s_istore (ls' := [_, _, _, _, _, _, _, _, _]) E dX8_least_55 (Nat.le_of_ble_eq_true rfl) rfl ?_
      refine s_iconst E dX8_least_57 ?_
      refine s_istore (ls' := [_, _, _, _, _, _, _, _, _]) E dX8_least_58 (Nat.le_of_ble_eq_true rfl) rfl ?_
      refine s_iconst E dX8_least_60 ?_
      refine s_istore (ls' := [_, _, _, _, _, _, _, _, _]) E dX8_least_61 (Nat.le_of_ble_eq_true rfl) rfl ?_
      refine lp_X8_le_in M0 L R hA hR hIs i p k (by omega) (g3 (by omega)) E (fun M2 o8 d2 => ?_) (((M0 79 5)).toNat + 1) M 0 (-6) 0 (by omega) (by omega) (Or.inl ⟨rfl, fun j h1 h2 => by omega⟩) g2
      refine s_iload_n E dX8_least_129 rfl ?_
      refine s_iconst E dX8_least_130 ?_
      refine s_iload E dX8_least_131 rfl ?_
      refine s_ishl E dX8_least_133 ?_
      refine s_ior E dX8_least_134 ?_
      rw [show iOr (sq (M0 79 5) L (mE M0) R k) (iShl 1 (nx (M0 79 5) L (mE M0) R (sq (M0 79 5) L (mE M0) R k))) = sq (M0 79 5) L (mE M0) R (k + 1) from rfl]
      refine s_istore_n (ls' := [_, _, _, _, _, _, _, _, _]) E dX8_least_135 (Nat.le_of_ble_eq_true rfl) rfl ?_
      refine s_iload E dX8_least_136 rfl ?_
      refine s_istore (ls' := [_, _, _, _, _, _, _, _, _]) E dX8_least_138 (Nat.le_of_ble_eq_true rfl) rfl ?_
      refine s_iinc (ls' := [_, _, _, _, _, _, _, _, _]) E dX8_least_140 rfl rfl ?_
      refine s_goto E 47 dX8_least_143 (by decide) ?_
      obtain ⟨q1, q2, q3⟩ := sq_ok (c := (M0 79 5)) (L := L) (be := mE M0) (P := R) ⟨hc, hc2⟩ hC0 k (by omega)
      have hne := sq_ne (c := (M0 79 5)) (L := L) (be := mE M0) (P := R) ⟨hc, hc2⟩ hC0 (k := k) (by omega)
      have hlt := (nx_iff hc hne).mpr q2
      obtain ⟨n1, n2, n3, n4⟩ := nx_spec (c := (M0 79 5)) (L := L) (be := mE M0) (P := R) (s := sq (M0 79 5) L (mE M0) R k) hc
      have hpd := n3 hlt
      have hts : tt (M0 79 5) (mI M0) (sq (M0 79 5) L (mE M0) R (k + 1)) = tt (M0 79 5) (mI M0) (sq (M0 79 5) L (mE M0) R k) + mI M0 (nx (M0 79 5) L (mE M0) R (sq (M0 79 5) L (mE M0) R k)) := tt_so (c := (M0 79 5)) (s := sq (M0 79 5) L (mE M0) R k) (m := nx (M0 79 5) L (mE M0) R (sq (M0 79 5) L (mE M0) R k)) (mi := mI M0) ⟨hc, hc2⟩ (by omega) ⟨n1, hlt⟩ hpd.1.1
      have hinv := g3 (by omega)
      have ee : max (tt (M0 79 5) (mI M0) (sq (M0 79 5) L (mE M0) R k) + L (sq (M0 79 5) L (mE M0) R k) (nx (M0 79 5) L (mE M0) R (sq (M0 79 5) L (mE M0) R k))) (tt (M0 79 5) (mI M0) (sq (M0 79 5) L (mE M0) R k) + p) + mI M0 (nx (M0 79 5) L (mE M0) R (sq (M0 79 5) L (mE M0) R k)) = tt (M0 79 5) (mI M0) (sq (M0 79 5) L (mE M0) R (k + 1)) + max (L (sq (M0 79 5) L (mE M0) R k) (nx (M0 79 5) L (mE M0) R (sq (M0 79 5) L (mE M0) R k))) p := by omega
      rw [ee, show ((k : Int) + 1) = ((k + 1 : Nat) : Int) by omega]
      refine ih M2 (k + 1) _ _ _ _ (by omega) (by omega) (by rw [if_neg (by omega)]; rfl) d2 (fun _ => ⟨by have := hpd.2.1; omega, fun x hx h1 h2 => ?_⟩)
      exact hinv.2 x hx (by omega) (Can_iff.mpr (Or.inr ⟨nx (M0 79 5) L (mE M0) R (sq (M0 79 5) L (mE M0) R k), ⟨n1, hlt⟩, hpd.1, by omega, h2⟩))

set_option maxRecDepth 100000 in
set_option maxHeartbeats 4000000 in
theorem c_X8_least (M : Mm) (i : Int) (hi : inI i) (hm : MOK (M 79 5) (mB M) (mI M) (mE M)) (hs : ∀ k, 0 ≤ k → k < 6 → 0 ≤ M 80 (4 * k) ∧ M 80 (4 * k) ≤ 999) : CtI yX8_least cX8_least 9 .int 4 SH [rv 79, iv i] M (fun r M' => (i < -1 ∨ M 79 5 ≤ i → r = -6 ∧ KpM M M') ∧ (¬ (i < -1 ∨ M 79 5 ≤ i) → ∃ R, 0 ≤ R ∧ R ≤ 2000 ∧ IsP (M 79 5) (LcM M) (mE M) R ∧ r = (if i = -1 then tt (M 79 5) (mI M) (full (M 79 5)) + R else nx (M 79 5) (LcM M) (mE M) R (sq (M 79 5) (LcM M) (mE M) R i.toNat)) ∧ KpM M M')) := by
  refine CtI.of rfl (Nat.le_of_ble_eq_true rfl) (Or.inl rfl) (fun v as E hret => ?_)
  show Ws v as SH 0 0 0 [some (rv 79), some (iv i), none, none, none, none, none, none, none] [] M
  have hc := hm.1; have hc2 := hm.2.1
  have hfr := full_rng (c := M 79 5) ⟨hc, hc2⟩
  refine s_aload_n E dX8_least_0 rfl ?_
  refine s_callVv E (c_X8_asSaved M) dX8_least_1 mf_X8_asSaved ml_X8_133 rfl (Nat.le_of_ble_eq_true rfl) (Nat.le_of_ble_eq_true rfl) (by decide) sh79 rfl rfl (fun M1 h1 => ?_)
  obtain ⟨a1, b1⟩ := h1
  have k79 := b1 79 (by decide); have k82 := b1 82 (by decide)
  have eB : mB M1 = mB M := by unfold mB; rw [k82]
  have eI : mI M1 = mI M := by unfold mI; rw [k82]
  have eE : mE M1 = mE M := by unfold mE; rw [k82]
  have hA : AGM M1 (LcM M) := by
    refine ⟨by rw [k79, eB, eI, eE]; exact hm, fun s m h1 h2 h3 h4 => ?_⟩
    rw [k79] at h2 h4
    have bm := hm.2.2 m h3 (by omega)
    have hl := lk_rng (sv := fun k => M 80 (4 * k)) (s := s) hm hs ⟨h3, h4⟩
    rw [k79, eB, eI]
    refine ⟨?_, hl⟩
    unfold LcM lk
    rw [a1 (mB M m) (by omega) (by omega)]
  refine s_aload_n E dX8_least_4 rfl ?_
  refine s_iconst E dX8_least_5 ?_
  refine s_iconst E dX8_least_6 ?_
  refine s_callVi E (c_X8_leastFrom M1 (LcM M) 0 0 hA (by rw [k79]; omega) (by decide) 0 (by rw [k79, tt_0 ⟨hc, hc2⟩]; decide)) dX8_least_7 mf_X8_leastFrom ml_X8_136 rfl (Nat.le_of_ble_eq_true rfl) (Nat.le_of_ble_eq_true rfl) (by decide) sh79 rfl rfl (fun r7 M7 h7 => ?_)
  obtain ⟨a7, b7, d7⟩ := h7
  rw [k79, eI, eE] at a7
  have hQ : IsP (M 79 5) (LcM M) (mE M) (r7 - tt (M 79 5) (mI M) (full (M 79 5))) := a7
  have hR2 := IsP_small hm (fun s m _ _ h3 h4 => (lk_rng (sv := fun k => M 80 (4 * k)) (s := s) hm hs ⟨h3, h4⟩).2) hQ
  have htf := tt_rng (s := full (M 79 5)) hm
  have hR0 : 0 ≤ r7 - tt (M 79 5) (mI M) (full (M 79 5)) := ((hQ _ (by omega)).mp (Int.le_refl _)).1
  have hkp : KpM M M7 := (b1.kpM (by decide)).tr (d7.kpM (by decide))
  have j79 : M7 79 = M 79 := by rw [d7 79 (by decide), k79]
  have j795 : M7 79 5 = M 79 5 := by rw [j79]
  refine s_istore_n (ls' := [_, _, _, _, _, _, _, _, _]) E dX8_least_10 (Nat.le_of_ble_eq_true rfl) rfl ?_
  refine s_iload_n E dX8_least_11 rfl ?_
  refine s_iconst E dX8_least_12 ?_
  refine s_icmp_ne E 18 dX8_least_13 (by decide) (by omega) (by omega) (fun h13 => ?_) (fun h13 => ?_)
  · refine s_iload_n E dX8_least_18 rfl ?_
    refine s_iconst E dX8_least_19 ?_
    refine s_aload_n E dX8_least_20 rfl ?_
    refine s_getI (kf := 5) E 5 rfl dX8_least_21 rfl inb_X8 (Nat.le_of_ble_eq_true rfl) fl_X8_117 (by decide) sh79 rfl ?_
    refine s_iconst E dX8_least_24 ?_
    refine s_isub E dX8_least_25 ?_
    refine s_callSi E (c_X8_in _ _ _ _ (by omega) (by omega) (by omega)) dX8_least_26 mf_X8_in ml_X8_63 rfl (Nat.le_of_ble_eq_true rfl) (Nat.le_of_ble_eq_true rfl) rfl (fun r26 M26 h26 => ?_)
    obtain ⟨e26, f26⟩ := h26; subst r26; subst M26
    refine s_ifneB E 35 dX8_least_29 (by decide) (fun h29 => ?_) (fun h29 => ?_)
    · refine s_iconst E dX8_least_35 ?_
      refine s_istore_n (ls' := [_, _, _, _, _, _, _, _, _]) E dX8_least_36 (Nat.le_of_ble_eq_true rfl) rfl ?_
      refine s_iconst E dX8_least_37 ?_
      refine s_istore (ls' := [_, _, _, _, _, _, _, _, _]) E dX8_least_38 (Nat.le_of_ble_eq_true rfl) rfl ?_
      refine s_bipush E dX8_least_40 rfl ?_
      refine s_istore (ls' := [_, _, _, _, _, _, _, _, _]) E dX8_least_42 (Nat.le_of_ble_eq_true rfl) rfl ?_
      refine s_iconst E dX8_least_44 ?_
      refine s_istore (ls' := [_, _, _, _, _, _, _, _, _]) E dX8_least_45 (Nat.le_of_ble_eq_true rfl) rfl ?_
      have hA7 : AGM M7 (LcM M) := hA.fr d7 (by decide) (by decide) (by decide)
      have j82 : M7 82 = M 82 := by rw [d7 82 (by decide), k82]
      have fI : mI M7 = mI M := by unfold mI; rw [j82]
      have fE : mE M7 = mE M := by unfold mE; rw [j82]
      have key := lp_X8_le M7 (LcM M) (r7 - tt (M 79 5) (mI M) (full (M 79 5))) hA7 ⟨hR0, hR2⟩ (by rw [j79, fE]; exact hQ) i (by rw [j79]; omega) E (fun r M' h => hret r M' ⟨fun q => by omega, fun _ => ⟨_, hR0, hR2, hQ, ?_, ?_⟩⟩) ((i + 1).toNat + 1) M7 0 0 (-6) none none (by omega) (by omega) rfl (Fr.rf _ M7) (fun _ => ⟨⟨by decide, hR0⟩, fun x hx h1 h2 => ?_⟩)
      · rw [j79, fI, fE, show sq (M 79 5) (LcM M) (mE M) (r7 - tt (M 79 5) (mI M) (full (M 79 5))) 0 = 0 from rfl, tt_0 ⟨hc, hc2⟩, show tt (M 79 5) (mI M) (full (M 79 5)) + (r7 - tt (M 79 5) (mI M) (full (M 79 5))) = r7 by omega] at key
        exact key
      · rw [if_neg (by omega), h.1, j79, fE]
      · exact hkp.tr (h.2.kpM (by decide))
      · rw [j79, fE] at h2
        exact (hQ x hx).mpr ⟨h1, h2⟩
    · refine s_bipush E dX8_least_32 rfl ?_
      refine hret _ _ ?_ (fun q => by cases q) _ _ dX8_least_34
      exact ⟨fun _ => ⟨rfl, hkp⟩, fun q => by exfalso; rw [j79] at h29; omega⟩
  · refine s_iload_n E dX8_least_16 rfl ?_
    refine hret _ _ ?_ (fun q => by cases q) _ _ dX8_least_17
    exact ⟨fun q => by omega, fun _ => ⟨_, hR0, hR2, hQ, by rw [if_pos (by omega)]; omega, hkp⟩⟩
