/-! ===== the class's order; least ===== -/
set_option maxRecDepth 100000 in
set_option maxHeartbeats 4000000 in
theorem lp_X0_fn {v : Ev} {as : List Nat} (M : Mm) (L : Int → Int → Int) (s P : Int) (hA : AG M L) (hs : 0 ≤ s ∧ s ≤ full (M 14 3)) (hP : inI P) (hC : ∀ t, s < t → t ≤ full (M 14 3) → M 36 t = b2 (Can (M 14 3) L (M 17) P t)) (E : Cx v cX0_findNext 5 yX0_findNext.cls 3) (hret : RetI v as cX0_findNext .int (fun r M' => r = nx (M 14 3) L (M 17) P s ∧ M' = M)) : ∀ (N : Nat) (m : Int), (M 14 3 - m).toNat < N → (0 ≤ m ∧ m ≤ M 14 3) → (fmN (pd (M 14 3) L (M 17) P s) (M 14 3 - m).toNat m = nx (M 14 3) L (M 17) P s) → Ws v as SH 0 0 3 [some (rv 29), some (rv 14), some (iv s), some (iv P), some (iv m)] [] M := by
  intro N
  induction N with
  | zero =>
    intro m hN
    exact absurd hN (Nat.not_lt_zero _)
  | succ N ih =>
    intro m hN g0 g1
    have hc := hA.1.1; have hc2 := hA.1.2.1
    have hf := full_rng (c := M 14 3) ⟨hc, hc2⟩
    refine s_iload E dX0_findNext_3 rfl ?_
    refine s_aload_n E dX0_findNext_5 rfl ?_
    refine s_getI (kf := 3) E 3 rfl dX0_findNext_6 rfl inb_X4 (Nat.le_of_ble_eq_true rfl) fl_X0_45 (by decide) sh14 rfl ?_
    refine s_icmp_ge E 57 dX0_findNext_9 (by decide) (by omega) (by omega) (fun h9 => ?_) (fun h9 => ?_)
    · refine s_aload_n E dX0_findNext_57 rfl ?_
      refine s_getI (kf := 3) E 3 rfl dX0_findNext_58 rfl inb_X4 (Nat.le_of_ble_eq_true rfl) fl_X0_45 (by decide) sh14 rfl ?_
      refine hret _ _ ?_ (fun q => by cases q) _ _ dX0_findNext_61
      exact ⟨by rw [← g1, fmN_e (by omega)]; omega, rfl⟩
    · have bm := hA.1.2.2 m (by omega) (by omega)
      have hn := hA.2.2 s m (by omega) (by omega) (by omega) (by omega)
      refine s_aload_n E dX0_findNext_12 rfl ?_
      refine s_iload E dX0_findNext_13 rfl ?_
      refine s_iload_n E dX0_findNext_15 rfl ?_
      refine s_callVi E (c_X4_isNext _ _ _ (by omega)) dX0_findNext_16 mf_X4_isNext ml_X0_74 rfl (Nat.le_of_ble_eq_true rfl) (Nat.le_of_ble_eq_true rfl) (by decide) sh14 rfl rfl (fun r16 M16 h16 => ?_)
      obtain ⟨e16, f16⟩ := h16; subst r16; subst M16
      refine s_ifeqB E 51 dX0_findNext_19 (by decide) (fun h19 => ?_) (fun h19 => ?_)
      · refine s_iinc (ls' := [_, _, _, _, _]) E dX0_findNext_51 rfl rfl ?_
        refine s_goto E 3 dX0_findNext_54 (by decide) ?_
        exact ih _ (by omega) (by omega) (by rw [← g1]; exact (fmN_n (by omega) (fun q => h19 q.1)).symm)
      · have hso := so_le (c := M 14 3) (s := s) (m := m) ⟨hc, hc2⟩ (by omega) (by omega)
        have hgt := so_gt (s := s) (m := m) (by omega) (by omega) h19.1
        refine s_aload_n E dX0_findNext_22 rfl ?_
        refine s_aload_n E dX0_findNext_23 rfl ?_
        refine s_iload_n E dX0_findNext_24 rfl ?_
        refine s_iload E dX0_findNext_25 rfl ?_
        refine s_callVi E (c_X0_lack _ _ _ (by omega) (by omega) (by omega)) dX0_findNext_27 mf_X0_lack ml_X0_78 rfl (Nat.le_of_ble_eq_true rfl) (Nat.le_of_ble_eq_true rfl) (by decide) sh29 rfl rfl (fun r27 M27 h27 => ?_)
        obtain ⟨e27, f27⟩ := h27; subst r27; subst M27
        rw [hn.1]
        refine s_iload_n E dX0_findNext_30 rfl ?_
        refine s_icmp_gt E 51 dX0_findNext_31 (by decide) (by omega) (by omega) (fun h31 => ?_) (fun h31 => ?_)
        · refine s_iinc (ls' := [_, _, _, _, _]) E dX0_findNext_51 rfl rfl ?_
          refine s_goto E 3 dX0_findNext_54 (by decide) ?_
          exact ih _ (by omega) (by omega) (by rw [← g1]; exact (fmN_n (by omega) (fun q => by have := q.2.1; omega)).symm)
        · refine s_aload_n E dX0_findNext_34 rfl ?_
          refine s_getR (kf := 8) E dX0_findNext_35 rfl inb_X0 (Nat.le_of_ble_eq_true rfl) fl_X0_38 (by decide) sh29 rfl ?_
          refine s_iload_n E dX0_findNext_38 rfl ?_
          refine s_iconst E dX0_findNext_39 ?_
          refine s_iload E dX0_findNext_40 rfl ?_
          refine s_ishl E dX0_findNext_42 ?_
          refine s_ior E dX0_findNext_43 ?_
          rw [show iOr s (iShl 1 m) = so s m from rfl]
          refine s_bald E dX0_findNext_44 (by decide) sh36 (Nat.le_of_ble_eq_true rfl) (by omega) ?_
          rw [hC (so s m) (by omega) (by omega)]
          refine s_if_eq E 51 dX0_findNext_45 (by decide) (inI_b2 _) (fun h45 => ?_) (fun h45 => ?_)
          · refine s_iinc (ls' := [_, _, _, _, _]) E dX0_findNext_51 rfl rfl ?_
            refine s_goto E 3 dX0_findNext_54 (by decide) ?_
            exact ih _ (by omega) (by omega) (by rw [← g1]; exact (fmN_n (by omega) (fun q => b2_eq0.mp h45 q.2.2)).symm)
          · refine s_iload E dX0_findNext_48 rfl ?_
            refine hret _ _ ?_ (fun q => by cases q) _ _ dX0_findNext_50
            exact ⟨by rw [← g1]; exact (fmN_y (by omega) ⟨h19, by omega, Classical.byContradiction (fun q => h45 (b2_eq0.mpr q))⟩).symm, rfl⟩

set_option maxRecDepth 100000 in
set_option maxHeartbeats 4000000 in
theorem c_X0_findNext (M : Mm) (L : Int → Int → Int) (s P : Int) (hA : AG M L) (hs : 0 ≤ s ∧ s ≤ full (M 14 3)) (hP : inI P) (hC : ∀ t, s < t → t ≤ full (M 14 3) → M 36 t = b2 (Can (M 14 3) L (M 17) P t)) : CtI yX0_findNext cX0_findNext 5 .int 3 SH [rv 29, rv 14, iv s, iv P] M (fun r M' => r = nx (M 14 3) L (M 17) P s ∧ M' = M) := by
  refine CtI.of rfl (Nat.le_of_ble_eq_true rfl) (Or.inl rfl) (fun v as E hret => ?_)
  show Ws v as SH 0 0 0 [some (rv 29), some (rv 14), some (iv s), some (iv P), none] [] M
  refine s_iconst E dX0_findNext_0 ?_
  refine s_istore (ls' := [_, _, _, _, _]) E dX0_findNext_1 (Nat.le_of_ble_eq_true rfl) rfl ?_
  have hc := hA.1.1
  exact lp_X0_fn M L s P hA hs hP hC E hret ((M 14 3).toNat + 1) 0 (by omega) (by omega) (by rw [Int.sub_zero]; rfl)

set_option maxRecDepth 100000 in
set_option maxHeartbeats 4000000 in
theorem lp_X0_fo2 {v : Ev} {as : List Nat} (M0 : Mm) (L : Int → Int → Int) (P : Int) (hA : AG M0 L) (hP : inI P) (h0 : Can (M0 14 3) L (M0 17) P 0) (E : Cx v cX0_findOrder 6 yX0_findOrder.cls 4) (hret : RetV v as cX0_findOrder (fun M' => (∀ k : Nat, (k : Int) < M0 14 3 → M' 30 k = nx (M0 14 3) L (M0 17) P (sq (M0 14 3) L (M0 17) P k)) ∧ Fr [30, 36] M0 M')) : ∀ (N : Nat) (M : Mm) (k : Nat) (o5 : Option Vv), (M0 14 3 - k).toNat < N → ((k : Int) ≤ M0 14 3) → (∀ j : Nat, j < k → M 30 j = nx (M0 14 3) L (M0 17) P (sq (M0 14 3) L (M0 17) P j)) → (∀ t, -1 < t → t ≤ full (M0 14 3) → M 36 t = b2 (Can (M0 14 3) L (M0 17) P t)) → (Fr [30, 36] M0 M) → Ws v as SH 0 0 57 [some (rv 29), some (rv 14), some (iv P), some (iv (sq (M0 14 3) L (M0 17) P k)), some (iv ((k : Int))), o5] [] M := by
  intro N
  induction N with
  | zero =>
    intro M k o5 hN
    exact absurd hN (Nat.not_lt_zero _)
  | succ N ih =>
    intro M k o5 hN g0 g1 g2 g3
    have hc := hA.1.1; have hc2 := hA.1.2.1
    have hf := full_rng (c := M0 14 3) ⟨hc, hc2⟩
    have e14 := g3 14 (by decide); have e17 := g3 17 (by decide)
    have g9 := g3
    obtain ⟨a1, a2, a3⟩ := sq_ok (c := M0 14 3) (L := L) (be := M0 17) (P := P) ⟨hc, hc2⟩ h0 k (by omega)
    refine s_iload E dX0_findOrder_57 rfl ?_
    refine s_aload_n E dX0_findOrder_59 rfl ?_
    refine s_getI (kf := 3) E 3 rfl dX0_findOrder_60 rfl inb_X4 (Nat.le_of_ble_eq_true rfl) fl_X0_45 (by decide) sh14 rfl ?_
    rw [e14]
    refine s_icmp_ge E 107 dX0_findOrder_63 (by decide) (by omega) (by omega) (fun h63 => ?_) (fun h63 => ?_)
    · refine hret _ ?_ _ _ dX0_findOrder_107
      exact ⟨fun j h => g1 j (by omega), g3⟩
    · have hlt := (nx_iff (L := L) (be := M0 17) (P := P) hc (sq_ne ⟨hc, hc2⟩ h0 (k := k) (by omega))).mpr a2
      have hsp := nx_spec (c := M0 14 3) (L := L) (be := M0 17) (P := P) (s := sq (M0 14 3) L (M0 17) P k) hc
      refine s_aload_n E dX0_findOrder_66 rfl ?_
      refine s_aload_n E dX0_findOrder_67 rfl ?_
      refine s_iload_n E dX0_findOrder_68 rfl ?_
      refine s_iload_n E dX0_findOrder_69 rfl ?_
      refine s_callVi E (c_X0_findNext M L _ P (hA.fr g9 (by decide) (by decide) (by decide) (by decide) (by decide) (by decide) (by decide)) (by rw [e14]; exact a1) hP (by rw [e14, e17]; exact fun t h1 h2 => g2 t (by omega) h2)) dX0_findOrder_70 mf_X0_findNext ml_X0_91 rfl (Nat.le_of_ble_eq_true rfl) (Nat.le_of_ble_eq_true rfl) (by decide) sh29 rfl rfl (fun r70 M70 h70 => ?_)
      obtain ⟨e70, f70⟩ := h70; subst r70; subst M70
      rw [e14, e17]
      refine s_istore (ls' := [_, _, _, _, _, _]) E dX0_findOrder_73 (Nat.le_of_ble_eq_true rfl) rfl ?_
      refine s_iload E dX0_findOrder_75 rfl ?_
      refine s_aload_n E dX0_findOrder_77 rfl ?_
      refine s_getI (kf := 3) E 3 rfl dX0_findOrder_78 rfl inb_X4 (Nat.le_of_ble_eq_true rfl) fl_X0_45 (by decide) sh14 rfl ?_
      rw [e14]
      refine s_icmp_lt E 85 dX0_findOrder_81 (by decide) (by omega) (by omega) (fun h81 => ?_) (fun h81 => ?_)
      · refine s_aload_n E dX0_findOrder_85 rfl ?_
        refine s_getR (kf := 0) E dX0_findOrder_86 rfl inb_X0 (Nat.le_of_ble_eq_true rfl) fl_X0_9 (by decide) sh29 rfl ?_
        refine s_iload E dX0_findOrder_89 rfl ?_
        refine s_iload E dX0_findOrder_91 rfl ?_
        refine s_iast E dX0_findOrder_93 (by decide) sh30 (Nat.le_of_ble_eq_true rfl) (by omega) ?_
        refine s_iload_n E dX0_findOrder_94 rfl ?_
        refine s_iconst E dX0_findOrder_95 ?_
        refine s_iload E dX0_findOrder_96 rfl ?_
        refine s_ishl E dX0_findOrder_98 ?_
        refine s_ior E dX0_findOrder_99 ?_
        refine s_istore_n (ls' := [_, _, _, _, _, _]) E dX0_findOrder_100 (Nat.le_of_ble_eq_true rfl) rfl ?_
        refine s_iinc (ls' := [_, _, _, _, _, _]) E dX0_findOrder_101 rfl rfl ?_
        refine s_goto E 57 dX0_findOrder_104 (by decide) ?_
        refine ih _ (k + 1) _ (by omega) (by omega) (fun j h => ?_) (fun t h1 h2 => ?_) (g3.up (by decide))
        · by_cases e : j = k
          · rw [e, upm_eq]
          · rw [upm_ne (Or.inr (by omega))]
            exact g1 j (by omega)
        · rw [upm_ne (Or.inl (by decide))]
          exact g2 t h1 h2
      · refine hret _ ?_ _ _ dX0_findOrder_84
        exfalso; omega

set_option maxRecDepth 100000 in
set_option maxHeartbeats 4000000 in
theorem lp_X0_fo1 {v : Ev} {as : List Nat} (M0 : Mm) (L : Int → Int → Int) (P : Int) (hA : AG M0 L) (hP : inI P) (h0 : Can (M0 14 3) L (M0 17) P 0) (E : Cx v cX0_findOrder 6 yX0_findOrder.cls 4) (hret : RetV v as cX0_findOrder (fun M' => (∀ k : Nat, (k : Int) < M0 14 3 → M' 30 k = nx (M0 14 3) L (M0 17) P (sq (M0 14 3) L (M0 17) P k)) ∧ Fr [30, 36] M0 M')) : ∀ (N : Nat) (M : Mm) (t : Int) (o4 o5 : Option Vv), (t + 1).toNat < N → (-1 ≤ t ∧ t < full (M0 14 3)) → (∀ q, t < q → q ≤ full (M0 14 3) → M 36 q = b2 (Can (M0 14 3) L (M0 17) P q)) → (Fr [30, 36] M0 M) → Ws v as SH 0 0 17 [some (rv 29), some (rv 14), some (iv P), some (iv t), o4, o5] [] M := by
  intro N
  induction N with
  | zero =>
    intro M t o4 o5 hN
    exact absurd hN (Nat.not_lt_zero _)
  | succ N ih =>
    intro M t o4 o5 hN g0 g1 g2
    have hc := hA.1.1; have hc2 := hA.1.2.1
    have hf := full_rng (c := M0 14 3) ⟨hc, hc2⟩
    have e14 := g2 14 (by decide); have e17 := g2 17 (by decide)
    have g9 := g2
    refine s_iload_n E dX0_findOrder_17 rfl ?_
    refine s_if_lt E 52 dX0_findOrder_18 (by decide) (by omega) (fun h18 => ?_) (fun h18 => ?_)
    · refine s_iconst E dX0_findOrder_52 ?_
      refine s_istore_n (ls' := [_, _, _, _, _, _]) E dX0_findOrder_53 (Nat.le_of_ble_eq_true rfl) rfl ?_
      refine s_iconst E dX0_findOrder_54 ?_
      refine s_istore (ls' := [_, _, _, _, _, _]) E dX0_findOrder_55 (Nat.le_of_ble_eq_true rfl) rfl ?_
      exact lp_X0_fo2 M0 L P hA hP h0 E hret ((M0 14 3).toNat + 1) M 0 _ (by omega) (by omega) (fun j h => by omega) (fun q h1 h2 => g1 q (by omega) h2) g2
    · refine s_aload_n E dX0_findOrder_21 rfl ?_
      refine s_getR (kf := 8) E dX0_findOrder_22 rfl inb_X0 (Nat.le_of_ble_eq_true rfl) fl_X0_38 (by decide) sh29 rfl ?_
      refine s_iload_n E dX0_findOrder_25 rfl ?_
      refine s_aload_n E dX0_findOrder_26 rfl ?_
      refine s_aload_n E dX0_findOrder_27 rfl ?_
      refine s_iload_n E dX0_findOrder_28 rfl ?_
      refine s_iload_n E dX0_findOrder_29 rfl ?_
      refine s_callVi E (c_X0_findNext M L _ P (hA.fr g9 (by decide) (by decide) (by decide) (by decide) (by decide) (by decide) (by decide)) (by rw [e14]; omega) hP (by rw [e14, e17]; exact fun t h1 h2 => g1 t h1 h2)) dX0_findOrder_30 mf_X0_findNext ml_X0_91 rfl (Nat.le_of_ble_eq_true rfl) (Nat.le_of_ble_eq_true rfl) (by decide) sh29 rfl rfl (fun r30 M30 h30 => ?_)
      obtain ⟨e30, f30⟩ := h30; subst r30; subst M30
      rw [e14, e17]
      refine s_aload_n E dX0_findOrder_33 rfl ?_
      refine s_getI (kf := 3) E 3 rfl dX0_findOrder_34 rfl inb_X4 (Nat.le_of_ble_eq_true rfl) fl_X0_45 (by decide) sh14 rfl ?_
      rw [e14]
      have hsp := nx_spec (c := M0 14 3) (L := L) (be := M0 17) (P := P) (s := t) hc
      have hix := nx_iff (c := M0 14 3) (L := L) (be := M0 17) (P := P) (s := t) hc (by omega)
      refine s_icmp_ge E 44 dX0_findOrder_37 (by decide) (by omega) (by omega) (fun h37 => ?_) (fun h37 => ?_)
      · refine s_iconst E dX0_findOrder_44 ?_
        refine s_bast E dX0_findOrder_45 (by decide) sh36 (Nat.le_of_ble_eq_true rfl) (by omega) (Or.inl rfl) ?_
        refine s_iinc (ls' := [_, _, _, _, _, _]) E dX0_findOrder_46 rfl rfl ?_
        refine s_goto E 17 dX0_findOrder_49 (by decide) ?_
        refine ih _ _ _ _ (by omega) (by omega) (fun q h1 h2 => ?_) (g2.up (by decide))
        by_cases e : q = t
        · rw [e, upm_eq]
          exact (b2_neg (fun w => by have := hix.mpr w; omega)).symm
        · rw [upm_ne (Or.inr e)]
          exact g1 q (by omega) h2
      · refine s_iconst E dX0_findOrder_40 ?_
        refine s_goto E 45 dX0_findOrder_41 (by decide) ?_
        refine s_bast E dX0_findOrder_45 (by decide) sh36 (Nat.le_of_ble_eq_true rfl) (by omega) (Or.inr rfl) ?_
        refine s_iinc (ls' := [_, _, _, _, _, _]) E dX0_findOrder_46 rfl rfl ?_
        refine s_goto E 17 dX0_findOrder_49 (by decide) ?_
        refine ih _ _ _ _ (by omega) (by omega) (fun q h1 h2 => ?_) (g2.up (by decide))
        by_cases e : q = t
        · rw [e, upm_eq]
          exact (b2_pos (hix.mp (by omega))).symm
        · rw [upm_ne (Or.inr e)]
          exact g1 q (by omega) h2

set_option maxRecDepth 100000 in
set_option maxHeartbeats 4000000 in
theorem c_X0_findOrder (M : Mm) (L : Int → Int → Int) (P : Int) (hA : AG M L) (hP : inI P) (h0 : Can (M 14 3) L (M 17) P 0) : CtV yX0_findOrder cX0_findOrder 6 4 SH [rv 29, rv 14, iv P] M (fun M' => (∀ k : Nat, (k : Int) < M 14 3 → M' 30 k = nx (M 14 3) L (M 17) P (sq (M 14 3) L (M 17) P k)) ∧ Fr [30, 36] M M') := by
  refine CtV.of rfl (Nat.le_of_ble_eq_true rfl) (fun v as E hret => ?_)
  show Ws v as SH 0 0 0 [some (rv 29), some (rv 14), some (iv P), none, none, none] [] M
  have hc := hA.1.1; have hc2 := hA.1.2.1
  have hf := full_rng (c := M 14 3) ⟨hc, hc2⟩
  have e9 := hA.2.1
  refine s_aload_n E dX0_findOrder_0 rfl ?_
  refine s_getR (kf := 8) E dX0_findOrder_1 rfl inb_X0 (Nat.le_of_ble_eq_true rfl) fl_X0_38 (by decide) sh29 rfl ?_
  refine s_aload_n E dX0_findOrder_4 rfl ?_
  refine s_getI (kf := 9) E 9 rfl dX0_findOrder_5 rfl inb_X0 (Nat.le_of_ble_eq_true rfl) fl_X0_42 (by decide) sh29 rfl ?_
  rw [e9]
  refine s_iconst E dX0_findOrder_8 ?_
  refine s_bast E dX0_findOrder_9 (by decide) sh36 (Nat.le_of_ble_eq_true rfl) (by omega) (Or.inr rfl) ?_
  refine s_aload_n E dX0_findOrder_10 rfl ?_
  refine s_getI (kf := 9) E 9 rfl dX0_findOrder_11 rfl inb_X0 (Nat.le_of_ble_eq_true rfl) fl_X0_42 (by decide) sh29 rfl ?_
  refine s_iconst E dX0_findOrder_14 ?_
  rw [upm_ne (Or.inl (show (29 : Int) ≠ 36 by decide)), e9]
  refine s_isub E dX0_findOrder_15 ?_
  refine s_istore_n (ls' := [_, _, _, _, _, _]) E dX0_findOrder_16 (Nat.le_of_ble_eq_true rfl) rfl ?_
  exact lp_X0_fo1 M L P hA hP h0 E hret ((full (M 14 3)).toNat + 1) _ _ _ _ (by omega) (by omega) (fun q h1 h2 => by rw [show q = full (M 14 3) by omega, upm_eq]; exact (b2_pos Can_full).symm) ((Fr.rf _ M).up (by decide))

def Lc (M : Mm) : Int → Int → Int := lk (M 14 3) (M 15) (M 16) (M 3)
theorem IsP_small {c : Int} {bo mi be : Int → Int} (h : MOK c bo mi be) {L : Int → Int → Int} (hL : ∀ s m, 0 ≤ s → s ≤ full c → 0 ≤ m → m < c → L s m ≤ 2000) {R : Int} (hR : IsP c L be R) : R ≤ 2000 := by
  have hf := full_rng (c := c) ⟨h.1, h.2.1⟩
  exact (hR 2000 (by decide)).mpr ⟨by decide, Can_big h hL (full c).toNat 0 (by omega) (Int.le_refl _) hf.1⟩
theorem lk_rng {c : Int} {bo mi be sv : Int → Int} (h : MOK c bo mi be) (hs : ∀ k, 0 ≤ k → k < 6 → 0 ≤ sv k ∧ sv k ≤ 999) {s m : Int} (hm : 0 ≤ m ∧ m < c) : -2000 ≤ lk c bo mi sv s m ∧ lk c bo mi sv s m ≤ 2000 := by
  have h2 := h.2.1
  have a := nd_rng (s := s) (m := m) h (by omega)
  have b := h.2.2 m hm.1 (by omega)
  have d := hs (bo m) (by omega) (by omega)
  unfold lk
  omega

set_option maxRecDepth 100000 in
set_option maxHeartbeats 4000000 in
theorem c_X7_least (M : Mm) (i : Int) (hi : inI i) (hm : MOK (M 14 3) (M 15) (M 16) (M 17)) (hs : ∀ k, 0 ≤ k → k < 6 → 0 ≤ M 3 k ∧ M 3 k ≤ 999) : CtI yX7_least cX7_least 4 .int 5 SH [rv 0, iv i] M (fun r M' => (i < -1 ∨ M 14 3 ≤ i → r = -6 ∧ Kp M M') ∧ (¬ (i < -1 ∨ M 14 3 ≤ i) → ∃ R, 0 ≤ R ∧ R ≤ 2000 ∧ IsP (M 14 3) (Lc M) (M 17) R ∧ r = (if i = -1 then sumN (M 16) (M 14 3).toNat + R else nx (M 14 3) (Lc M) (M 17) R (sq (M 14 3) (Lc M) (M 17) R i.toNat)) ∧ Kp M M')) := by
  refine CtI.of rfl (Nat.le_of_ble_eq_true rfl) (Or.inl rfl) (fun v as E hret => ?_)
  show Ws v as SH 0 0 0 [some (rv 0), some (iv i), none, none] [] M
  have hc := hm.1; have hc2 := hm.2.1
  refine s_aload_n E dX7_least_0 rfl ?_
  refine s_getR (kf := 0) E dX7_least_1 rfl inb_X7 (Nat.le_of_ble_eq_true rfl) fl_X7_10 (by decide) sh0 rfl ?_
  refine s_getR (kf := 2) E dX7_least_4 rfl inb_X2 (Nat.le_of_ble_eq_true rfl) fl_X7_114 (by decide) sh1 rfl ?_
  refine s_astore_n (ls' := [_, _, _, _]) E dX7_least_7 (Nat.le_of_ble_eq_true rfl) rfl ?_
  refine s_iload_n E dX7_least_8 rfl ?_
  refine s_iconst E dX7_least_9 ?_
  refine s_icmp_lt E 21 dX7_least_10 (by decide) (by omega) (by omega) (fun h10 => ?_) (fun h10 => ?_)
  · refine s_bipush E dX7_least_21 rfl ?_
    refine hret _ _ ?_ (fun q => by cases q) _ _ dX7_least_23
    exact ⟨fun _ => ⟨rfl, Kp.rf M⟩, fun q => absurd (by omega) q⟩
  · refine s_iload_n E dX7_least_13 rfl ?_
    refine s_aload_n E dX7_least_14 rfl ?_
    refine s_getI (kf := 3) E 3 rfl dX7_least_15 rfl inb_X4 (Nat.le_of_ble_eq_true rfl) fl_X7_118 (by decide) sh14 rfl ?_
    refine s_icmp_lt E 24 dX7_least_18 (by decide) (by omega) (by omega) (fun h18 => ?_) (fun h18 => ?_)
    · refine s_aload_n E dX7_least_24 rfl ?_
      refine s_getR (kf := 5) E dX7_least_25 rfl inb_X7 (Nat.le_of_ble_eq_true rfl) fl_X7_41 (by decide) sh0 rfl ?_
      refine s_aload_n E dX7_least_28 rfl ?_
      refine s_callVv E (c_X0_prepare M hm) dX7_least_29 mf_X0_prepare ml_X7_132 rfl (Nat.le_of_ble_eq_true rfl) (Nat.le_of_ble_eq_true rfl) (by decide) sh29 rfl rfl (fun M29 h29 => ?_)
      obtain ⟨a29, b29, c29⟩ := h29
      have k14 := c29 14 (by decide); have k15 := c29 15 (by decide); have k16 := c29 16 (by decide); have k17 := c29 17 (by decide); have k3 := c29 3 (by decide)
      refine s_aload_n E dX7_least_32 rfl ?_
      refine s_getR (kf := 5) E dX7_least_33 rfl inb_X7 (Nat.le_of_ble_eq_true rfl) fl_X7_41 (by decide) sh0 rfl ?_
      refine s_aload_n E dX7_least_36 rfl ?_
      refine s_getR (kf := 0) E dX7_least_37 rfl inb_X7 (Nat.le_of_ble_eq_true rfl) fl_X7_10 (by decide) sh0 rfl ?_
      refine s_getR (kf := 0) E dX7_least_40 rfl inb_X2 (Nat.le_of_ble_eq_true rfl) fl_X7_67 (by decide) sh1 rfl ?_
      refine s_iconst E dX7_least_43 ?_
      refine s_aald (kd := 0) (r := 3) E dX7_least_44 (by decide) sh2 (Nat.le_of_ble_eq_true rfl) (by decide) rfl ?_
      refine s_callVv E (c_X0_takeShares M29) dX7_least_45 mf_X0_takeShares ml_X7_136 rfl (Nat.le_of_ble_eq_true rfl) (Nat.le_of_ble_eq_true rfl) (by decide) sh29 rfl rfl (fun M45 h45 => ?_)
      subst M45
      have hA : AG (cp0 M29 3 33 6) (Lc M) := by
        refine ⟨?_, ?_, fun s m h1 h2 h3 h4 => ?_⟩
        · rw [cp0_row (by decide), cp0_row (by decide), cp0_row (by decide), cp0_row (by decide), k14, k15, k16, k17]
          exact hm
        · rw [cp0_row (by decide), cp0_row (by decide), k14]
          exact a29.1
        · rw [cp0_row (show (14 : Int) ≠ 33 by decide), k14] at h2 h4
          have bm := hm.2.2 m h3 (by omega)
          have hl := lk_rng (sv := M 3) (s := s) hm hs ⟨h3, h4⟩
          rw [cp0_row (show (34 : Int) ≠ 33 by decide), cp0_row (show (15 : Int) ≠ 33 by decide), k15, cp0_in (by omega), k3, b29 s m h1 h2 h3 h4]
          exact ⟨rfl, hl⟩
      have hkp : Kp M (cp0 M29 3 33 6) := fun a b q => by rw [cp0_row (by omega), c29 a (by intro w; simp at w; omega)]
      refine s_aload_n E dX7_least_48 rfl ?_
      refine s_getR (kf := 5) E dX7_least_49 rfl inb_X7 (Nat.le_of_ble_eq_true rfl) fl_X7_41 (by decide) sh0 rfl ?_
      refine s_aload_n E dX7_least_52 rfl ?_
      refine s_ldc E dX7_least_53 cst_X7_140 ?_
      refine s_callVi E (c_X0_leastPause _ (Lc M) 1000000 hA (by decide)) dX7_least_55 mf_X0_leastPause ml_X7_141 rfl (Nat.le_of_ble_eq_true rfl) (Nat.le_of_ble_eq_true rfl) (by decide) sh29 rfl rfl (fun r55 M55 h55 => ?_)
      obtain ⟨a55, b55, c55, d55⟩ := h55
      rw [cp0_row (show (14 : Int) ≠ 33 by decide), cp0_row (show (17 : Int) ≠ 33 by decide), k14, k17] at c55
      have hQ : IsP (M 14 3) (Lc M) (M 17) r55 := c55
      have hR2 := IsP_small hm (fun s m _ _ h3 h4 => (lk_rng (sv := M 3) (s := s) hm hs ⟨h3, h4⟩).2) hQ
      have j14 : M55 14 = M 14 := by rw [d55 14 (by decide), cp0_row (by decide), k14]
      have j16 : M55 16 = M 16 := by rw [d55 16 (by decide), cp0_row (by decide), k16]
      have j17 : M55 17 = M 17 := by rw [d55 17 (by decide), cp0_row (by decide), k17]
      have k14 := j14; have k17 := j17
      have hkp2 : Kp M M55 := hkp.tr (d55.kp (by decide))
      refine s_istore_n (ls' := [_, _, _, _]) E dX7_least_58 (Nat.le_of_ble_eq_true rfl) rfl ?_
      refine s_iload_n E dX7_least_59 rfl ?_
      refine s_iconst E dX7_least_60 ?_
      refine s_icmp_ne E 71 dX7_least_61 (by decide) (by omega) (by omega) (fun h61 => ?_) (fun h61 => ?_)
      · refine s_aload_n E dX7_least_71 rfl ?_
        refine s_getR (kf := 5) E dX7_least_72 rfl inb_X7 (Nat.le_of_ble_eq_true rfl) fl_X7_41 (by decide) sh0 rfl ?_
        refine s_aload_n E dX7_least_75 rfl ?_
        refine s_iload_n E dX7_least_76 rfl ?_
        refine s_callVv E (c_X0_findOrder _ (Lc M) r55 (hA.fr d55 (by decide) (by decide) (by decide) (by decide) (by decide) (by decide) (by decide)) (by omega) (by rw [k14, k17]; exact ((hQ r55 (by omega)).mp (Int.le_refl _)).2)) dX7_least_77 mf_X0_findOrder ml_X7_148 rfl (Nat.le_of_ble_eq_true rfl) (Nat.le_of_ble_eq_true rfl) (by decide) sh29 rfl rfl (fun M77 h77 => ?_)
        obtain ⟨a77, b77⟩ := h77
        rw [k14, k17] at a77
        refine s_aload_n E dX7_least_80 rfl ?_
        refine s_getR (kf := 5) E dX7_least_81 rfl inb_X7 (Nat.le_of_ble_eq_true rfl) fl_X7_41 (by decide) sh0 rfl ?_
        refine s_getR (kf := 0) E dX7_least_84 rfl inb_X0 (Nat.le_of_ble_eq_true rfl) fl_X7_152 (by decide) sh29 rfl ?_
        refine s_iload_n E dX7_least_87 rfl ?_
        refine s_iald E dX7_least_88 (by decide) sh30 (Nat.le_of_ble_eq_true rfl) (by omega) ?_
        refine hret _ _ ?_ (fun q => by cases q) _ _ dX7_least_89
        have e := a77 i.toNat (by omega)
        rw [Int.toNat_of_nonneg (by omega)] at e
        exact ⟨fun q => by omega, fun _ => ⟨r55, a55, hR2, hQ, by rw [if_neg (by omega), e], hkp2.tr (b77.kp (by decide))⟩⟩
      · refine s_aload_n E dX7_least_64 rfl ?_
        refine s_callVi E (c_X4_allMinutes _ (by rw [k14]; omega)) dX7_least_65 mf_X4_allMinutes ml_X7_145 rfl (Nat.le_of_ble_eq_true rfl) (Nat.le_of_ble_eq_true rfl) (by decide) sh14 rfl rfl (fun r65 M65 h65 => ?_)
        obtain ⟨e65, f65⟩ := h65; subst r65; subst M65
        rw [j16, j14]
        refine s_iload_n E dX7_least_68 rfl ?_
        refine s_iadd E dX7_least_69 ?_
        refine hret _ _ ?_ (fun q => by cases q) _ _ dX7_least_70
        exact ⟨fun q => by omega, fun _ => ⟨r55, a55, hR2, hQ, by rw [if_pos (by omega)], hkp2⟩⟩
    · refine s_bipush E dX7_least_21 rfl ?_
      refine hret _ _ ?_ (fun q => by cases q) _ _ dX7_least_23
      exact ⟨fun _ => ⟨rfl, Kp.rf M⟩, fun q => absurd (by omega) q⟩
