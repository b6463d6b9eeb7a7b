/-! ===== books: the reference's calls ===== -/
set_option maxRecDepth 100000 in
set_option maxHeartbeats 4000000 in
theorem lp_X8_fi {v : Ev} {as : List Nat} (M0 : Mm) (hp : PadOK (M0 81) (M0 79 3)) (hs : ∀ k, 0 ≤ k → k < 6 → 0 ≤ M0 80 (4 * k) ∧ M0 80 (4 * k) ≤ 999) (a b : Int) (ha : inI a) (hb : inI b) (hb6 : bFault (M0 81) (M0 79 3) = -6) (E : Cx v cX8_filled 5 yX8_filled.cls 6) (hret : RetI v as cX8_filled .int (fun r M' => (bFault (M0 81) (M0 79 3) ≠ -6 → r = -5) ∧ (bFault (M0 81) (M0 79 3) = -6 → ATF (M0 81) (M0 79 3) (fun k => M0 80 (4 * k)) a b r) ∧ KpM M0 M')) : ∀ (N : Nat) (M : Mm) (n code : Int), ((nq (M0 81) (M0 79 3).toNat 0 : Int) + 1 - code).toNat < N → (0 ≤ code ∧ code ≤ (nq (M0 81) (M0 79 3).toNat 0 : Int)) → (n = sumN (HB (M0 81) (M0 79 3).toNat 0 (fun k => M0 80 (4 * k))) code.toNat) → (∀ c, 0 ≤ c → c < code → HB (M0 81) (M0 79 3).toNat 0 (fun k => M0 80 (4 * k)) c = 1 → sumN (HB (M0 81) (M0 79 3).toNat 0 (fun k => M0 80 (4 * k))) c.toNat ≠ a) → (Fr [91, 92] M0 M) → Ws v as SH 0 0 15 [some (rv 79), some (iv a), some (iv b), some (iv n), some (iv code)] [] M := by
  intro N
  induction N with
  | zero =>
    intro M n code hN
    exact absurd hN (Nat.not_lt_zero _)
  | succ N ih =>
    intro M n code hN g0 g1 g2 g3
    have e79 := g3 79 (by decide); have e80 := g3 80 (by decide); have e81 := g3 81 (by decide)
    have hk := bFault_ok hp.1 hb6
    have q := nq_pos (M0 81) (M0 79 3).toNat 0
    have hnr := sumN_rng (g := HB (M0 81) (M0 79 3).toNat 0 (fun k => M0 80 (4 * k))) (a := 0) (b := 1) (n := code.toNat) (fun j _ _ => by have := HB_01 (M0 81) (M0 79 3).toNat 0 (fun k => M0 80 (4 * k)) j; omega)
    refine s_aload_n E dX8_filled_15 rfl ?_
    refine s_iload E dX8_filled_16 rfl ?_
    refine s_callVi E (c_X8_layLine M code (by omega) (by rw [e79]; omega) (by rw [e79, e81]; exact hk.2.1)) dX8_filled_18 mf_X8_layLine ml_X8_142 rfl (Nat.le_of_ble_eq_true rfl) (Nat.le_of_ble_eq_true rfl) (by decide) sh79 rfl rfl (fun r18 M18 h18 => ?_)
    obtain ⟨a18, b18, c18⟩ := h18
    rw [e79, e81] at a18 b18
    subst r18
    have d0 : 0 ≤ code / (nq (M0 81) (M0 79 3).toNat 0 : Int) := Int.ediv_nonneg (by omega) (by omega)
    have d1 : code / (nq (M0 81) (M0 79 3).toNat 0 : Int) ≤ 16807 := Int.le_trans (Int.ediv_le_self _ (by omega)) (by omega)
    have hdz : code / (nq (M0 81) (M0 79 3).toNat 0 : Int) ≠ 0 ↔ code = (nq (M0 81) (M0 79 3).toNat 0 : Int) := ⟨fun w => Classical.byContradiction (fun x => w (Int.ediv_eq_zero_of_lt (by omega) (by omega))), fun w => by rw [w, Int.ediv_self (by omega)]; decide⟩
    refine s_if_ne E 75 dX8_filled_21 (by decide) (by omega) (fun h21 => ?_) (fun h21 => ?_)
    · refine s_iload_n E dX8_filled_75 rfl ?_
      refine s_iconst E dX8_filled_76 ?_
      refine s_icmp_ne E 84 dX8_filled_77 (by decide) (by omega) (by omega) (fun h77 => ?_) (fun h77 => ?_)
      · refine s_bipush E dX8_filled_84 rfl ?_
        refine hret _ _ ?_ (fun q => by cases q) _ _ dX8_filled_86
        have ec : code = (nq (M0 81) (M0 79 3).toNat 0 : Int) := hdz.mp h21
        refine ⟨fun w => absurd hb6 w, fun _ => ⟨fun w => by omega, fun _ => Or.inr ⟨rfl, ?_⟩⟩, (g3.tr (c18.sub (by decide))).kpM (by decide)⟩
        rintro ⟨_, c, q1, q2, q3⟩
        exact g2 c q1.1 (by omega) q2 q3
      · refine s_iload_n E dX8_filled_80 rfl ?_
        refine s_goto E 86 dX8_filled_81 (by decide) ?_
        refine hret _ _ ?_ (fun q => by cases q) _ _ dX8_filled_86
        have ec : code = (nq (M0 81) (M0 79 3).toNat 0 : Int) := hdz.mp h21
        refine ⟨fun w => absurd hb6 w, fun _ => ⟨fun _ => ?_, fun w => by omega⟩, (g3.tr (c18.sub (by decide))).kpM (by decide)⟩
        rw [g1, ec, Int.toNat_natCast]
        rfl
    · refine s_aload_n E dX8_filled_24 rfl ?_
      refine s_callVi E (c_X8_holds M18 code (by rw [c18 79 (by decide), e79]; omega) (by rw [c18 80 (by decide), e80]; exact hs) (by rw [c18 81 (by decide), c18 79 (by decide), e79, e81]; omega) (by rw [c18 81 (by decide), c18 79 (by decide), e79, e81]; intro j h1 h2; rw [b18 j h1 h2, Int.emod_eq_of_lt (by omega) (by omega)])) dX8_filled_25 mf_X8_holds ml_X8_145 rfl (Nat.le_of_ble_eq_true rfl) (Nat.le_of_ble_eq_true rfl) (by decide) sh79 rfl rfl (fun r25 M25 h25 => ?_)
      obtain ⟨a25, b25⟩ := h25
      have f81 : M18 81 = M0 81 := by rw [c18 81 (by decide), e81]
      have f80 : M18 80 = M0 80 := by rw [c18 80 (by decide), e80]
      have f79 : M18 79 = M0 79 := by rw [c18 79 (by decide), e79]
      rw [f81, f80, f79] at a25
      subst r25
      have hFi := FF_HB (M0 81) (M0 79 3).toNat 0 (fun k => M0 80 (4 * k)) code
      have hFr := FF_rng (M0 81) (M0 79 3).toNat 0 (fun k => M0 80 (4 * k)) code
      have hnn : ((M0 79 3).toNat : Int) = M0 79 3 := Int.toNat_of_nonneg hp.1
      rw [hnn, Int.zero_add] at hFi hFr
      have g79 : M25 79 = M0 79 := by rw [b25 79 (by decide), f79]
      refine s_aload_n E dX8_filled_28 rfl ?_
      refine s_getI (kf := 3) E 3 rfl dX8_filled_29 rfl inb_X8 (Nat.le_of_ble_eq_true rfl) fl_X8_75 (by decide) sh79 rfl ?_
      rw [g79]
      refine s_icmp_ne E 69 dX8_filled_32 (by decide) (by omega) (by omega) (fun h32 => ?_) (fun h32 => ?_)
      · refine s_iinc (ls' := [_, _, _, _, _]) E dX8_filled_69 rfl rfl ?_
        refine s_goto E 15 dX8_filled_72 (by decide) ?_
        have hst := sumN_step (g := HB (M0 81) (M0 79 3).toNat 0 (fun k => M0 80 (4 * k))) (k := code) (by omega)
        refine ih _ _ _ (by omega) (by omega) ?_ (fun c h1 h2 h3 => ?_) ((g3.tr (c18.sub (by decide))).tr (b25.sub (by decide)))
        · have h01 := HB_01 (M0 81) (M0 79 3).toNat 0 (fun k => M0 80 (4 * k)) code
          have : HB (M0 81) (M0 79 3).toNat 0 (fun k => M0 80 (4 * k)) code ≠ 1 := fun w => by have := hFi.mpr w; omega
          rw [hst, ← g1]; omega
        · by_cases e : c = code
          · rw [e] at h3
            have := hFi.mpr h3; omega
          · exact g2 c h1 (by omega) h3
      · have hH1 : HB (M0 81) (M0 79 3).toNat 0 (fun k => M0 80 (4 * k)) code = 1 := hFi.mp (by omega)
        refine s_iload_n E dX8_filled_35 rfl ?_
        refine s_iload_n E dX8_filled_36 rfl ?_
        refine s_icmp_ne E 66 dX8_filled_37 (by decide) (by omega) (by omega) (fun h37 => ?_) (fun h37 => ?_)
        · refine s_iinc (ls' := [_, _, _, _, _]) E dX8_filled_66 rfl rfl ?_
          refine s_iinc (ls' := [_, _, _, _, _]) E dX8_filled_69 rfl rfl ?_
          refine s_goto E 15 dX8_filled_72 (by decide) ?_
          have hst := sumN_step (g := HB (M0 81) (M0 79 3).toNat 0 (fun k => M0 80 (4 * k))) (k := code) (by omega)
          refine ih _ _ _ (by omega) (by omega) ?_ (fun c h1 h2 h3 => ?_) ((g3.tr (c18.sub (by decide))).tr (b25.sub (by decide)))
          · rw [hst, ← g1, hH1]
          · by_cases e : c = code
            · rw [e, ← g1]; omega
            · exact g2 c h1 (by omega) h3
        · refine s_iload_n E dX8_filled_40 rfl ?_
          refine s_iconst E dX8_filled_41 ?_
          refine s_aload_n E dX8_filled_42 rfl ?_
          refine s_getI (kf := 3) E 3 rfl dX8_filled_43 rfl inb_X8 (Nat.le_of_ble_eq_true rfl) fl_X8_75 (by decide) sh79 rfl ?_
          refine s_iconst E dX8_filled_46 ?_
          refine s_isub E dX8_filled_47 ?_
          rw [g79]
          refine s_callSi E (c_X8_in _ _ _ _ (by omega) (by omega) (by omega)) dX8_filled_48 mf_X8_in ml_X8_63 rfl (Nat.le_of_ble_eq_true rfl) (Nat.le_of_ble_eq_true rfl) rfl (fun r48 M48 h48 => ?_)
          obtain ⟨e48, f48⟩ := h48; subst r48; subst M48
          refine s_ifeqB E 63 dX8_filled_51 (by decide) (fun h51 => ?_) (fun h51 => ?_)
          · refine s_bipush E dX8_filled_63 rfl ?_
            refine hret _ _ ?_ (fun q => by cases q) _ _ dX8_filled_65
            refine ⟨fun w => absurd hb6 w, fun _ => ⟨fun w => by omega, fun _ => Or.inr ⟨rfl, fun w => by omega⟩⟩, ((g3.tr (c18.sub (by decide))).tr (b25.sub (by decide))).kpM (by decide)⟩
          · refine s_aload_n E dX8_filled_54 rfl ?_
            refine s_getR (kf := 18) E dX8_filled_55 rfl inb_X8 (Nat.le_of_ble_eq_true rfl) fl_X8_50 (by decide) sh79 rfl ?_
            refine s_iload_n E dX8_filled_58 rfl ?_
            refine s_iald E dX8_filled_59 (by decide) sh91 (Nat.le_of_ble_eq_true rfl) (by omega) ?_
            rw [b25 91 (by decide), b18 b (by omega) (by omega), Int.emod_eq_of_lt (by omega) (by omega)]
            refine s_goto E 65 dX8_filled_60 (by decide) ?_
            refine hret _ _ ?_ (fun q => by cases q) _ _ dX8_filled_65
            refine ⟨fun w => absurd hb6 w, fun _ => ⟨fun w => by omega, fun _ => Or.inl ⟨by omega, code, by omega, hH1, by omega, rfl⟩⟩, ((g3.tr (c18.sub (by decide))).tr (b25.sub (by decide))).kpM (by decide)⟩

set_option maxRecDepth 100000 in
set_option maxHeartbeats 4000000 in
theorem c_X8_filled (M0 : Mm) (hp : PadOK (M0 81) (M0 79 3)) (hs : ∀ k, 0 ≤ k → k < 6 → 0 ≤ M0 80 (4 * k) ∧ M0 80 (4 * k) ≤ 999) (a b : Int) (ha : inI a) (hb : inI b) : CtI yX8_filled cX8_filled 5 .int 6 SH [rv 79, iv a, iv b] M0 (fun r M' => (bFault (M0 81) (M0 79 3) ≠ -6 → r = -5) ∧ (bFault (M0 81) (M0 79 3) = -6 → ATF (M0 81) (M0 79 3) (fun k => M0 80 (4 * k)) a b r) ∧ KpM M0 M') := by
  refine CtI.of rfl (Nat.le_of_ble_eq_true rfl) (Or.inl rfl) (fun v as E hret => ?_)
  show Ws v as SH 0 0 0 [some (rv 79), some (iv a), some (iv b), none, none] [] M0
  refine s_aload_n E dX8_filled_0 rfl ?_
  refine s_callVi E (c_X8_bookFault M0 hp) dX8_filled_1 mf_X8_bookFault ml_X8_88 rfl (Nat.le_of_ble_eq_true rfl) (Nat.le_of_ble_eq_true rfl) (by decide) sh79 rfl rfl (fun r1 M1 h1 => ?_)
  obtain ⟨e1, f1⟩ := h1; subst r1; subst M1
  have hbr := bFault_rng hp
  refine s_if_lt E 10 dX8_filled_4 (by decide) (by omega) (fun h4 => ?_) (fun h4 => ?_)
  · refine s_iconst E dX8_filled_10 ?_
    refine s_istore_n (ls' := [_, _, _, _, _]) E dX8_filled_11 (Nat.le_of_ble_eq_true rfl) rfl ?_
    refine s_iconst E dX8_filled_12 ?_
    refine s_istore (ls' := [_, _, _, _, _]) E dX8_filled_13 (Nat.le_of_ble_eq_true rfl) rfl ?_
    have hb6 : bFault (M0 81) (M0 79 3) = -6 := by omega
    exact lp_X8_fi M0 hp hs a b ha hb hb6 E hret ((nq (M0 81) (M0 79 3).toNat 0 : Int).toNat + 2) M0 0 0 (by omega) (by omega) rfl (fun c h1 h2 => by omega) (Fr.rf _ M0)
  · refine s_bipush E dX8_filled_7 rfl ?_
    refine hret _ _ ?_ (fun q => by cases q) _ _ dX8_filled_9
    exact ⟨fun _ => rfl, fun w => by omega, KpM.rf M0⟩

set_option maxRecDepth 100000 in
set_option maxHeartbeats 4000000 in
theorem lp_X8_li {v : Ev} {as : List Nat} (M0 : Mm) (hp : PadOK (M0 81) (M0 79 3)) (hs : ∀ k, 0 ≤ k → k < 6 → 0 ≤ M0 80 (4 * k) ∧ M0 80 (4 * k) ≤ 999) (hb6 : bFault (M0 81) (M0 79 3) = -6) (E : Cx v cX8_lie 4 yX8_lie.cls 6) (hret : RetI v as cX8_lie .int (fun r M' => (bFault (M0 81) (M0 79 3) ≠ -6 → r = -5) ∧ (bFault (M0 81) (M0 79 3) = -6 → r = if FD (M0 81) (M0 79 3).toNat 0 (fun k => M0 80 (4 * k)) = M0 79 3 then -6 else FD (M0 81) (M0 79 3).toNat 0 (fun k => M0 80 (4 * k))) ∧ KpM M0 M')) : ∀ (N : Nat) (M : Mm) (t code : Int) (o3 : Option Vv), ((nq (M0 81) (M0 79 3).toNat 0 : Int) + 1 - code).toNat < N → (0 ≤ code ∧ code ≤ (nq (M0 81) (M0 79 3).toNat 0 : Int)) → (0 ≤ t ∧ t ≤ FD (M0 81) (M0 79 3).toNat 0 (fun k => M0 80 (4 * k))) → (∀ c, 0 ≤ c → c < code → FF (M0 81) (M0 79 3).toNat 0 (fun k => M0 80 (4 * k)) c ≤ t) → (Fr [91, 92] M0 M) → Ws v as SH 0 0 14 [some (rv 79), some (iv t), some (iv code), o3] [] M := by
  intro N
  induction N with
  | zero =>
    intro M t code o3 hN
    exact absurd hN (Nat.not_lt_zero _)
  | succ N ih =>
    intro M t code o3 hN g0 g1 g2 g3
    have e79 := g3 79 (by decide); have e80 := g3 80 (by decide); have e81 := g3 81 (by decide)
    have hk := bFault_ok hp.1 hb6
    have q := nq_pos (M0 81) (M0 79 3).toNat 0
    have hFDr := FD_rng (M0 81) (M0 79 3).toNat 0 (fun k => M0 80 (4 * k))
    have hnn0 : ((M0 79 3).toNat : Int) = M0 79 3 := Int.toNat_of_nonneg hp.1
    refine s_aload_n E dX8_lie_14 rfl ?_
    refine s_iload_n E dX8_lie_15 rfl ?_
    refine s_callVi E (c_X8_layLine M code (by omega) (by rw [e79]; omega) (by rw [e79, e81]; exact hk.2.1)) dX8_lie_16 mf_X8_layLine ml_X8_142 rfl (Nat.le_of_ble_eq_true rfl) (Nat.le_of_ble_eq_true rfl) (by decide) sh79 rfl rfl (fun r16 M16 h16 => ?_)
    obtain ⟨a16, b16, c16⟩ := h16
    rw [e79, e81] at a16 b16
    subst r16
    have d0 : 0 ≤ code / (nq (M0 81) (M0 79 3).toNat 0 : Int) := Int.ediv_nonneg (by omega) (by omega)
    have d1 : code / (nq (M0 81) (M0 79 3).toNat 0 : Int) ≤ 16807 := Int.le_trans (Int.ediv_le_self _ (by omega)) (by omega)
    have hdz : code / (nq (M0 81) (M0 79 3).toNat 0 : Int) ≠ 0 ↔ code = (nq (M0 81) (M0 79 3).toNat 0 : Int) := ⟨fun w => Classical.byContradiction (fun x => w (Int.ediv_eq_zero_of_lt (by omega) (by omega))), fun w => by rw [w, Int.ediv_self (by omega)]; decide⟩
    refine s_if_ne E 44 dX8_lie_19 (by decide) (by omega) (fun h19 => ?_) (fun h19 => ?_)
    · refine s_iload_n E dX8_lie_44 rfl ?_
      refine s_aload_n E dX8_lie_45 rfl ?_
      refine s_getI (kf := 3) E 3 rfl dX8_lie_46 rfl inb_X8 (Nat.le_of_ble_eq_true rfl) fl_X8_75 (by decide) sh79 rfl ?_
      have ec : code = (nq (M0 81) (M0 79 3).toNat 0 : Int) := hdz.mp h19
      have hdt := FF_dots (M0 81) (M0 79 3).toNat 0 (fun k => M0 80 (4 * k)) (fun k => M0 80 (4 * k)) (fun _ _ _ => rfl)
      have hle := g2 ((nq (M0 81) (M0 79 3).toNat 0 : Int) - 1) (by omega) (by omega)
      have etF : t = FD (M0 81) (M0 79 3).toNat 0 (fun k => M0 80 (4 * k)) := by omega
      rw [c16 79 (by decide), e79]
      refine s_icmp_ne E 57 dX8_lie_49 (by decide) (by omega) (by omega) (fun h49 => ?_) (fun h49 => ?_)
      · refine s_iload_n E dX8_lie_57 rfl ?_
        refine hret _ _ ?_ (fun q => by cases q) _ _ dX8_lie_58
        exact ⟨fun w => absurd hb6 w, fun _ => by rw [← etF, if_neg (by omega)], (g3.tr (c16.sub (by decide))).kpM (by decide)⟩
      · refine s_bipush E dX8_lie_52 rfl ?_
        refine s_goto E 58 dX8_lie_54 (by decide) ?_
        refine hret _ _ ?_ (fun q => by cases q) _ _ dX8_lie_58
        exact ⟨fun w => absurd hb6 w, fun _ => by rw [← etF, if_pos (by omega)], (g3.tr (c16.sub (by decide))).kpM (by decide)⟩
    · refine s_aload_n E dX8_lie_22 rfl ?_
      refine s_callVi E (c_X8_holds M16 code (by rw [c16 79 (by decide), e79]; omega) (by rw [c16 80 (by decide), e80]; exact hs) (by rw [c16 81 (by decide), c16 79 (by decide), e79, e81]; omega) (by rw [c16 81 (by decide), c16 79 (by decide), e79, e81]; intro j h1 h2; rw [b16 j h1 h2, Int.emod_eq_of_lt (by omega) (by omega)])) dX8_lie_23 mf_X8_holds ml_X8_145 rfl (Nat.le_of_ble_eq_true rfl) (Nat.le_of_ble_eq_true rfl) (by decide) sh79 rfl rfl (fun r23 M23 h23 => ?_)
      obtain ⟨a23, b23⟩ := h23
      have f81 : M16 81 = M0 81 := by rw [c16 81 (by decide), e81]
      have f80 : M16 80 = M0 80 := by rw [c16 80 (by decide), e80]
      have f79 : M16 79 = M0 79 := by rw [c16 79 (by decide), e79]
      rw [f81, f80, f79] at a23
      subst r23
      have hFi := FF_HB (M0 81) (M0 79 3).toNat 0 (fun k => M0 80 (4 * k)) code
      have hFr := FF_rng (M0 81) (M0 79 3).toNat 0 (fun k => M0 80 (4 * k)) code
      have hnn : ((M0 79 3).toNat : Int) = M0 79 3 := Int.toNat_of_nonneg hp.1
      rw [hnn, Int.zero_add] at hFi hFr
      have g79 : M23 79 = M0 79 := by rw [b23 79 (by decide), f79]
      have hfd := FF_FD (M0 81) (M0 79 3).toNat 0 (fun k => M0 80 (4 * k)) (fun k => M0 80 (4 * k)) code (by omega) (by omega) (fun _ _ _ => Int.le_refl _)
      refine s_istore_n (ls' := [_, _, _, _]) E dX8_lie_26 (Nat.le_of_ble_eq_true rfl) rfl ?_
      refine s_iload_n E dX8_lie_27 rfl ?_
      refine s_iload_n E dX8_lie_28 rfl ?_
      refine s_icmp_le E 36 dX8_lie_29 (by decide) (by omega) (by omega) (fun h29 => ?_) (fun h29 => ?_)
      · refine s_iload_n E dX8_lie_36 rfl ?_
        refine s_istore_n (ls' := [_, _, _, _]) E dX8_lie_37 (Nat.le_of_ble_eq_true rfl) rfl ?_
        refine s_iinc (ls' := [_, _, _, _]) E dX8_lie_38 rfl rfl ?_
        refine s_goto E 14 dX8_lie_41 (by decide) ?_
        refine ih _ _ _ _ (by omega) (by omega) (by omega) (fun c h1 h2 => ?_) ((g3.tr (c16.sub (by decide))).tr (b23.sub (by decide)))
        by_cases e : c = code
        · rw [e]; omega
        · have := g2 c h1 (by omega); omega
      · refine s_iload_n E dX8_lie_32 rfl ?_
        refine s_goto E 37 dX8_lie_33 (by decide) ?_
        refine s_istore_n (ls' := [_, _, _, _]) E dX8_lie_37 (Nat.le_of_ble_eq_true rfl) rfl ?_
        refine s_iinc (ls' := [_, _, _, _]) E dX8_lie_38 rfl rfl ?_
        refine s_goto E 14 dX8_lie_41 (by decide) ?_
        refine ih _ _ _ _ (by omega) (by omega) (by omega) (fun c h1 h2 => ?_) ((g3.tr (c16.sub (by decide))).tr (b23.sub (by decide)))
        by_cases e : c = code
        · rw [e]; omega
        · have := g2 c h1 (by omega); omega

set_option maxRecDepth 100000 in
set_option maxHeartbeats 4000000 in
theorem c_X8_lie (M0 : Mm) (hp : PadOK (M0 81) (M0 79 3)) (hs : ∀ k, 0 ≤ k → k < 6 → 0 ≤ M0 80 (4 * k) ∧ M0 80 (4 * k) ≤ 999) : CtI yX8_lie cX8_lie 4 .int 6 SH [rv 79] M0 (fun r M' => (bFault (M0 81) (M0 79 3) ≠ -6 → r = -5) ∧ (bFault (M0 81) (M0 79 3) = -6 → r = if FD (M0 81) (M0 79 3).toNat 0 (fun k => M0 80 (4 * k)) = M0 79 3 then -6 else FD (M0 81) (M0 79 3).toNat 0 (fun k => M0 80 (4 * k))) ∧ KpM M0 M') := by
  refine CtI.of rfl (Nat.le_of_ble_eq_true rfl) (Or.inl rfl) (fun v as E hret => ?_)
  show Ws v as SH 0 0 0 [some (rv 79), none, none, none] [] M0
  refine s_aload_n E dX8_lie_0 rfl ?_
  refine s_callVi E (c_X8_bookFault M0 hp) dX8_lie_1 mf_X8_bookFault ml_X8_88 rfl (Nat.le_of_ble_eq_true rfl) (Nat.le_of_ble_eq_true rfl) (by decide) sh79 rfl rfl (fun r1 M1 h1 => ?_)
  obtain ⟨e1, f1⟩ := h1; subst r1; subst M1
  have hbr := bFault_rng hp
  refine s_if_lt E 10 dX8_lie_4 (by decide) (by omega) (fun h4 => ?_) (fun h4 => ?_)
  · refine s_iconst E dX8_lie_10 ?_
    refine s_istore_n (ls' := [_, _, _, _]) E dX8_lie_11 (Nat.le_of_ble_eq_true rfl) rfl ?_
    refine s_iconst E dX8_lie_12 ?_
    refine s_istore_n (ls' := [_, _, _, _]) E dX8_lie_13 (Nat.le_of_ble_eq_true rfl) rfl ?_
    have hb6 : bFault (M0 81) (M0 79 3) = -6 := by omega
    have hFDr := FD_rng (M0 81) (M0 79 3).toNat 0 (fun k => M0 80 (4 * k))
    exact lp_X8_li M0 hp hs hb6 E hret ((nq (M0 81) (M0 79 3).toNat 0 : Int).toNat + 2) M0 0 0 _ (by omega) (by omega) (by omega) (fun c h1 h2 => by omega) (Fr.rf _ M0)
  · refine s_bipush E dX8_lie_7 rfl ?_
    refine hret _ _ ?_ (fun q => by cases q) _ _ dX8_lie_9
    exact ⟨fun _ => rfl, fun w => by omega, KpM.rf M0⟩
