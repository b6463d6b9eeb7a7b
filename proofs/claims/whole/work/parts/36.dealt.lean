/-! ===== dealt: the class's search ===== -/
def HO (M : Mm) : Prop := M 29 3 = ps (M 14 3) (M 15) 6 ∧ ∀ k, 0 ≤ k → k < 6 → hasP (M 14 3) (M 15) k → M 32 (ps (M 14 3) (M 15) k) = k
def DL (M : Mm) : Prop := MOK (M 14 3) (M 15) (M 16) (M 17) ∧ M 29 9 = full (M 14 3) ∧ (∀ s m, 0 ≤ s → s ≤ full (M 14 3) → 0 ≤ m → m < M 14 3 → M 34 (s * 8 + m) = nd (M 14 3) (M 15) (M 16) s m) ∧ HO M
noncomputable def nH (M : Mm) : Int := ps (M 14 3) (M 15) 6
noncomputable def VC (M : Mm) : (Int → Int) → Int := VA (M 14 3) (M 15) (M 16) (M 17)
def DS (M0 M : Mm) (a : Int → Int) (p : Int) (st : St) : Prop := Fr [29, 31, 33, 35] M0 M ∧ (∀ b, b ≠ 2 → M 29 b = M0 29 b) ∧ M 29 2 = st.1 ∧ (0 ≤ st.1 ∧ st.1 ≤ M0 29 2) ∧ (∀ j, 0 ≤ j → j < nH M0 → M 31 (M0 32 j) = st.2 j) ∧ ∀ j, 0 ≤ j → j < p → M 33 (M0 32 j) = a j
theorem ho_at {M : Mm} (h : DL M) {j : Int} (hj : 0 ≤ j ∧ j < nH M) : (0 ≤ M 32 j ∧ M 32 j < 6) ∧ hasP (M 14 3) (M 15) (M 32 j) ∧ ps (M 14 3) (M 15) (M 32 j) = j := by
  obtain ⟨k, q1, q2, q3⟩ := ps_ex (c := M 14 3) (bo := M 15) 6 j hj.1 hj.2
  have e := h.2.2.2.2 k q1.1 (by omega) q2
  rw [q3] at e
  rw [e]
  exact ⟨⟨q1.1, by omega⟩, q2, q3⟩
theorem ho_ne {M : Mm} (h : DL M) {i j : Int} (hi : 0 ≤ i ∧ i < nH M) (hj : 0 ≤ j ∧ j < nH M) (hne : i ≠ j) : M 32 i ≠ M 32 j := by
  intro e
  have a := (ho_at h hi).2.2
  have b := (ho_at h hj).2.2
  rw [e] at a
  omega
theorem AG_of {M0 M : Mm} {a : Int → Int} (h : DL M0) (hF : Fr [29, 31, 33, 35] M0 M) (h29 : ∀ b, b ≠ 2 → M 29 b = M0 29 b) (ha : ∀ j, 0 ≤ j → j < nH M0 → M 33 (M0 32 j) = a j ∧ 0 ≤ a j ∧ a j ≤ 20) : AG M (LA (M0 14 3) (M0 15) (M0 16) a) := by
  unfold AG
  rw [hF 14 (by decide), hF 15 (by decide), hF 16 (by decide), hF 17 (by decide), hF 34 (by decide), h29 9 (by decide)]
  refine ⟨h.1, h.2.1, fun s m h1 h2 h3 h4 => ?_⟩
  have hl := LA_rng (s := s) h.1 (fun j q1 q2 => (ha j q1 q2).2) ⟨h3, h4⟩
  have p := ps_bo h.1 ⟨h3, h4⟩
  have b := h.1.2.2 m h3 (by have := h.1.2.1; omega)
  have e := h.2.2.2.2 (M0 15 m) b.1 (by omega) ⟨m, ⟨h3, h4⟩, rfl⟩
  have e2 := (ha _ p.1 p.2).1
  rw [e] at e2
  refine ⟨?_, hl⟩
  rw [h.2.2.1 s m h1 h2 h3 h4, e2]
  rfl
theorem DL.fr {M0 M : Mm} (h : DL M0) (hF : Fr [29, 31, 33, 35] M0 M) (h29 : ∀ b, b ≠ 2 → M 29 b = M0 29 b) : DL M := by
  unfold DL HO
  rw [hF 14 (by decide), hF 15 (by decide), hF 16 (by decide), hF 17 (by decide), hF 32 (by decide), hF 34 (by decide), h29 9 (by decide), h29 3 (by decide)]
  exact h

set_option maxRecDepth 100000 in
set_option maxHeartbeats 4000000 in
theorem lp_X0_fh {v : Ev} {as : List Nat} (M0 : Mm) (hm : MOK (M0 14 3) (M0 15) (M0 16) (M0 17)) (E : Cx v cX0_findHolders 3 yX0_findHolders.cls 2) (hret : RetV v as cX0_findHolders (fun M' => HO M' ∧ (∀ b, b ≠ 3 → M' 29 b = M0 29 b) ∧ Fr [29, 32] M0 M')) : ∀ (N : Nat) (M : Mm) (k : Int), (6 - k).toNat < N → (0 ≤ k ∧ k ≤ 6) → (M 29 3 = ps (M0 14 3) (M0 15) k) → (∀ i, 0 ≤ i → i < k → hasP (M0 14 3) (M0 15) i → M 32 (ps (M0 14 3) (M0 15) i) = i) → (∀ b, b ≠ 3 → M 29 b = M0 29 b) → (Fr [29, 32] M0 M) → Ws v as SH 0 0 7 [some (rv 29), some (rv 14), some (iv k)] [] M := by
  intro N
  induction N with
  | zero =>
    intro M k hN
    exact absurd hN (Nat.not_lt_zero _)
  | succ N ih =>
    intro M k hN g0 g1 g2 g3 g4
    have e14 := g4 14 (by decide); have e15 := g4 15 (by decide); have e16 := g4 16 (by decide); have e17 := g4 17 (by decide)
    have hps := ps_rng (c := M0 14 3) (bo := M0 15) (k := k) (by omega)
    refine s_iload_n E dX0_findHolders_7 rfl ?_
    refine s_bipush E dX0_findHolders_8 rfl ?_
    refine s_icmp_ge E 47 dX0_findHolders_10 (by decide) (by omega) (by omega) (fun h10 => ?_) (fun h10 => ?_)
    · refine hret _ ?_ _ _ dX0_findHolders_47
      have e : k = 6 := by omega
      refine ⟨⟨?_, ?_⟩, g3, g4⟩
      · rw [e14, e15, g1, e]
      · rw [e14, e15]
        intro i h1 h2 h3
        exact g2 i h1 (by omega) h3
    · refine s_aload_n E dX0_findHolders_13 rfl ?_
      refine s_iload_n E dX0_findHolders_14 rfl ?_
      refine s_callVi E (c_X4_has _ _ (by omega) (by rw [e14, e15, e16, e17]; exact hm)) dX0_findHolders_15 mf_X4_has ml_X0_66 rfl (Nat.le_of_ble_eq_true rfl) (Nat.le_of_ble_eq_true rfl) (by decide) sh14 rfl rfl (fun r15 M15 h15 => ?_)
      obtain ⟨e15', f15⟩ := h15; subst r15; subst M15
      rw [show (∃ j, (0 ≤ j ∧ j < M 14 3) ∧ M 15 j = k) = hasP (M0 14 3) (M0 15) k by rw [e14, e15]; rfl]
      have hst := ps_step (c := M0 14 3) (bo := M0 15) (k := k) (by omega)
      refine s_ifeqB E 41 dX0_findHolders_18 (by decide) (fun h18 => ?_) (fun h18 => ?_)
      · refine s_iinc (ls' := [_, _, _]) E dX0_findHolders_41 rfl rfl ?_
        refine s_goto E 7 dX0_findHolders_44 (by decide) ?_
        refine ih _ _ (by omega) (by omega) ?_ (fun i h1 h2 h3 => ?_) g3 g4
        · rw [g1, hst, b2_neg h18]; omega
        · by_cases e : i = k
          · exact absurd (e ▸ h3) h18
          · exact g2 i h1 (by omega) h3
      · refine s_aload_n E dX0_findHolders_21 rfl ?_
        refine s_getR (kf := 4) E dX0_findHolders_22 rfl inb_X0 (Nat.le_of_ble_eq_true rfl) fl_X0_26 (by decide) sh29 rfl ?_
        refine s_aload_n E dX0_findHolders_25 rfl ?_
        refine s_getI (kf := 3) E 3 rfl dX0_findHolders_26 rfl inb_X0 (Nat.le_of_ble_eq_true rfl) fl_X0_23 (by decide) sh29 rfl ?_
        rw [g1]
        refine s_iload_n E dX0_findHolders_29 rfl ?_
        refine s_iast E dX0_findHolders_30 (by decide) sh32 (Nat.le_of_ble_eq_true rfl) (by omega) ?_
        refine s_aload_n E dX0_findHolders_31 rfl ?_
        refine s_dup E dX0_findHolders_32 ?_
        refine s_getI (kf := 3) E 3 rfl dX0_findHolders_33 rfl inb_X0 (Nat.le_of_ble_eq_true rfl) fl_X0_23 (by decide) sh29 rfl ?_
        rw [upm_ne (Or.inl (show (29 : Int) ≠ 32 by decide)), g1]
        refine s_iconst E dX0_findHolders_36 ?_
        refine s_iadd E dX0_findHolders_37 ?_
        refine s_putI (kf := 3) E 3 rfl dX0_findHolders_38 rfl inb_X0 tyX0_ok nmX0 (Nat.le_of_ble_eq_true rfl) ⟨rfl, rfl⟩ fl_X0_23 (by decide) sh29 rfl ?_
        refine s_iinc (ls' := [_, _, _]) E dX0_findHolders_41 rfl rfl ?_
        refine s_goto E 7 dX0_findHolders_44 (by decide) ?_
        refine ih _ _ (by omega) (by omega) ?_ (fun i h1 h2 h3 => ?_) (fun b hb => ?_) ((g4.up (by decide)).up (by decide))
        · rw [upm_eq, hst, b2_pos h18]
        · rw [upm_ne (Or.inl (by decide))]
          by_cases e : i = k
          · rw [e, upm_eq]
          · rw [upm_ne (Or.inr (fun q => by have := ps_lt (c := M0 14 3) (bo := M0 15) (k := i) (k' := k) h1 (by omega) h3; omega))]
            exact g2 i h1 (by omega) h3
        · rw [upm_ne (Or.inr hb), upm_ne (Or.inl (by decide))]
          exact g3 b hb

set_option maxRecDepth 100000 in
set_option maxHeartbeats 4000000 in
theorem c_X0_findHolders (M : Mm) (hm : MOK (M 14 3) (M 15) (M 16) (M 17)) : CtV yX0_findHolders cX0_findHolders 3 2 SH [rv 29, rv 14] M (fun M' => HO M' ∧ (∀ b, b ≠ 3 → M' 29 b = M 29 b) ∧ Fr [29, 32] M M') := by
  refine CtV.of rfl (Nat.le_of_ble_eq_true rfl) (fun v as E hret => ?_)
  show Ws v as SH 0 0 0 [some (rv 29), some (rv 14), none] [] M
  refine s_aload_n E dX0_findHolders_0 rfl ?_
  refine s_iconst E dX0_findHolders_1 ?_
  refine s_putI (kf := 3) E 3 rfl dX0_findHolders_2 rfl inb_X0 tyX0_ok nmX0 (Nat.le_of_ble_eq_true rfl) ⟨rfl, rfl⟩ fl_X0_23 (by decide) sh29 rfl ?_
  refine s_iconst E dX0_findHolders_5 ?_
  refine s_istore_n (ls' := [_, _, _]) E dX0_findHolders_6 (Nat.le_of_ble_eq_true rfl) rfl ?_
  exact lp_X0_fh M hm E hret 7 _ 0 (by decide) (by decide) (by rw [upm_eq]; rfl) (fun i h1 h2 => by omega) (fun b hb => upm_ne (Or.inr hb)) ((Fr.rf _ M).up (by decide))

set_option maxRecDepth 100000 in
set_option maxHeartbeats 4000000 in
theorem c_X0_deal_0 (M0 M : Mm) (p l : Int) (a : Int → Int) (st : St) (r : Nat) (hr : r = 0) (hd : DL M0) (hn : p + (r : Int) + 1 = nH M0 ∧ nH M0 ≤ 4) (hp : 0 ≤ p) (hl : 0 ≤ l ∧ l ≤ 20) (ha : ∀ j, 0 ≤ j → j < p → 0 ≤ a j ∧ a j ≤ 20) (hb : M0 29 2 ≤ 1000000) (g0 : DS M0 M a p st) : CtV yX0_deal cX0_deal 7 (5 + r) SH [rv 29, rv 14, iv p, iv l] M (fun M' => DS M0 M' a p (eD (VC M0) r p l a st)) := by
  subst hr
  refine CtV.of rfl (Nat.le_of_ble_eq_true rfl) (fun v as E hret => ?_)
  show Ws v as SH 0 0 0 [some (rv 29), some (rv 14), some (iv p), some (iv l), none, none, none] [] M
  have n3 : ∀ {M : Mm}, (∀ b, b ≠ 2 → M 29 b = M0 29 b) → M 29 3 = nH M0 := fun h => (h 3 (by decide)).trans hd.2.2.2.1
  have hap := ho_at hd (j := p) (by omega)
  refine s_iload_n E dX0_deal_0 rfl ?_
  refine s_if_lt E 17 dX0_deal_1 (by decide) (by omega) (fun h1 => ?_) (fun h1 => ?_)
  · exfalso; omega
  · refine s_iload_n E dX0_deal_4 rfl ?_
    refine s_aload_n E dX0_deal_5 rfl ?_
    refine s_getI (kf := 3) E 3 rfl dX0_deal_6 rfl inb_X0 (Nat.le_of_ble_eq_true rfl) fl_X0_23 (by decide) sh29 rfl ?_
    rw [n3 g0.2.1]
    refine s_icmp_ge E 17 dX0_deal_9 (by decide) (by omega) (by omega) (fun h9 => ?_) (fun h9 => ?_)
    · exfalso; omega
    · refine s_iload_n E dX0_deal_12 rfl ?_
      refine s_iconst E dX0_deal_13 ?_
      refine s_icmp_lt E 18 dX0_deal_14 (by decide) (by omega) (by omega) (fun h14 => ?_) (fun h14 => ?_)
      · refine s_iload_n E dX0_deal_18 rfl ?_
        refine s_aload_n E dX0_deal_19 rfl ?_
        refine s_getI (kf := 3) E 3 rfl dX0_deal_20 rfl inb_X0 (Nat.le_of_ble_eq_true rfl) fl_X0_23 (by decide) sh29 rfl ?_
        refine s_iconst E dX0_deal_23 ?_
        refine s_isub E dX0_deal_24 ?_
        rw [n3 g0.2.1]
        refine s_icmp_ne E 32 dX0_deal_25 (by decide) (by omega) (by omega) (fun h25 => ?_) (fun h25 => ?_)
        · refine s_iconst E dX0_deal_32 ?_
          refine s_istore (ls' := [_, _, _, _, _, _, _]) E dX0_deal_33 (Nat.le_of_ble_eq_true rfl) rfl ?_
          refine s_iload_n E dX0_deal_35 rfl ?_
          refine s_istore (ls' := [_, _, _, _, _, _, _]) E dX0_deal_36 (Nat.le_of_ble_eq_true rfl) rfl ?_
          exfalso; omega
        · refine s_iconst E dX0_deal_28 ?_
          refine s_goto E 33 dX0_deal_29 (by decide) ?_
          refine s_istore (ls' := [_, _, _, _, _, _, _]) E dX0_deal_33 (Nat.le_of_ble_eq_true rfl) rfl ?_
          refine s_iload_n E dX0_deal_35 rfl ?_
          refine s_istore (ls' := [_, _, _, _, _, _, _]) E dX0_deal_36 (Nat.le_of_ble_eq_true rfl) rfl ?_
          refine s_iload E dX0_deal_38 rfl ?_
          refine s_iload E dX0_deal_40 rfl ?_
          refine s_if_eq E 49 dX0_deal_42 (by decide) (by omega) (fun h42 => ?_) (fun h42 => ?_)
          · exact absurd h42 (by decide)
          · refine s_iload_n E dX0_deal_45 rfl ?_
            refine s_goto E 50 dX0_deal_46 (by decide) ?_
            refine s_icmp_lt E 172 dX0_deal_50 (by decide) (by omega) (by omega) (fun h50 => ?_) (fun h50 => ?_)
            · refine hret _ ?_ _ _ dX0_deal_172
              exfalso; omega
            · refine s_aload_n E dX0_deal_53 rfl ?_
              refine s_getR (kf := 5) E dX0_deal_54 rfl inb_X0 (Nat.le_of_ble_eq_true rfl) fl_X0_29 (by decide) sh29 rfl ?_
              refine s_aload_n E dX0_deal_57 rfl ?_
              refine s_getR (kf := 4) E dX0_deal_58 rfl inb_X0 (Nat.le_of_ble_eq_true rfl) fl_X0_26 (by decide) sh29 rfl ?_
              refine s_iload_n E dX0_deal_61 rfl ?_
              refine s_iald E dX0_deal_62 (by decide) sh32 (Nat.le_of_ble_eq_true rfl) (by omega) ?_
              rw [g0.1 32 (by decide)]
              refine s_iload E dX0_deal_63 rfl ?_
              refine s_iast E dX0_deal_65 (by decide) sh33 (Nat.le_of_ble_eq_true rfl) (by omega) ?_
              refine s_iload_n E dX0_deal_66 rfl ?_
              refine s_iconst E dX0_deal_67 ?_
              refine s_iadd E dX0_deal_68 ?_
              refine s_istore (ls' := [_, _, _, _, _, _, _]) E dX0_deal_69 (Nat.le_of_ble_eq_true rfl) rfl ?_
              refine s_iload E dX0_deal_71 rfl ?_
              refine s_aload_n E dX0_deal_73 rfl ?_
              refine s_getI (kf := 3) E 3 rfl dX0_deal_74 rfl inb_X0 (Nat.le_of_ble_eq_true rfl) fl_X0_23 (by decide) sh29 rfl ?_
              rw [upm_row (show (29 : Int) ≠ 33 by decide), n3 g0.2.1]
              refine s_icmp_ge E 102 dX0_deal_77 (by decide) (by omega) (by omega) (fun h77 => ?_) (fun h77 => ?_)
              · have hsh0 : ∀ j, 0 ≤ j → j < nH M0 → (upm M 33 (M0 32 p) l) 33 (M0 32 j) = updF a p l j ∧ 0 ≤ updF a p l j ∧ updF a p l j ≤ 20 := by
                  intro j h1 h2
                  unfold updF
                  by_cases e : j = p
                  · rw [if_pos e, e, upm_eq]
                    exact ⟨rfl, by omega⟩
                  · rw [if_neg e, upm_ne (Or.inr (ho_ne hd ⟨h1, h2⟩ (by omega) e)), g0.2.2.2.2.2 j h1 (by omega)]
                    exact ⟨rfl, ha j h1 (by omega)⟩
                have hF1 : Fr [29, 31, 33, 35] M0 (upm M 33 (M0 32 p) l) := g0.1.up (by decide)
                have h29 : ∀ b, b ≠ 2 → (upm M 33 (M0 32 p) l) 29 b = M0 29 b := fun b hb => by rw [upm_row (by decide)]; exact g0.2.1 b hb
                have hA := AG_of hd hF1 h29 hsh0
                have hst : (upm M 33 (M0 32 p) l) 29 2 = st.1 := by rw [upm_row (by decide)]; exact g0.2.2.1
                refine s_aload_n E dX0_deal_102 rfl ?_
                refine s_aload_n E dX0_deal_103 rfl ?_
                refine s_aload_n E dX0_deal_104 rfl ?_
                refine s_getI (kf := 2) E 2 rfl dX0_deal_105 rfl inb_X0 (Nat.le_of_ble_eq_true rfl) fl_X0_19 (by decide) sh29 rfl ?_
                rw [hst]
                refine s_callVi E (c_X0_leastPause _ _ st.1 hA (by have := g0.2.2.2.1; omega)) dX0_deal_108 mf_X0_leastPause ml_X0_98 rfl (by omega) (Nat.le_of_ble_eq_true rfl) (by decide) sh29 rfl rfl (fun r108 M108 h108 => ?_)
                obtain ⟨a108, b108, c108, d108⟩ := h108
                have b0 := g0.2.2.2.1
                rw [hF1 14 (by decide), hF1 17 (by decide)] at c108
                have hVS := VA_spec (be := M0 17) hd.1 (fun j h1 h2 => (hsh0 j h1 h2).2)
                have hVS1 : 0 ≤ VC M0 (updF a p l) ∧ VC M0 (updF a p l) ≤ 2000 := hVS.1
                have hB := bnd (best := st.1) hVS.2 (by omega) (by have := g0.2.2.2.1; omega) b108 c108
                have hsh : ∀ j, 0 ≤ j → j < nH M0 → M108 33 (M0 32 j) = updF a p l j ∧ 0 ≤ updF a p l j ∧ updF a p l j ≤ 20 := by
                  rw [d108 33 (by decide)]
                  exact hsh0
                have hD2 : DS M0 M108 a p st := by
                  refine ⟨hF1.tr (d108.sub (by decide)), fun b hb => by rw [d108 29 (by decide)]; exact h29 b hb, by rw [d108 29 (by decide)]; exact hst, g0.2.2.2.1, fun j h1 h2 => ?_, fun j h1 h2 => ?_⟩
                  · rw [d108 31 (by decide), upm_row (by decide)]
                    exact g0.2.2.2.2.1 j h1 h2
                  · rw [(hsh j h1 (by omega)).1]
                    unfold updF
                    rw [if_neg (by omega)]
                refine s_istore (ls' := [_, _, _, _, _, _, _]) E dX0_deal_111 (Nat.le_of_ble_eq_true rfl) rfl ?_
                refine s_iload E dX0_deal_113 rfl ?_
                refine s_aload_n E dX0_deal_115 rfl ?_
                refine s_getI (kf := 2) E 2 rfl dX0_deal_116 rfl inb_X0 (Nat.le_of_ble_eq_true rfl) fl_X0_19 (by decide) sh29 rfl ?_
                rw [d108 29 (by decide), hst]
                refine s_icmp_lt E 125 dX0_deal_119 (by decide) (by omega) (by omega) (fun h119 => ?_) (fun h119 => ?_)
                · refine s_iload E dX0_deal_125 rfl ?_
                  refine s_if_eq E 154 dX0_deal_127 (by decide) (by omega) (fun h127 => ?_) (fun h127 => ?_)
                  · exact absurd h127 (by decide)
                  · refine s_aload_n E dX0_deal_130 rfl ?_
                    refine s_iload E dX0_deal_131 rfl ?_
                    refine s_putI (kf := 2) E 2 rfl dX0_deal_133 rfl inb_X0 tyX0_ok nmX0 (Nat.le_of_ble_eq_true rfl) ⟨rfl, rfl⟩ fl_X0_19 (by decide) sh29 rfl ?_
                    refine s_aload_n E dX0_deal_136 rfl ?_
                    refine s_getR (kf := 5) E dX0_deal_137 rfl inb_X0 (Nat.le_of_ble_eq_true rfl) fl_X0_29 (by decide) sh29 rfl ?_
                    refine s_iconst E dX0_deal_140 ?_
                    refine s_aload_n E dX0_deal_141 rfl ?_
                    refine s_getR (kf := 1) E dX0_deal_142 rfl inb_X0 (Nat.le_of_ble_eq_true rfl) fl_X0_15 (by decide) sh29 rfl ?_
                    refine s_iconst E dX0_deal_145 ?_
                    refine s_bipush E dX0_deal_146 rfl ?_
                    refine s_copy E dX0_deal_148 ml_X0_53 mw_copy (Nat.le_of_ble_eq_true rfl) (Nat.le_of_ble_eq_true rfl) (by decide) (by decide) sh33 sh31 (by decide) ?_
                    refine s_goto E 166 dX0_deal_151 (by decide) ?_
                    refine s_iinc (ls' := [_, _, _, _, _, _, _]) E dX0_deal_166 rfl rfl ?_
                    refine s_goto E 38 dX0_deal_169 (by decide) ?_
                    have hyes : VC M0 (updF a p l) < st.1 := hB.1.mp (by omega)
                    have hV := hB.2 (by omega)
                    have R9 : DS M0 (cp0 (upm M108 29 2 r108) 33 31 6) a p (eD (VC M0) 0 p l a st) := by
                      have e : eD (VC M0) 0 p l a st = (VC M0 (updF a p l), updF a p l) := if_pos hyes
                      rw [e]
                      refine ⟨fun x hx => ?_, fun b hb => ?_, ?_, ?_, fun j h1 h2 => ?_, fun j h1 h2 => ?_⟩
                      · rw [cp0_row (fun q => hx (by rw [q]; decide)), upm_row (fun q => hx (by rw [q]; decide))]
                        exact hD2.1 x hx
                      · rw [cp0_row (by decide), upm_ne (Or.inr hb)]
                        exact hD2.2.1 b hb
                      · rw [cp0_row (by decide), upm_eq]
                        exact hV
                      · show 0 ≤ VC M0 (updF a p l) ∧ VC M0 (updF a p l) ≤ M0 29 2
                        have := hD2.2.2.2.1
                        omega
                      · have q := ho_at hd (j := j) (by omega)
                        rw [cp0_in (by omega), upm_row (by decide)]
                        exact (hsh j h1 h2).1
                      · have q := ho_at hd (j := j) (by omega)
                        rw [cp0_row (by decide), upm_row (by decide)]
                        exact hD2.2.2.2.2.2 j h1 h2
                    refine s_iload E dX0_deal_38 rfl ?_
                    refine s_iload E dX0_deal_40 rfl ?_
                    refine s_if_eq E 49 dX0_deal_42 (by decide) (by omega) (fun h42 => ?_) (fun h42 => ?_)
                    · exact absurd h42 (by decide)
                    · refine s_iload_n E dX0_deal_45 rfl ?_
                      refine s_goto E 50 dX0_deal_46 (by decide) ?_
                      refine s_icmp_lt E 172 dX0_deal_50 (by decide) (by omega) (by omega) (fun h50 => ?_) (fun h50 => ?_)
                      · refine hret _ ?_ _ _ dX0_deal_172
                        exact R9
                      · exfalso; omega
                · refine s_goto E 166 dX0_deal_122 (by decide) ?_
                  refine s_iinc (ls' := [_, _, _, _, _, _, _]) E dX0_deal_166 rfl rfl ?_
                  refine s_goto E 38 dX0_deal_169 (by decide) ?_
                  have hno : ¬ VC M0 (updF a p l) < st.1 := fun q => h119 (by have := hB.1.mpr q; omega)
                  have R9 : DS M0 M108 a p (eD (VC M0) 0 p l a st) := by
                    have e : eD (VC M0) 0 p l a st = st := if_neg hno
                    rw [e]
                    exact hD2
                  refine s_iload E dX0_deal_38 rfl ?_
                  refine s_iload E dX0_deal_40 rfl ?_
                  refine s_if_eq E 49 dX0_deal_42 (by decide) (by omega) (fun h42 => ?_) (fun h42 => ?_)
                  · exact absurd h42 (by decide)
                  · refine s_iload_n E dX0_deal_45 rfl ?_
                    refine s_goto E 50 dX0_deal_46 (by decide) ?_
                    refine s_icmp_lt E 172 dX0_deal_50 (by decide) (by omega) (by omega) (fun h50 => ?_) (fun h50 => ?_)
                    · refine hret _ ?_ _ _ dX0_deal_172
                      exact R9
                    · exfalso; omega
              · exfalso; omega
      · exfalso; omega

def optD (a : Int → Int) (p l g : Int) : Int → Int := fun j => if j < p then a j else if j = p then g else l - g
theorem eL_step {σ : Type} {f : Int → σ → σ} {g : Int} {st : σ} (h : 0 ≤ g) : eL f (g + 1).toNat g st = eL f (g - 1 + 1).toNat (g - 1) (f g st) := by
  rw [show (g + 1).toNat = (g - 1 + 1).toNat + 1 by omega]
  rfl
theorem DS.of {M0 M M' : Mm} {a a' : Int → Int} {p p' : Int} {st : St} (h : DS M0 M a p st) (hF : Fr [35] M M') (hp : p' ≤ p) (ha : ∀ j, 0 ≤ j → j < p' → a j = a' j) : DS M0 M' a' p' st := by
  refine ⟨h.1.tr (hF.sub (by decide)), fun b hb => by rw [hF 29 (by decide)]; exact h.2.1 b hb, by rw [hF 29 (by decide)]; exact h.2.2.1, h.2.2.2.1, fun j h1 h2 => by rw [hF 31 (by decide)]; exact h.2.2.2.2.1 j h1 h2, fun j h1 h2 => ?_⟩
  rw [hF 33 (by decide), h.2.2.2.2.2 j h1 (by omega)]
  exact ha j h1 h2
theorem DS.share {M0 M : Mm} {a a' : Int → Int} {p x z : Int} {st : St} (h : DS M0 M a p st) (hd : DL M0) (hp : 0 ≤ p ∧ p < nH M0) (hx : x = M0 32 p) (ha : ∀ j, 0 ≤ j → j < p → a j = a' j) (hz : z = a' p) : DS M0 (upm M 33 x z) a' (p + 1) st := by
  subst hx
  subst hz
  refine ⟨h.1.up (by decide), fun b hb => by rw [upm_row (by decide)]; exact h.2.1 b hb, by rw [upm_row (by decide)]; exact h.2.2.1, h.2.2.2.1, fun j h1 h2 => by rw [upm_row (by decide)]; exact h.2.2.2.2.1 j h1 h2, fun j h1 h2 => ?_⟩
  by_cases e : j = p
  · rw [e, upm_eq]
  · rw [upm_ne (Or.inr (ho_ne hd ⟨h1, by omega⟩ hp e)), h.2.2.2.2.2 j h1 (by omega)]
    exact ha j h1 (by omega)

set_option maxRecDepth 100000 in
set_option maxHeartbeats 4000000 in
theorem lp_X0_deal_in {v : Ev} {as : List Nat} (M0 : Mm) (p l g : Int) (a : Int → Int) (st : St) (r : Nat) (hg : 0 ≤ g ∧ g ≤ l) (hd : DL M0) (hn : p + (r : Int) + 1 + 1 = nH M0 ∧ nH M0 ≤ 4) (hp : 0 ≤ p) (hl : 0 ≤ l ∧ l ≤ 20) (ha : ∀ j, 0 ≤ j → j < p → 0 ≤ a j ∧ a j ≤ 20) (hb : M0 29 2 ≤ 1000000) (E : Cx v cX0_deal 7 yX0_deal.cls (5 + (r + 1))) (hret : ∀ (M : Mm) (o6 : Option Vv), DS M0 M (optD a p l g) (nH M0) st → Ws v as SH 0 0 102 [some (rv 29), some (rv 14), some (iv p), some (iv l), some (iv 0), some (iv g), o6] [] M) : ∀ (N : Nat) (M : Mm) (q : Int), (nH M0 - q).toNat < N → (p + 1 ≤ q ∧ q ≤ nH M0) → (DS M0 M (optD a p l g) q st) → Ws v as SH 0 0 71 [some (rv 29), some (rv 14), some (iv p), some (iv l), some (iv 0), some (iv g), some (iv q)] [] M := by
  intro N
  induction N with
  | zero =>
    intro M q hN
    exact absurd hN (Nat.not_lt_zero _)
  | succ N ih =>
    intro M q hN g0 g1
    have n3 : ∀ {M : Mm}, (∀ b, b ≠ 2 → M 29 b = M0 29 b) → M 29 3 = nH M0 := fun h => (h 3 (by decide)).trans hd.2.2.2.1
    refine s_iload E dX0_deal_71 rfl ?_
    refine s_aload_n E dX0_deal_73 rfl ?_
    refine s_getI (kf := 3) E 3 rfl dX0_deal_74 rfl inb_X0 (Nat.le_of_ble_eq_true rfl) fl_X0_23 (by decide) sh29 rfl ?_
    rw [n3 g1.2.1]
    refine s_icmp_ge E 102 dX0_deal_77 (by decide) (by omega) (by omega) (fun h77 => ?_) (fun h77 => ?_)
    · exact hret M _ (by rw [show nH M0 = q by omega]; exact g1)
    · have hap := ho_at hd (j := q) (by omega)
      refine s_aload_n E dX0_deal_80 rfl ?_
      refine s_getR (kf := 5) E dX0_deal_81 rfl inb_X0 (Nat.le_of_ble_eq_true rfl) fl_X0_29 (by decide) sh29 rfl ?_
      refine s_aload_n E dX0_deal_84 rfl ?_
      refine s_getR (kf := 4) E dX0_deal_85 rfl inb_X0 (Nat.le_of_ble_eq_true rfl) fl_X0_26 (by decide) sh29 rfl ?_
      refine s_iload E dX0_deal_88 rfl ?_
      refine s_iald E dX0_deal_90 (by decide) sh32 (Nat.le_of_ble_eq_true rfl) (by omega) ?_
      rw [g1.1 32 (by decide)]
      refine s_iload_n E dX0_deal_91 rfl ?_
      refine s_iload E dX0_deal_92 rfl ?_
      refine s_isub E dX0_deal_94 ?_
      refine s_iast E dX0_deal_95 (by decide) sh33 (Nat.le_of_ble_eq_true rfl) (by omega) ?_
      refine s_iinc (ls' := [_, _, _, _, _, _, _]) E dX0_deal_96 rfl rfl ?_
      refine s_goto E 71 dX0_deal_99 (by decide) ?_
      exact ih _ _ (by omega) (by omega) (g1.share hd (by omega) rfl (fun _ _ _ => rfl) (by unfold optD; rw [if_neg (by omega), if_neg (by omega)]))

set_option maxRecDepth 100000 in
set_option maxHeartbeats 4000000 in
theorem lp_X0_deal {v : Ev} {as : List Nat} (M0 : Mm) (p l : Int) (a : Int → Int) (T : St) (r : Nat) (hd : DL M0) (hn : p + (r : Int) + 1 + 1 = nH M0 ∧ nH M0 ≤ 4) (hp : 0 ≤ p) (hl : 0 ≤ l ∧ l ≤ 20) (ha : ∀ j, 0 ≤ j → j < p → 0 ≤ a j ∧ a j ≤ 20) (hb : M0 29 2 ≤ 1000000) (hC : ∀ (M : Mm) (p l : Int) (a : Int → Int) (st : St), p + (r : Int) + 1 = nH M0 → 0 ≤ p → (0 ≤ l ∧ l ≤ 20) → (∀ j, 0 ≤ j → j < p → 0 ≤ a j ∧ a j ≤ 20) → DS M0 M a p st → CtV yX0_deal cX0_deal 7 (5 + r) SH [rv 29, rv 14, iv p, iv l] M (fun M' => DS M0 M' a p (eD (VC M0) r p l a st))) (E : Cx v cX0_deal 7 yX0_deal.cls (5 + (r + 1))) (hret : RetV v as cX0_deal (fun M' => DS M0 M' a p T)) : ∀ (N : Nat) (M : Mm) (g : Int) (st : St) (o6 : Option Vv), (g + 1).toNat < N → (-1 ≤ g ∧ g ≤ l) → (DS M0 M a p st) → (eL (fun g st => eD (VC M0) r (p + 1) (l - g) (updF a p g) st) (g + 1).toNat g st = T) → Ws v as SH 0 0 38 [some (rv 29), some (rv 14), some (iv p), some (iv l), some (iv 0), some (iv g), o6] [] M := by
  intro N
  induction N with
  | zero =>
    intro M g st o6 hN
    exact absurd hN (Nat.not_lt_zero _)
  | succ N ih =>
    intro M g st o6 hN g0 g1 g2
    have n3 : ∀ {M : Mm}, (∀ b, b ≠ 2 → M 29 b = M0 29 b) → M 29 3 = nH M0 := fun h => (h 3 (by decide)).trans hd.2.2.2.1
    have hap := ho_at hd (j := p) (by omega)
    refine s_iload E dX0_deal_38 rfl ?_
    refine s_iload E dX0_deal_40 rfl ?_
    refine s_if_eq E 49 dX0_deal_42 (by decide) (by omega) (fun h42 => ?_) (fun h42 => ?_)
    · refine s_iconst E dX0_deal_49 ?_
      refine s_icmp_lt E 172 dX0_deal_50 (by decide) (by omega) (by omega) (fun h50 => ?_) (fun h50 => ?_)
      · refine hret _ ?_ _ _ dX0_deal_172
        rw [show g = -1 by omega] at g2
        rw [← g2]
        exact g1
      · refine s_aload_n E dX0_deal_53 rfl ?_
        refine s_getR (kf := 5) E dX0_deal_54 rfl inb_X0 (Nat.le_of_ble_eq_true rfl) fl_X0_29 (by decide) sh29 rfl ?_
        refine s_aload_n E dX0_deal_57 rfl ?_
        refine s_getR (kf := 4) E dX0_deal_58 rfl inb_X0 (Nat.le_of_ble_eq_true rfl) fl_X0_26 (by decide) sh29 rfl ?_
        refine s_iload_n E dX0_deal_61 rfl ?_
        refine s_iald E dX0_deal_62 (by decide) sh32 (Nat.le_of_ble_eq_true rfl) (by omega) ?_
        rw [g1.1 32 (by decide)]
        refine s_iload E dX0_deal_63 rfl ?_
        refine s_iast E dX0_deal_65 (by decide) sh33 (Nat.le_of_ble_eq_true rfl) (by omega) ?_
        refine s_iload_n E dX0_deal_66 rfl ?_
        refine s_iconst E dX0_deal_67 ?_
        refine s_iadd E dX0_deal_68 ?_
        refine s_istore (ls' := [_, _, _, _, _, _, _]) E dX0_deal_69 (Nat.le_of_ble_eq_true rfl) rfl ?_
        have hop : ∀ j, 0 ≤ j → j < nH M0 → 0 ≤ optD a p l g j ∧ optD a p l g j ≤ 20 := by
          intro j h1 h2
          unfold optD
          split
          · exact ha j h1 (by omega)
          · split <;> omega
        refine lp_X0_deal_in M0 p l g a st r (by omega) hd hn hp hl ha hb E (fun M o6 g5 => ?_) ((nH M0).toNat + 1) _ (p + 1) (by omega) (by omega) (g1.share hd (by omega) rfl (fun j h1 h2 => by unfold optD; rw [if_pos h2]) (by unfold optD; rw [if_neg (by omega), if_pos rfl]))
        have hA := AG_of hd g5.1 g5.2.1 (fun j h1 h2 => ⟨g5.2.2.2.2.2 j h1 h2, hop j h1 h2⟩)
        refine s_aload_n E dX0_deal_102 rfl ?_
        refine s_aload_n E dX0_deal_103 rfl ?_
        refine s_aload_n E dX0_deal_104 rfl ?_
        refine s_getI (kf := 2) E 2 rfl dX0_deal_105 rfl inb_X0 (Nat.le_of_ble_eq_true rfl) fl_X0_19 (by decide) sh29 rfl ?_
        rw [g5.2.2.1]
        refine s_callVi E (c_X0_leastPause _ _ st.1 hA (by have := g5.2.2.2.1; omega)) dX0_deal_108 mf_X0_leastPause ml_X0_98 rfl (by omega) (Nat.le_of_ble_eq_true rfl) (by decide) sh29 rfl rfl (fun r108 M108 h108 => ?_)
        obtain ⟨a108, b108, c108, d108⟩ := h108
        have b0 := g5.2.2.2.1
        rw [g5.1 14 (by decide), g5.1 17 (by decide)] at c108
        have hVS := VA_spec (be := M0 17) hd.1 hop
        have hVS1 : 0 ≤ VC M0 (optD a p l g) ∧ VC M0 (optD a p l g) ≤ 2000 := hVS.1
        have hB := bnd (best := st.1) hVS.2 (by omega) (by omega) b108 c108
        have hD : DS M0 M108 (optD a p l g) (nH M0) st := g5.of d108 (Int.le_refl _) (fun _ _ _ => rfl)
        refine s_istore (ls' := [_, _, _, _, _, _, _]) E dX0_deal_111 (Nat.le_of_ble_eq_true rfl) rfl ?_
        refine s_iload E dX0_deal_113 rfl ?_
        refine s_aload_n E dX0_deal_115 rfl ?_
        refine s_getI (kf := 2) E 2 rfl dX0_deal_116 rfl inb_X0 (Nat.le_of_ble_eq_true rfl) fl_X0_19 (by decide) sh29 rfl ?_
        rw [d108 29 (by decide), g5.2.2.1]
        refine s_icmp_lt E 125 dX0_deal_119 (by decide) (by omega) (by omega) (fun h119 => ?_) (fun h119 => ?_)
        · refine s_iload E dX0_deal_125 rfl ?_
          refine s_if_eq E 154 dX0_deal_127 (by decide) (by omega) (fun h127 => ?_) (fun h127 => ?_)
          · refine s_aload_n E dX0_deal_154 rfl ?_
            refine s_aload_n E dX0_deal_155 rfl ?_
            refine s_iload_n E dX0_deal_156 rfl ?_
            refine s_iconst E dX0_deal_157 ?_
            refine s_iadd E dX0_deal_158 ?_
            refine s_iload_n E dX0_deal_159 rfl ?_
            refine s_iload E dX0_deal_160 rfl ?_
            refine s_isub E dX0_deal_162 ?_
            refine s_callSv E (hC M108 (p + 1) (l - g) (updF a p g) st (by omega) (by omega) (by omega) (fun j h1 h2 => by unfold updF; split <;> first | omega | exact ha j h1 (by omega)) (hD.of (Fr.rf _ _) (by omega) (fun j h1 h2 => by unfold updF optD; split <;> (try split) <;> first | rfl | omega))) dX0_deal_163 mf_X0_deal ml_X0_94 rfl (by omega) (Nat.le_of_ble_eq_true rfl) rfl (fun M163 h163 => ?_)
            refine s_iinc (ls' := [_, _, _, _, _, _, _]) E dX0_deal_166 rfl rfl ?_
            refine s_goto E 38 dX0_deal_169 (by decide) ?_
            refine ih _ _ _ _ (by omega) (by omega) (h163.of (Fr.rf _ _) (by omega) (fun j h1 h2 => by unfold updF; rw [if_neg (by omega)])) ?_
            have es := eL_step (f := fun g st => eD (VC M0) r (p + 1) (l - g) (updF a p g) st) (g := g) (st := st) (by omega)
            rw [← g2, es, show g + -1 = g - 1 by omega]
          · exact absurd h127 (by decide)
        · refine s_goto E 166 dX0_deal_122 (by decide) ?_
          refine s_iinc (ls' := [_, _, _, _, _, _, _]) E dX0_deal_166 rfl rfl ?_
          refine s_goto E 38 dX0_deal_169 (by decide) ?_
          refine ih _ _ _ _ (by omega) (by omega) (hD.of (Fr.rf _ _) (by omega) (fun j h1 h2 => by unfold optD; rw [if_pos h2])) ?_
          have es := eL_step (f := fun g st => eD (VC M0) r (p + 1) (l - g) (updF a p g) st) (g := g) (st := st) (by omega)
          rw [← g2, es, show g + -1 = g - 1 by omega]
          congr 1
          show st = eD (VC M0) r (p + 1) (l - g) (updF a p g) st
          refine (eD_skip r (p + 1) (l - g) (updF a p g) (by omega) (fun b q1 q2 q3 => ?_)).symm
          have hbr : ∀ j, 0 ≤ j → j < nH M0 → (0 ≤ b j ∧ b j ≤ 20) ∧ b j ≤ optD a p l g j := by
            intro j h1 h2
            unfold optD
            by_cases e1 : j < p
            · have := ha j h1 e1
              rw [if_pos e1, q1 j (by omega)]
              unfold updF
              rw [if_neg (by omega)]
              omega
            · rw [if_neg e1]
              by_cases e2 : j = p
              · rw [if_pos e2, q1 j (by omega)]
                unfold updF
                rw [if_pos e2]
                omega
              · rw [if_neg e2]
                have := q2 j (by omega) (by omega)
                omega
          have hle := VA_anti (be := M0 17) hd.1 (fun j h1 h2 => (hbr j h1 h2).1) hop (fun j h1 h2 => (hbr j h1 h2).2)
          have hno : ¬ VC M0 (optD a p l g) < st.1 := fun q => h119 (by have := hB.1.mpr q; omega)
          have hle2 : VC M0 (optD a p l g) ≤ VC M0 b := hle
          omega
    · exact absurd h42 (by decide)

set_option maxRecDepth 100000 in
set_option maxHeartbeats 4000000 in
theorem c_X0_deal (M0 : Mm) (hd : DL M0) (hb : M0 29 2 ≤ 1000000) : ∀ (r : Nat) (M : Mm) (p l : Int) (a : Int → Int) (st : St) (hn : p + (r : Int) + 1 = nH M0 ∧ nH M0 ≤ 4) (hp : 0 ≤ p) (hl : 0 ≤ l ∧ l ≤ 20) (ha : ∀ j, 0 ≤ j → j < p → 0 ≤ a j ∧ a j ≤ 20) (g0 : DS M0 M a p st), CtV yX0_deal cX0_deal 7 (5 + r) SH [rv 29, rv 14, iv p, iv l] M (fun M' => DS M0 M' a p (eD (VC M0) r p l a st)) := by
  intro r
  induction r with
  | zero =>
    intro M p l a st hn hp hl ha g0
    exact c_X0_deal_0 M0 M p l a st 0 rfl hd hn hp hl ha hb g0
  | succ r ihr =>
    intro M p l a st hn hp hl ha g0
    refine CtV.of rfl (Nat.le_of_ble_eq_true rfl) (fun v as E hret => ?_)
    show Ws v as SH 0 0 0 [some (rv 29), some (rv 14), some (iv p), some (iv l), none, none, none] [] M
    have n3 : ∀ {M : Mm}, (∀ b, b ≠ 2 → M 29 b = M0 29 b) → M 29 3 = nH M0 := fun h => (h 3 (by decide)).trans hd.2.2.2.1
    refine s_iload_n E dX0_deal_0 rfl ?_
    refine s_if_lt E 17 dX0_deal_1 (by decide) (by omega) (fun h1 => ?_) (fun h1 => ?_)
    · exfalso; omega
    · refine s_iload_n E dX0_deal_4 rfl ?_
      refine s_aload_n E dX0_deal_5 rfl ?_
      refine s_getI (kf := 3) E 3 rfl dX0_deal_6 rfl inb_X0 (Nat.le_of_ble_eq_true rfl) fl_X0_23 (by decide) sh29 rfl ?_
      rw [n3 g0.2.1]
      refine s_icmp_ge E 17 dX0_deal_9 (by decide) (by omega) (by omega) (fun h9 => ?_) (fun h9 => ?_)
      · exfalso; omega
      · refine s_iload_n E dX0_deal_12 rfl ?_
        refine s_iconst E dX0_deal_13 ?_
        refine s_icmp_lt E 18 dX0_deal_14 (by decide) (by omega) (by omega) (fun h14 => ?_) (fun h14 => ?_)
        · refine s_iload_n E dX0_deal_18 rfl ?_
          refine s_aload_n E dX0_deal_19 rfl ?_
          refine s_getI (kf := 3) E 3 rfl dX0_deal_20 rfl inb_X0 (Nat.le_of_ble_eq_true rfl) fl_X0_23 (by decide) sh29 rfl ?_
          refine s_iconst E dX0_deal_23 ?_
          refine s_isub E dX0_deal_24 ?_
          rw [n3 g0.2.1]
          refine s_icmp_ne E 32 dX0_deal_25 (by decide) (by omega) (by omega) (fun h25 => ?_) (fun h25 => ?_)
          · refine s_iconst E dX0_deal_32 ?_
            refine s_istore (ls' := [_, _, _, _, _, _, _]) E dX0_deal_33 (Nat.le_of_ble_eq_true rfl) rfl ?_
            refine s_iload_n E dX0_deal_35 rfl ?_
            refine s_istore (ls' := [_, _, _, _, _, _, _]) E dX0_deal_36 (Nat.le_of_ble_eq_true rfl) rfl ?_
            exact lp_X0_deal M0 p l a _ r hd (by omega) hp hl ha hb (fun M p l a st q1 q2 q3 q4 q5 => ihr M p l a st ⟨q1, hn.2⟩ q2 q3 q4 q5) E hret ((l + 1).toNat + 1) M l st _ (by omega) (by omega) g0 rfl
          · refine s_iconst E dX0_deal_28 ?_
            refine s_goto E 33 dX0_deal_29 (by decide) ?_
            refine s_istore (ls' := [_, _, _, _, _, _, _]) E dX0_deal_33 (Nat.le_of_ble_eq_true rfl) rfl ?_
            refine s_iload_n E dX0_deal_35 rfl ?_
            refine s_istore (ls' := [_, _, _, _, _, _, _]) E dX0_deal_36 (Nat.le_of_ble_eq_true rfl) rfl ?_
            exfalso; omega
        · exfalso; omega
