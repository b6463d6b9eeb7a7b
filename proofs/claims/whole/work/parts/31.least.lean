/-! ===== the class's agenda: the least pause, the order ===== -/
/-- matters, their number of sets, and what each lacks -/
def AG (M : Mm) (L : Int → Int → Int) : Prop := MOK (M 14 3) (M 15) (M 16) (M 17) ∧ M 29 9 = full (M 14 3) ∧ ∀ s m, 0 ≤ s → s ≤ full (M 14 3) → 0 ≤ m → m < M 14 3 → M 34 (s * 8 + m) - M 33 (M 15 m) = L s m ∧ -2000 ≤ L s m ∧ L s m ≤ 2000
theorem AG.fr {M M' : Mm} {L : Int → Int → Int} {l : List Int} (h : AG M L) (hF : Fr l M M') (h14 : (14 : Int) ∉ l) (h15 : (15 : Int) ∉ l) (h16 : (16 : Int) ∉ l) (h17 : (17 : Int) ∉ l) (h29 : (29 : Int) ∉ l) (h33 : (33 : Int) ∉ l) (h34 : (34 : Int) ∉ l) : AG M' L := by
  unfold AG
  rw [hF 14 h14, hF 15 h15, hF 16 h16, hF 17 h17, hF 29 h29, hF 33 h33, hF 34 h34]
  exact h
noncomputable def fmN (p : Int → Prop) : Nat → Int → Int
  | 0, m => m
  | n + 1, m => @ite Int (p m) (Classical.propDecidable _) m (fmN p n (m + 1))
theorem fmN_y {p : Int → Prop} {c m : Int} (h : m < c) (hp : p m) : fmN p (c - m).toNat m = m := by
  rw [show (c - m).toNat = (c - (m + 1)).toNat + 1 by omega]
  exact if_pos hp
theorem fmN_n {p : Int → Prop} {c m : Int} (h : m < c) (hp : ¬ p m) : fmN p (c - m).toNat m = fmN p (c - (m + 1)).toNat (m + 1) := by
  rw [show (c - m).toNat = (c - (m + 1)).toNat + 1 by omega]
  exact if_neg hp
theorem fmN_e {p : Int → Prop} {c m : Int} (h : c ≤ m) : fmN p (c - m).toNat m = m := by
  rw [show (c - m).toNat = 0 by omega]
  rfl
theorem fmN_spec {p : Int → Prop} : ∀ (n : Nat) (m : Int), m ≤ fmN p n m ∧ fmN p n m ≤ m + n ∧ (fmN p n m < m + n → p (fmN p n m)) ∧ ∀ j, m ≤ j → j < fmN p n m → ¬ p j
  | 0, m => ⟨Int.le_refl _, by show m ≤ m + ((0 : Nat) : Int); omega, fun h => by
      have : m < m + ((0 : Nat) : Int) := h
      omega, fun j h1 h2 => by
      have : j < m := h2
      omega⟩
  | n + 1, m => by
    by_cases h : p m
    · have e : fmN p (n + 1) m = m := if_pos h
      rw [e]
      exact ⟨Int.le_refl _, by omega, fun _ => h, fun j h1 h2 => by omega⟩
    · have e : fmN p (n + 1) m = fmN p n (m + 1) := if_neg h
      obtain ⟨a1, a2, a3, a4⟩ := fmN_spec (p := p) n (m + 1)
      rw [e]
      refine ⟨by omega, by omega, fun q => a3 (by omega), fun j h1 h2 => ?_⟩
      by_cases ej : j = m
      · rw [ej]; exact h
      · exact a4 j (by omega) h2
def pd (c : Int) (L : Int → Int → Int) (be : Int → Int) (P s m : Int) : Prop := mayB be s m ∧ L s m ≤ P ∧ Can c L be P (so s m)
noncomputable def nx (c : Int) (L : Int → Int → Int) (be : Int → Int) (P s : Int) : Int := fmN (pd c L be P s) c.toNat 0
noncomputable def sq (c : Int) (L : Int → Int → Int) (be : Int → Int) (P : Int) : Nat → Int
  | 0 => 0
  | k + 1 => so (sq c L be P k) (nx c L be P (sq c L be P k))
theorem nx_iff {c : Int} {L : Int → Int → Int} {be : Int → Int} {P s : Int} (hc : 0 ≤ c) (hs : s ≠ full c) : nx c L be P s < c ↔ Can c L be P s := by
  obtain ⟨a1, a2, a3, a4⟩ := fmN_spec (p := pd c L be P s) c.toNat 0
  constructor
  · intro h
    have h3 : pd c L be P s (nx c L be P s) := a3 (by unfold nx at h; omega)
    exact Can_iff.mpr (Or.inr ⟨nx c L be P s, ⟨a1, h⟩, h3.1, h3.2.1, h3.2.2⟩)
  · intro h
    rcases Can_iff.mp h with q | ⟨m, q1, q2, q3, q4⟩
    · exact absurd q hs
    · apply Classical.byContradiction
      intro hn
      exact a4 m q1.1 (by unfold nx at hn; omega) ⟨q2, q3, q4⟩
theorem nx_spec {c : Int} {L : Int → Int → Int} {be : Int → Int} {P s : Int} (hc : 0 ≤ c) : 0 ≤ nx c L be P s ∧ nx c L be P s ≤ c ∧ (nx c L be P s < c → pd c L be P s (nx c L be P s)) ∧ ∀ j, 0 ≤ j → j < nx c L be P s → ¬ pd c L be P s j := by
  obtain ⟨a1, a2, a3, a4⟩ := fmN_spec (p := pd c L be P s) c.toNat 0
  exact ⟨a1, by unfold nx; omega, fun h => a3 (by unfold nx at h; omega), a4⟩
def cnt (c s : Int) : Int := sumN (fun j => sb s j * 1) c.toNat
theorem cnt_full {c : Int} (hc : 0 ≤ c ∧ c ≤ 8) : cnt c (full c) = c := by
  unfold cnt
  rw [sumN_congr (g' := fun _ => 1) (fun j h1 h2 => by rw [sb_bt.mpr ((bt_full hc (by omega)).mpr (by omega))]; rfl)]
  have : ∀ n : Nat, sumN (fun _ => 1) n = n := by
    intro n
    induction n with
    | zero => rfl
    | succ n ih => show sumN (fun _ => 1) n + 1 = _; rw [ih]; omega
  rw [this]
  omega
theorem sq_ok {c : Int} {L : Int → Int → Int} {be : Int → Int} {P : Int} (hc : 0 ≤ c ∧ c ≤ 8) (h0 : Can c L be P 0) : ∀ k : Nat, (k : Int) ≤ c → (0 ≤ sq c L be P k ∧ sq c L be P k ≤ full c) ∧ Can c L be P (sq c L be P k) ∧ cnt c (sq c L be P k) = k
  | 0, _ => by
    have := full_rng hc
    exact ⟨⟨Int.le_refl _, this.1⟩, h0, sum_empty hc⟩
  | k + 1, hk => by
    obtain ⟨a, b, d⟩ := sq_ok hc h0 k (by omega)
    have hf := full_rng hc
    have hne : sq c L be P k ≠ full c := by
      intro e
      rw [e, cnt_full hc] at d
      omega
    have hlt := (nx_iff hc.1 hne).mpr b
    obtain ⟨n1, n2, n3, n4⟩ := nx_spec (L := L) (be := be) (P := P) (s := sq c L be P k) hc.1
    have hp := n3 hlt
    have hso := so_le hc a ⟨n1, hlt⟩
    refine ⟨hso, hp.2.2, ?_⟩
    show cnt c (so (sq c L be P k) (nx c L be P (sq c L be P k))) = _
    unfold cnt at d ⊢
    rw [sum_so (f := fun _ => 1) hc (by omega) ⟨n1, hlt⟩ hp.1.1, d]
    omega
theorem sq_ne {c : Int} {L : Int → Int → Int} {be : Int → Int} {P : Int} (hc : 0 ≤ c ∧ c ≤ 8) (h0 : Can c L be P 0) {k : Nat} (hk : (k : Int) < c) : sq c L be P k ≠ full c := by
  intro e
  have := (sq_ok hc h0 k (by omega)).2.2
  rw [e, cnt_full hc] at this
  omega

set_option maxRecDepth 100000 in
set_option maxHeartbeats 4000000 in
theorem lp_X0_len {v : Ev} {as : List Nat} (M0 : Mm) (L : Int → Int → Int) (s : Int) (hA : AG M0 L) (hs : 0 ≤ s ∧ s < full (M0 14 3)) (hF : ∀ t, 0 ≤ t → t ≤ full (M0 14 3) → 0 ≤ M0 35 t ∧ M0 35 t ≤ 1000000) (E : Cx v cX0_lengthen 6 yX0_lengthen.cls 3) (hret : RetV v as cX0_lengthen (fun M' => (∀ t, M' 35 t ≤ M0 35 t) ∧ (∀ m, 0 ≤ m → m < M0 14 3 → mayB (M0 17) s m → M' 35 (so s m) ≤ max (M0 35 s) (L s m)) ∧ (∀ t, M' 35 t = M0 35 t ∨ ∃ m, (0 ≤ m ∧ m < M0 14 3) ∧ mayB (M0 17) s m ∧ t = so s m ∧ M' 35 t = max (M0 35 s) (L s m)) ∧ Fr [35] M0 M')) : ∀ (N : Nat) (M : Mm) (n : Int) (o4 o5 : Option Vv), (M0 14 3 - n).toNat < N → (0 ≤ n ∧ n ≤ M0 14 3) → (∀ t, M 35 t ≤ M0 35 t) → (∀ m, 0 ≤ m → m < n → mayB (M0 17) s m → M 35 (so s m) ≤ max (M0 35 s) (L s m)) → (∀ t, M 35 t = M0 35 t ∨ ∃ m, (0 ≤ m ∧ m < M0 14 3) ∧ mayB (M0 17) s m ∧ t = so s m ∧ M 35 t = max (M0 35 s) (L s m)) → (M 35 s = M0 35 s) → (Fr [35] M0 M) → Ws v as SH 0 0 2 [some (rv 29), some (rv 14), some (iv s), some (iv n), o4, o5] [] M := by
  intro N
  induction N with
  | zero =>
    intro M n o4 o5 hN
    exact absurd hN (Nat.not_lt_zero _)
  | succ N ih =>
    intro M n o4 o5 hN g0 g1 g2 g3 g4 g5
    have hN1 : n < M0 14 3 → (M0 14 3 - (n + 1)).toNat < N := fun h => by omega
    have hc := hA.1.1; have hc2 := hA.1.2.1
    have hf := full_rng (c := M0 14 3) ⟨hc, hc2⟩
    have e14 := g5 14 (by decide); have e17 := g5 17 (by decide); have e15 := g5 15 (by decide); have e33 := g5 33 (by decide); have e34 := g5 34 (by decide)
    have bs := hF s (by omega) (by omega)
    refine s_iload_n E dX0_lengthen_2 rfl ?_
    refine s_aload_n E dX0_lengthen_3 rfl ?_
    refine s_getI (kf := 3) E 3 rfl dX0_lengthen_4 rfl inb_X4 (Nat.le_of_ble_eq_true rfl) fl_X0_45 (by decide) sh14 rfl ?_
    rw [e14]
    refine s_icmp_ge E 69 dX0_lengthen_7 (by decide) (by omega) (by omega) (fun h7 => ?_) (fun h7 => ?_)
    · refine hret _ ?_ _ _ dX0_lengthen_69
      exact ⟨g1, fun m h1 h2 h3 => g2 m h1 (by omega) h3, g3, g5⟩
    · have bn := hA.1.2.2 n (by omega) (by omega)
      have hn := hA.2.2 s n (by omega) (by omega) (by omega) (by omega)
      refine s_aload_n E dX0_lengthen_10 rfl ?_
      refine s_iload_n E dX0_lengthen_11 rfl ?_
      refine s_iload_n E dX0_lengthen_12 rfl ?_
      refine s_callVi E (c_X4_isNext _ _ _ (by omega)) dX0_lengthen_13 mf_X4_isNext ml_X0_74 rfl (Nat.le_of_ble_eq_true rfl) (Nat.le_of_ble_eq_true rfl) (by decide) sh14 rfl rfl (fun r13 M13 h13 => ?_)
      obtain ⟨e13, f13⟩ := h13; subst r13; subst M13
      rw [e17]
      refine s_ifeqB E 63 dX0_lengthen_16 (by decide) (fun h16 => ?_) (fun h16 => ?_)
      · refine s_iinc (ls' := [_, _, _, _, _, _]) E dX0_lengthen_63 rfl rfl ?_
        refine s_goto E 2 dX0_lengthen_66 (by decide) ?_
        exact ih _ _ _ _ (by omega) (by omega) g1 (fun m h1 h2 h3 => by
          by_cases e : m = n
          · exact absurd (e ▸ h3) h16
          · exact g2 m h1 (by omega) h3) g3 g4 g5
      · have hso := so_le (c := M0 14 3) (s := s) (m := n) ⟨hc, hc2⟩ (by omega) (by omega)
        have hgt := so_gt (s := s) (m := n) (by omega) (by omega) h16.1
        have bso := hF (so s n) (by omega) (by omega)
        have cso := g3 (so s n)
        have dso := g1 (so s n)
        have eso : 0 ≤ M 35 (so s n) ∧ M 35 (so s n) ≤ 1000000 := by
          rcases cso with q | ⟨m, q1, q2, q3, q4⟩
          · omega
          · omega
        refine s_iload_n E dX0_lengthen_19 rfl ?_
        refine s_iconst E dX0_lengthen_20 ?_
        refine s_iload_n E dX0_lengthen_21 rfl ?_
        refine s_ishl E dX0_lengthen_22 ?_
        refine s_ior E dX0_lengthen_23 ?_
        rw [show iOr s (iShl 1 n) = so s n from rfl]
        refine s_istore (ls' := [_, _, _, _, _, _]) E dX0_lengthen_24 (Nat.le_of_ble_eq_true rfl) rfl ?_
        refine s_aload_n E dX0_lengthen_26 rfl ?_
        refine s_getR (kf := 7) E dX0_lengthen_27 rfl inb_X0 (Nat.le_of_ble_eq_true rfl) fl_X0_35 (by decide) sh29 rfl ?_
        refine s_iload_n E dX0_lengthen_30 rfl ?_
        refine s_iald E dX0_lengthen_31 (by decide) sh35 (Nat.le_of_ble_eq_true rfl) (by omega) ?_
        rw [g4]
        refine s_aload_n E dX0_lengthen_32 rfl ?_
        refine s_aload_n E dX0_lengthen_33 rfl ?_
        refine s_iload_n E dX0_lengthen_34 rfl ?_
        refine s_iload_n E dX0_lengthen_35 rfl ?_
        refine s_callVi E (c_X0_lack _ _ _ (by omega) (by omega) (by rw [e15]; omega)) dX0_lengthen_36 mf_X0_lack ml_X0_78 rfl (Nat.le_of_ble_eq_true rfl) (Nat.le_of_ble_eq_true rfl) (by decide) sh29 rfl rfl (fun r36 M36 h36 => ?_)
        obtain ⟨e36, f36⟩ := h36; subst r36; subst M36
        rw [e34, e33, e15, hn.1]
        refine s_mmax E dX0_lengthen_39 ml_X0_82 mw_max (Nat.le_of_ble_eq_true rfl) (Nat.le_of_ble_eq_true rfl) (by omega) (by omega) ?_
        refine s_istore (ls' := [_, _, _, _, _, _]) E dX0_lengthen_42 (Nat.le_of_ble_eq_true rfl) rfl ?_
        refine s_aload_n E dX0_lengthen_44 rfl ?_
        refine s_getR (kf := 7) E dX0_lengthen_45 rfl inb_X0 (Nat.le_of_ble_eq_true rfl) fl_X0_35 (by decide) sh29 rfl ?_
        refine s_iload E dX0_lengthen_48 rfl ?_
        refine s_aload_n E dX0_lengthen_50 rfl ?_
        refine s_getR (kf := 7) E dX0_lengthen_51 rfl inb_X0 (Nat.le_of_ble_eq_true rfl) fl_X0_35 (by decide) sh29 rfl ?_
        refine s_iload E dX0_lengthen_54 rfl ?_
        refine s_iald E dX0_lengthen_56 (by decide) sh35 (Nat.le_of_ble_eq_true rfl) (by omega) ?_
        refine s_iload E dX0_lengthen_57 rfl ?_
        refine s_mmin E dX0_lengthen_59 ml_X0_88 mw_min (Nat.le_of_ble_eq_true rfl) (Nat.le_of_ble_eq_true rfl) (by omega) (by omega) ?_
        refine s_iast E dX0_lengthen_62 (by decide) sh35 (Nat.le_of_ble_eq_true rfl) (by omega) ?_
        refine s_iinc (ls' := [_, _, _, _, _, _]) E dX0_lengthen_63 rfl rfl ?_
        refine s_goto E 2 dX0_lengthen_66 (by decide) ?_
        refine ih _ _ _ _ (hN1 (by omega)) (by omega) (fun t => ?_) (fun m h1 h2 h3 => ?_) (fun t => ?_) ?_ (g5.up (by decide))
        · by_cases e : t = so s n
          · rw [e, upm_eq]; omega
          · rw [upm_ne (Or.inr e)]; exact g1 t
        · by_cases e : m = n
          · rw [e, upm_eq]; omega
          · by_cases e2 : so s m = so s n
            · have := g2 m h1 (by omega) h3
              rw [e2] at this ⊢
              rw [upm_eq]
              omega
            · rw [upm_ne (Or.inr e2)]
              exact g2 m h1 (by omega) h3
        · by_cases e : t = so s n
          · rw [e, upm_eq]
            by_cases c : M 35 (so s n) ≤ max (M0 35 s) (L s n)
            · rw [Int.min_eq_left c]
              exact cso
            · refine Or.inr ⟨n, by omega, h16, rfl, ?_⟩
              omega
          · rw [upm_ne (Or.inr e)]; exact g3 t
        · rw [upm_ne (Or.inr (by omega))]; exact g4

set_option maxRecDepth 100000 in
set_option maxHeartbeats 4000000 in
theorem c_X0_lengthen (M : Mm) (L : Int → Int → Int) (s : Int) (hA : AG M L) (hs : 0 ≤ s ∧ s < full (M 14 3)) (hF : ∀ t, 0 ≤ t → t ≤ full (M 14 3) → 0 ≤ M 35 t ∧ M 35 t ≤ 1000000) : CtV yX0_lengthen cX0_lengthen 6 3 SH [rv 29, rv 14, iv s] M (fun M' => (∀ t, M' 35 t ≤ M 35 t) ∧ (∀ m, 0 ≤ m → m < M 14 3 → mayB (M 17) s m → M' 35 (so s m) ≤ max (M 35 s) (L s m)) ∧ (∀ t, M' 35 t = M 35 t ∨ ∃ m, (0 ≤ m ∧ m < M 14 3) ∧ mayB (M 17) s m ∧ t = so s m ∧ M' 35 t = max (M 35 s) (L s m)) ∧ Fr [35] M M') := by
  refine CtV.of rfl (Nat.le_of_ble_eq_true rfl) (fun v as E hret => ?_)
  show Ws v as SH 0 0 0 [some (rv 29), some (rv 14), some (iv s), none, none, none] [] M
  refine s_iconst E dX0_lengthen_0 ?_
  refine s_istore_n (ls' := [_, _, _, _, _, _]) E dX0_lengthen_1 (Nat.le_of_ble_eq_true rfl) rfl ?_
  have hc := hA.1.1
  exact lp_X0_len M L s hA hs hF E hret ((M 14 3).toNat + 1) M 0 _ _ (by omega) (by omega) (fun _ => Int.le_refl _) (fun m h1 h2 => by omega) (fun _ => Or.inl rfl) rfl (Fr.rf _ M)

set_option maxRecDepth 100000 in
set_option maxHeartbeats 4000000 in
theorem lp_X0_lp {v : Ev} {as : List Nat} (M0 : Mm) (L : Int → Int → Int) (lim : Int) (hA : AG M0 L) (hlim : 0 ≤ lim ∧ lim ≤ 1000000) (E : Cx v cX0_leastPause 4 yX0_leastPause.cls 4) (hret : RetI v as cX0_leastPause .int (fun r M' => 0 ≤ r ∧ r ≤ lim ∧ (∀ x, x < lim → (r ≤ x ↔ 0 ≤ x ∧ Can (M0 14 3) L (M0 17) x 0)) ∧ Fr [35] M0 M')) : ∀ (N : Nat) (M : Mm) (s : Int), (full (M0 14 3) - s).toNat < N → (0 ≤ s ∧ s ≤ full (M0 14 3)) → (∀ t, 0 ≤ t → t ≤ full (M0 14 3) → 0 ≤ M 35 t ∧ M 35 t ≤ lim) → (∀ x, x < lim → (Uu (M0 14 3) L (M0 17) (M 35) s x ↔ 0 ≤ x ∧ Can (M0 14 3) L (M0 17) x 0)) → (Fr [35] M0 M) → Ws v as SH 0 0 32 [some (rv 29), some (rv 14), some (iv lim), some (iv s)] [] M := by
  intro N
  induction N with
  | zero =>
    intro M s hN
    exact absurd hN (Nat.not_lt_zero _)
  | succ N ih =>
    intro M s hN g0 g1 g2 g3
    have hc := hA.1.1; have hc2 := hA.1.2.1
    have hf := full_rng (c := M0 14 3) ⟨hc, hc2⟩
    have e14 := g3 14 (by decide); have e17 := g3 17 (by decide); have e29 := g3 29 (by decide)
    have e9 := hA.2.1
    have bs := g1 s (by omega) (by omega)
    refine s_iload_n E dX0_leastPause_32 rfl ?_
    refine s_aload_n E dX0_leastPause_33 rfl ?_
    refine s_getI (kf := 9) E 9 rfl dX0_leastPause_34 rfl inb_X0 (Nat.le_of_ble_eq_true rfl) fl_X0_42 (by decide) sh29 rfl ?_
    rw [e29, e9]
    refine s_icmp_ge E 62 dX0_leastPause_37 (by decide) (by omega) (by omega) (fun h37 => ?_) (fun h37 => ?_)
    · refine s_aload_n E dX0_leastPause_62 rfl ?_
      refine s_getR (kf := 7) E dX0_leastPause_63 rfl inb_X0 (Nat.le_of_ble_eq_true rfl) fl_X0_35 (by decide) sh29 rfl ?_
      refine s_aload_n E dX0_leastPause_66 rfl ?_
      refine s_getI (kf := 9) E 9 rfl dX0_leastPause_67 rfl inb_X0 (Nat.le_of_ble_eq_true rfl) fl_X0_42 (by decide) sh29 rfl ?_
      rw [e29, e9]
      refine s_iald E dX0_leastPause_70 (by decide) sh35 (Nat.le_of_ble_eq_true rfl) (by omega) ?_
      refine hret _ _ ?_ (fun q => by cases q) _ _ dX0_leastPause_71
      have e : s = full (M0 14 3) := by omega
      subst e
      have bf := g1 (full (M0 14 3)) (by omega) (by omega)
      refine ⟨bf.1, bf.2, fun x hx => ?_, g3⟩
      rw [← g2 x hx, Uu_full]
    · refine s_aload_n E dX0_leastPause_40 rfl ?_
      refine s_getR (kf := 7) E dX0_leastPause_41 rfl inb_X0 (Nat.le_of_ble_eq_true rfl) fl_X0_35 (by decide) sh29 rfl ?_
      refine s_iload_n E dX0_leastPause_44 rfl ?_
      refine s_iald E dX0_leastPause_45 (by decide) sh35 (Nat.le_of_ble_eq_true rfl) (by omega) ?_
      refine s_iload_n E dX0_leastPause_46 rfl ?_
      refine s_icmp_ge E 56 dX0_leastPause_47 (by decide) (by omega) (by omega) (fun h47 => ?_) (fun h47 => ?_)
      · refine s_iinc (ls' := [_, _, _, _]) E dX0_leastPause_56 rfl rfl ?_
        refine s_goto E 32 dX0_leastPause_59 (by decide) ?_
        refine ih _ _ (by omega) (by omega) g1 (fun x hx => ?_) g3
        rw [← g2 x hx]
        exact (dp_step ⟨hc, hc2⟩ (by omega) (fun t _ _ => Int.le_refl _) (fun h => by omega) (fun t _ _ h => Or.inl h)).symm
      · refine s_aload_n E dX0_leastPause_50 rfl ?_
        refine s_aload_n E dX0_leastPause_51 rfl ?_
        refine s_iload_n E dX0_leastPause_52 rfl ?_
        refine s_callVv E (c_X0_lengthen M L s (hA.fr g3 (by decide) (by decide) (by decide) (by decide) (by decide) (by decide) (by decide)) (by rw [e14]; omega) (fun t h1 h2 => by rw [e14] at h2; have := g1 t h1 h2; omega)) dX0_leastPause_53 mf_X0_lengthen ml_X0_70 rfl (Nat.le_of_ble_eq_true rfl) (Nat.le_of_ble_eq_true rfl) (by decide) sh29 rfl rfl (fun M53 h53 => ?_)
        obtain ⟨a53, b53, c53, d53⟩ := h53
        rw [e14, e17] at b53 c53
        refine s_iinc (ls' := [_, _, _, _]) E dX0_leastPause_56 rfl rfl ?_
        refine s_goto E 32 dX0_leastPause_59 (by decide) ?_
        refine ih _ _ (by omega) (by omega) (fun t h1 h2 => ?_) (fun x hx => ?_) (g3.tr d53)
        · have q1 := g1 t h1 h2
          have q2 := a53 t
          rcases c53 t with q | ⟨m, r1, r2, r3, r4⟩ <;> omega
        · rw [← g2 x hx]
          refine (dp_step ⟨hc, hc2⟩ (by omega) (fun t _ _ => a53 t) (fun _ m h1 h2 h3 => b53 m h1 h2 h3) (fun t h1 h2 h3 => ?_)).symm
          rcases c53 t with q | ⟨m, r1, r2, r3, r4⟩
          · exact Or.inl (by omega)
          · exact Or.inr ⟨m, r1, r2, r3, by omega, by omega⟩

set_option maxRecDepth 100000 in
set_option maxHeartbeats 4000000 in
theorem lp_X0_lp0 {v : Ev} {as : List Nat} (M0 : Mm) (L : Int → Int → Int) (lim : Int) (hA : AG M0 L) (hlim : 0 ≤ lim ∧ lim ≤ 1000000) (E : Cx v cX0_leastPause 4 yX0_leastPause.cls 4) (hret : RetI v as cX0_leastPause .int (fun r M' => 0 ≤ r ∧ r ≤ lim ∧ (∀ x, x < lim → (r ≤ x ↔ 0 ≤ x ∧ Can (M0 14 3) L (M0 17) x 0)) ∧ Fr [35] M0 M')) : ∀ (N : Nat) (M : Mm) (t : Int), (full (M0 14 3) + 1 - t).toNat < N → (1 ≤ t ∧ t ≤ full (M0 14 3) + 1) → (∀ q, 1 ≤ q → q < t → M 35 q = lim) → (Fr [35] M0 M) → Ws v as SH 0 0 2 [some (rv 29), some (rv 14), some (iv lim), some (iv t)] [] M := by
  intro N
  induction N with
  | zero =>
    intro M t hN
    exact absurd hN (Nat.not_lt_zero _)
  | succ N ih =>
    intro M t hN g0 g1 g2
    have hc := hA.1.1; have hc2 := hA.1.2.1
    have hf := full_rng (c := M0 14 3) ⟨hc, hc2⟩
    have e29 := g2 29 (by decide)
    have e9 := hA.2.1
    refine s_iload_n E dX0_leastPause_2 rfl ?_
    refine s_aload_n E dX0_leastPause_3 rfl ?_
    refine s_getI (kf := 9) E 9 rfl dX0_leastPause_4 rfl inb_X0 (Nat.le_of_ble_eq_true rfl) fl_X0_42 (by decide) sh29 rfl ?_
    rw [e29, e9]
    refine s_icmp_gt E 23 dX0_leastPause_7 (by decide) (by omega) (by omega) (fun h7 => ?_) (fun h7 => ?_)
    · refine s_aload_n E dX0_leastPause_23 rfl ?_
      refine s_getR (kf := 7) E dX0_leastPause_24 rfl inb_X0 (Nat.le_of_ble_eq_true rfl) fl_X0_35 (by decide) sh29 rfl ?_
      refine s_iconst E dX0_leastPause_27 ?_
      refine s_iconst E dX0_leastPause_28 ?_
      refine s_iast E dX0_leastPause_29 (by decide) sh35 (Nat.le_of_ble_eq_true rfl) (by omega) ?_
      refine s_iconst E dX0_leastPause_30 ?_
      refine s_istore_n (ls' := [_, _, _, _]) E dX0_leastPause_31 (Nat.le_of_ble_eq_true rfl) rfl ?_
      refine lp_X0_lp M0 L lim hA hlim E hret ((full (M0 14 3)).toNat + 1) _ 0 (by omega) (by omega) (fun q h1 h2 => ?_) (fun x hx => ?_) (g2.up (by decide))
      · by_cases e : q = 0
        · rw [e, upm_eq]; omega
        · rw [upm_ne (Or.inr e), g1 q (by omega) (by omega)]; omega
      · constructor
        · rintro ⟨q, q1, q2, q3, q4⟩
          by_cases e : q = 0
          · rw [e, upm_eq] at q3
            rw [e] at q4
            exact ⟨q3, q4⟩
          · rw [upm_ne (Or.inr e), g1 q (by omega) (by omega)] at q3
            omega
        · rintro ⟨q1, q2⟩
          exact ⟨0, by omega, by omega, by rw [upm_eq]; exact q1, q2⟩
    · refine s_aload_n E dX0_leastPause_10 rfl ?_
      refine s_getR (kf := 7) E dX0_leastPause_11 rfl inb_X0 (Nat.le_of_ble_eq_true rfl) fl_X0_35 (by decide) sh29 rfl ?_
      refine s_iload_n E dX0_leastPause_14 rfl ?_
      refine s_iload_n E dX0_leastPause_15 rfl ?_
      refine s_iast E dX0_leastPause_16 (by decide) sh35 (Nat.le_of_ble_eq_true rfl) (by omega) ?_
      refine s_iinc (ls' := [_, _, _, _]) E dX0_leastPause_17 rfl rfl ?_
      refine s_goto E 2 dX0_leastPause_20 (by decide) ?_
      refine ih _ _ (by omega) (by omega) (fun q h1 h2 => ?_) (g2.up (by decide))
      by_cases e : q = t
      · rw [e, upm_eq]
      · rw [upm_ne (Or.inr e)]; exact g1 q h1 (by omega)

set_option maxRecDepth 100000 in
set_option maxHeartbeats 4000000 in
theorem c_X0_leastPause (M : Mm) (L : Int → Int → Int) (lim : Int) (hA : AG M L) (hlim : 0 ≤ lim ∧ lim ≤ 1000000) : CtI yX0_leastPause cX0_leastPause 4 .int 4 SH [rv 29, rv 14, iv lim] M (fun r M' => 0 ≤ r ∧ r ≤ lim ∧ (∀ x, x < lim → (r ≤ x ↔ 0 ≤ x ∧ Can (M 14 3) L (M 17) x 0)) ∧ Fr [35] M M') := by
  refine CtI.of rfl (Nat.le_of_ble_eq_true rfl) (Or.inl rfl) (fun v as E hret => ?_)
  show Ws v as SH 0 0 0 [some (rv 29), some (rv 14), some (iv lim), none] [] M
  refine s_iconst E dX0_leastPause_0 ?_
  refine s_istore_n (ls' := [_, _, _, _]) E dX0_leastPause_1 (Nat.le_of_ble_eq_true rfl) rfl ?_
  have hc := hA.1.1; have hc2 := hA.1.2.1
  have hf := full_rng (c := M 14 3) ⟨hc, hc2⟩
  exact lp_X0_lp0 M L lim hA hlim E hret ((full (M 14 3)).toNat + 1) M 1 (by omega) (by omega) (fun q h1 h2 => by omega) (Fr.rf _ M)
