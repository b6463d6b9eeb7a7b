/-! ===== books: the calls ===== -/
def chS (k : Int) : Int := if k = 6 then 46 else 97 + k
theorem bfl_rng (p : Int → Int) (n : Int) : ∀ (r : Nat) (k h : Int), 0 ≤ k → (bfl p n r k h = -6 ∨ 0 ≤ bfl p n r k h) ∧ bfl p n r k h ≤ k + r
  | 0, k, h, hk => by
    by_cases e : n = 0
    · rw [show bfl p n 0 k h = 0 from if_pos e]; omega
    · rw [show bfl p n 0 k h = -6 from if_neg e]; omega
  | r + 1, k, h, hk => by
    have ih := bfl_rng p n r (k + 1) (if p k = 42 then h + 1 else h) (by omega)
    by_cases w : (¬ ((97 ≤ p k ∧ p k < 103) ∨ p k = 46 ∨ p k = 42)) ∨ k ≥ 12 ∨ (if p k = 42 then h + 1 else h) > 5
    · rw [show bfl p n (r + 1) k h = k from if_pos w]; omega
    · rw [show bfl p n (r + 1) k h = bfl p n r (k + 1) (if p k = 42 then h + 1 else h) from if_neg w]; omega
theorem bfl_ok (p : Int → Int) (n : Int) (hn : n ≠ 0) : ∀ (r : Nat) (k : Int) (h : Nat), h ≤ 5 → bfl p n r k h = -6 → 0 ≤ k → (∀ j, k ≤ j → j < k + r → (97 ≤ p j ∧ p j < 103) ∨ p j = 46 ∨ p j = 42) ∧ (1 ≤ r → k + r ≤ 12) ∧ nq p r k * 7 ^ h ≤ 16807
  | 0, k, h, hh, _, _ => ⟨fun j h1 h2 => by omega, fun w => by omega, by
    have : ∀ h : Nat, h ≤ 5 → 1 * 7 ^ h ≤ 16807 := by decide
    exact this h hh⟩
  | r + 1, k, h, hh, e, hk => by
    unfold bfl at e
    by_cases w : (¬ ((97 ≤ p k ∧ p k < 103) ∨ p k = 46 ∨ p k = 42)) ∨ k ≥ 12 ∨ (if p k = 42 then (h : Int) + 1 else h) > 5
    · rw [if_pos w] at e
      omega
    · rw [if_neg w] at e
      by_cases h42 : p k = 42
      · rw [if_pos h42] at e w
        have ih := bfl_ok p n hn r (k + 1) (h + 1) (by omega) e (by omega)
        refine ⟨fun j h1 h2 => ?_, fun _ => ?_, ?_⟩
        · by_cases ej : j = k
          · rw [ej]; omega
          · exact ih.1 j (by omega) (by omega)
        · by_cases r0 : 1 ≤ r
          · have := ih.2.1 r0; omega
          · omega
        · rw [nq_hole h42, Nat.mul_comm 7, Nat.mul_assoc, ← Nat.pow_succ']
          exact ih.2.2
      · rw [if_neg h42] at e w
        have ih := bfl_ok p n hn r (k + 1) h hh e (by omega)
        refine ⟨fun j h1 h2 => ?_, fun _ => ?_, ?_⟩
        · by_cases ej : j = k
          · rw [ej]; omega
          · exact ih.1 j (by omega) (by omega)
        · by_cases r0 : 1 ≤ r
          · have := ih.2.1 r0; omega
          · omega
        · rw [nq_line h42]
          exact ih.2.2
theorem bFault_ok {p : Int → Int} {n : Int} (hn : 0 ≤ n) (h : bFault p n = -6) : (1 ≤ n ∧ n ≤ 12) ∧ (∀ j, 0 ≤ j → j < n → (97 ≤ p j ∧ p j < 103) ∨ p j = 46 ∨ p j = 42) ∧ (nq p n.toNat 0 : Int) ≤ 16807 := by
  have h0 : n ≠ 0 := fun e => by
    subst e
    have : bFault p 0 = 0 := rfl
    omega
  have q := bfl_ok p n h0 n.toNat 0 0 (by decide) h (by decide)
  have a := q.2.1 (by omega)
  have b := q.2.2
  refine ⟨by omega, fun j h1 h2 => q.1 j h1 (by omega), by omega⟩
theorem bFault_rng {p : Int → Int} {n : Int} (h : PadOK p n) : (bFault p n = -6 ∨ 0 ≤ bFault p n) ∧ bFault p n ≤ 40 := by
  have q := bfl_rng p n n.toNat 0 0 (by decide)
  have := h.1; have := h.2.1
  exact ⟨q.1, by have := q.2; show bfl p n n.toNat 0 0 ≤ 40; omega⟩
theorem fil_rng (p : Int → Int) : ∀ (r : Nat) (i c j : Int), 0 ≤ c → c < nq p r i → i ≤ j → j < i + r → 0 ≤ fil p r i c j ∧ fil p r i c j ≤ 6
  | 0, i, c, j, _, _, h1, h2 => by omega
  | r + 1, i, c, j, h0, hc, h1, h2 => by
    have q := nq_pos p r (i + 1)
    have m0 : 0 ≤ c % (nq p r (i + 1) : Int) := Int.emod_nonneg _ (by omega)
    have m1 : c % (nq p r (i + 1) : Int) < nq p r (i + 1) := Int.emod_lt_of_pos _ (by omega)
    have d0 : 0 ≤ c / (nq p r (i + 1) : Int) := Int.ediv_nonneg h0 (by omega)
    show 0 ≤ (if j = i then loS (p i) + c / nq p r (i + 1) else fil p r (i + 1) (c % nq p r (i + 1)) j) ∧ (if j = i then loS (p i) + c / nq p r (i + 1) else fil p r (i + 1) (c % nq p r (i + 1)) j) ≤ 6
    by_cases e : j = i
    · rw [if_pos e]
      by_cases hp : p i = 42
      · rw [nq_hole hp] at hc
        have : c / (nq p r (i + 1) : Int) < 7 := Int.ediv_lt_of_lt_mul (by omega) (by omega)
        rw [(lnS_hole hp).2.1]
        omega
      · rw [nq_line hp] at hc
        have l := lnS_rng hp
        rw [Int.ediv_eq_zero_of_lt h0 hc, loS_ln hp]
        omega
    · rw [if_neg e]
      exact fil_rng p r (i + 1) _ j m0 m1 (by omega) (by omega)
theorem HB_nn {p : Int → Int} {r : Nat} {i : Int} {H : Int → Int} (j : Int) : 0 ≤ HB p r i H j := by
  have := HB_01 p r i H j
  omega
theorem cnt_lt {p : Int → Int} {r : Nat} {i c c' : Int} {H : Int → Int} (h0 : 0 ≤ c) (hc : c < c') (h : HB p r i H c = 1) : sumN (HB p r i H) c.toNat + 1 ≤ sumN (HB p r i H) c'.toNat := by
  have := sumN_mono (f := HB p r i H) (fun j _ => HB_nn j) (a := (c + 1).toNat) (c'.toNat - (c + 1).toNat)
  rw [show (c + 1).toNat + (c'.toNat - (c + 1).toNat) = c'.toNat by omega, sumN_step h0, h] at this
  exact this
theorem cnt_W {p : Int → Int} {r : Nat} {i c : Int} {H : Int → Int} (h0 : 0 ≤ c ∧ c < nq p r i) (h : HB p r i H c = 1) : sumN (HB p r i H) c.toNat < WB p r i H := by
  have := cnt_lt (c' := nq p r i) h0.1 h0.2 h
  rw [Int.toNat_natCast] at this
  unfold WB
  omega
theorem cnt_uq {p : Int → Int} {r : Nat} {i c c' : Int} {H : Int → Int} (h0 : 0 ≤ c) (h0' : 0 ≤ c') (h : HB p r i H c = 1) (h' : HB p r i H c' = 1) (e : sumN (HB p r i H) c.toNat = sumN (HB p r i H) c'.toNat) : c = c' := by
  rcases (show c < c' ∨ c = c' ∨ c' < c by omega) with q | q | q
  · have := cnt_lt h0 q h; omega
  · exact q
  · have := cnt_lt h0' q h'; omega
def ATF (p : Int → Int) (n : Int) (H : Int → Int) (a b r : Int) : Prop := (a = -1 → r = WB p n.toNat 0 H) ∧ (a ≠ -1 → ((0 ≤ b ∧ b < n) ∧ ∃ c : Int, (0 ≤ c ∧ c < nq p n.toNat 0) ∧ HB p n.toNat 0 H c = 1 ∧ sumN (HB p n.toNat 0 H) c.toNat = a ∧ r = chS (fil p n.toNat 0 c b)) ∨ (r = -6 ∧ ¬ ((0 ≤ b ∧ b < n) ∧ ∃ c : Int, (0 ≤ c ∧ c < nq p n.toNat 0) ∧ HB p n.toNat 0 H c = 1 ∧ sumN (HB p n.toNat 0 H) c.toNat = a)))
theorem ATF_uq {p : Int → Int} {n : Int} {H : Int → Int} {a b r r' : Int} (h : ATF p n H a b r) (h' : ATF p n H a b r') : r = r' := by
  by_cases e : a = -1
  · rw [h.1 e, h'.1 e]
  · rcases h.2 e with ⟨q0, c, q1, q2, q3, q4⟩ | ⟨q1, q2⟩ <;> rcases h'.2 e with ⟨w0, c', w1, w2, w3, w4⟩ | ⟨w1, w2⟩
    · have := cnt_uq q1.1 w1.1 q2 w2 (by rw [q3, w3])
      subst this
      rw [q4, w4]
    · exact absurd ⟨q0, c, q1, q2, q3⟩ w2
    · exact absurd ⟨w0, c', w1, w2, w3⟩ q2
    · rw [q1, w1]

set_option maxRecDepth 100000 in
set_option maxHeartbeats 4000000 in
theorem c_X7_filled (M0 : Mm) (hp : PadOK (M0 21) (M0 20 1)) (hs : ∀ k, 0 ≤ k → k < 6 → 0 ≤ M0 3 k ∧ M0 3 k ≤ 999) (a b : Int) (ha : inI a) (hb : inI b) : CtI yX7_filled cX7_filled 3 .int 17 SH [rv 0, iv a, iv b] M0 (fun r M' => (bFault (M0 21) (M0 20 1) ≠ -6 → r = -5) ∧ (bFault (M0 21) (M0 20 1) = -6 → ATF (M0 21) (M0 20 1) (M0 3) a b r) ∧ Kp M0 M') := by
  refine CtI.of rfl (Nat.le_of_ble_eq_true rfl) (Or.inl rfl) (fun v as E hret => ?_)
  show Ws v as SH 0 0 0 [some (rv 0), some (iv a), some (iv b)] [] M0
  refine s_aload_n E dX7_filled_0 rfl ?_
  refine s_getR (kf := 3) E dX7_filled_1 rfl inb_X7 (Nat.le_of_ble_eq_true rfl) fl_X7_27 (by decide) sh0 rfl ?_
  refine s_callVi E (c_X5_bookFault M0 hp) dX7_filled_4 mf_X5_bookFault ml_X7_88 rfl (Nat.le_of_ble_eq_true rfl) (Nat.le_of_ble_eq_true rfl) (by decide) sh20 rfl rfl (fun r4 M4 h4 => ?_)
  obtain ⟨e4, f4⟩ := h4; subst r4; subst M4
  have hbr := bFault_rng hp
  refine s_bipush E dX7_filled_7 rfl ?_
  refine s_icmp_eq E 15 dX7_filled_9 (by decide) (by omega) (by omega) (fun h9 => ?_) (fun h9 => ?_)
  · refine s_aload_n E dX7_filled_15 rfl ?_
    refine s_getR (kf := 7) E dX7_filled_16 rfl inb_X7 (Nat.le_of_ble_eq_true rfl) fl_X7_55 (by decide) sh0 rfl ?_
    refine s_aload_n E dX7_filled_19 rfl ?_
    refine s_getR (kf := 3) E dX7_filled_20 rfl inb_X7 (Nat.le_of_ble_eq_true rfl) fl_X7_27 (by decide) sh0 rfl ?_
    refine s_aload_n E dX7_filled_23 rfl ?_
    refine s_getR (kf := 0) E dX7_filled_24 rfl inb_X7 (Nat.le_of_ble_eq_true rfl) fl_X7_10 (by decide) sh0 rfl ?_
    refine s_getR (kf := 0) E dX7_filled_27 rfl inb_X2 (Nat.le_of_ble_eq_true rfl) fl_X7_67 (by decide) sh1 rfl ?_
    refine s_iconst E dX7_filled_30 ?_
    refine s_aald (kd := 0) (r := 3) E dX7_filled_31 (by decide) sh2 (Nat.le_of_ble_eq_true rfl) (by decide) rfl ?_
    refine s_callVv E (c_X1_open M0 hp) dX7_filled_32 mf_X1_open ml_X7_184 rfl (Nat.le_of_ble_eq_true rfl) (Nat.le_of_ble_eq_true rfl) (by decide) sh40 rfl rfl (fun M32 h32 => ?_)
    obtain ⟨a32, b32, c32, d32⟩ := h32
    have hb6 : bFault (M0 21) (M0 20 1) = -6 := by omega
    have hk := bFault_ok hp.1 hb6
    have emin : min (M0 20 1) 12 = M0 20 1 := by omega
    rw [emin] at b32 c32
    have hBO : BO (M0 21) (M0 20 1) M32 := ⟨b32, by omega, c32, fun j h1 h2 => by rw [(d32 j h1 h2).1]; exact hs j h1 h2⟩
    have hHS : HS M32 0 (M0 3) := fun j h1 h2 => by
      have := hs j h1 h2
      rw [(d32 j h1 h2).1, (d32 j h1 h2).2]
      omega
    have k32 : Kp M0 M32 := a32.kp (by decide)
    refine s_iload_n E dX7_filled_35 rfl ?_
    refine s_iconst E dX7_filled_36 ?_
    refine s_icmp_ne E 51 dX7_filled_37 (by decide) (by omega) (by omega) (fun h37 => ?_) (fun h37 => ?_)
    · refine s_iload_n E dX7_filled_51 rfl ?_
      refine s_if_lt E 83 dX7_filled_52 (by decide) (by omega) (fun h52 => ?_) (fun h52 => ?_)
      · refine s_bipush E dX7_filled_83 rfl ?_
        refine hret _ _ ?_ (fun q => by cases q) _ _ dX7_filled_85
        refine ⟨fun w => absurd hb6 w, fun _ => ⟨fun w => by omega, fun _ => Or.inr ⟨rfl, ?_⟩⟩, k32⟩
        rintro ⟨q0, c, q1, q2, q3⟩
        have w1 := cnt_W q1 q2
        have w2 := sumN_nn (f := HB (M0 21) (M0 20 1).toNat 0 (M0 3)) (n := c.toNat) (fun j _ _ => HB_nn j)
        omega
      · refine s_iload_n E dX7_filled_55 rfl ?_
        refine s_if_lt E 83 dX7_filled_56 (by decide) (by omega) (fun h56 => ?_) (fun h56 => ?_)
        · refine s_bipush E dX7_filled_83 rfl ?_
          refine hret _ _ ?_ (fun q => by cases q) _ _ dX7_filled_85
          refine ⟨fun w => absurd hb6 w, fun _ => ⟨fun w => by omega, fun _ => Or.inr ⟨rfl, ?_⟩⟩, k32⟩
          rintro ⟨q0, c, q1, q2, q3⟩
          have w1 := cnt_W q1 q2
          have w2 := sumN_nn (f := HB (M0 21) (M0 20 1).toNat 0 (M0 3)) (n := c.toNat) (fun j _ _ => HB_nn j)
          omega
        · refine s_iload_n E dX7_filled_59 rfl ?_
          refine s_aload_n E dX7_filled_60 rfl ?_
          refine s_getR (kf := 7) E dX7_filled_61 rfl inb_X7 (Nat.le_of_ble_eq_true rfl) fl_X7_55 (by decide) sh0 rfl ?_
          refine s_getI (kf := 1) E 1 rfl dX7_filled_64 rfl inb_X1 (Nat.le_of_ble_eq_true rfl) fl_X7_192 (by decide) sh40 rfl ?_
          rw [b32]
          refine s_icmp_ge E 83 dX7_filled_67 (by decide) (by omega) (by omega) (fun h67 => ?_) (fun h67 => ?_)
          · refine s_bipush E dX7_filled_83 rfl ?_
            refine hret _ _ ?_ (fun q => by cases q) _ _ dX7_filled_85
            refine ⟨fun w => absurd hb6 w, fun _ => ⟨fun w => by omega, fun _ => Or.inr ⟨rfl, ?_⟩⟩, k32⟩
            rintro ⟨q0, c, q1, q2, q3⟩
            have w1 := cnt_W q1 q2
            have w2 := sumN_nn (f := HB (M0 21) (M0 20 1).toNat 0 (M0 3)) (n := c.toNat) (fun j _ _ => HB_nn j)
            omega
          · refine s_aload_n E dX7_filled_70 rfl ?_
            refine s_getR (kf := 7) E dX7_filled_71 rfl inb_X7 (Nat.le_of_ble_eq_true rfl) fl_X7_55 (by decide) sh0 rfl ?_
            refine s_iconst E dX7_filled_74 ?_
            refine s_iload_n E dX7_filled_75 rfl ?_
            refine s_callSNi E (c_X1_ways (M0 21) (M0 20 1) (M0 20 1).toNat M32 0 a (M0 3) (by omega) (by omega) (by omega) hk.2.2 hBO hHS) dX7_filled_76 mf_X1_ways ml_X7_188 rfl (by omega) (Nat.le_of_ble_eq_true rfl) rfl (fun r76 M76 h76 => ?_)
            obtain ⟨a76, b76, c76, d76, e76, f76⟩ := h76
            have hWr := WB_rng (M0 21) (M0 20 1).toNat 0 (M0 3)
            have k76 : Kp M0 M76 := k32.tr (a76.kp (by decide))
            refine s_iload_n E dX7_filled_79 rfl ?_
            refine s_icmp_gt E 86 dX7_filled_80 (by decide) (by omega) (by omega) (fun h80 => ?_) (fun h80 => ?_)
            · obtain ⟨g0, c, g1, g2, g3, g4⟩ := (f76 (by omega)).2
              have hfl := g4 b (by omega) (by omega)
              have hfr := fil_rng (M0 21) (M0 20 1).toNat 0 c b g1.1 g1.2 (by omega) (by omega)
              refine s_aload_n E dX7_filled_86 rfl ?_
              refine s_getR (kf := 7) E dX7_filled_87 rfl inb_X7 (Nat.le_of_ble_eq_true rfl) fl_X7_55 (by decide) sh0 rfl ?_
              refine s_iload_n E dX7_filled_90 rfl ?_
              refine s_callVi E (c_X1_sign M76 b (by omega) (by rw [hfl]; exact hfr)) dX7_filled_91 mf_X1_sign ml_X7_195 rfl (Nat.le_of_ble_eq_true rfl) (Nat.le_of_ble_eq_true rfl) (by decide) sh40 rfl rfl (fun r91 M91 h91 => ?_)
              obtain ⟨e91, f91⟩ := h91; subst M91
              refine hret _ _ ?_ (fun q => by cases q) _ _ dX7_filled_94
              refine ⟨fun w => absurd hb6 w, fun _ => ⟨fun w => by omega, fun _ => Or.inl ⟨by omega, c, g1, g2, g3, ?_⟩⟩, k76⟩
              rw [e91, hfl]
              rfl
            · refine s_bipush E dX7_filled_83 rfl ?_
              refine hret _ _ ?_ (fun q => by cases q) _ _ dX7_filled_85
              refine ⟨fun w => absurd hb6 w, fun _ => ⟨fun w => by omega, fun _ => Or.inr ⟨rfl, ?_⟩⟩, k76⟩
              rintro ⟨q0, c, q1, q2, q3⟩
              have w1 := cnt_W q1 q2
              have w2 := sumN_nn (f := HB (M0 21) (M0 20 1).toNat 0 (M0 3)) (n := c.toNat) (fun j _ _ => HB_nn j)
              omega
    · refine s_aload_n E dX7_filled_40 rfl ?_
      refine s_getR (kf := 7) E dX7_filled_41 rfl inb_X7 (Nat.le_of_ble_eq_true rfl) fl_X7_55 (by decide) sh0 rfl ?_
      refine s_iconst E dX7_filled_44 ?_
      refine s_ldc E dX7_filled_45 cst_X7_140 ?_
      refine s_callSNi E (c_X1_ways (M0 21) (M0 20 1) (M0 20 1).toNat M32 0 1000000 (M0 3) (by omega) (by omega) (by omega) hk.2.2 hBO hHS) dX7_filled_47 mf_X1_ways ml_X7_188 rfl (by omega) (Nat.le_of_ble_eq_true rfl) rfl (fun r47 M47 h47 => ?_)
      obtain ⟨a47, b47, c47, d47, e47, f47⟩ := h47
      have hWr := WB_rng (M0 21) (M0 20 1).toNat 0 (M0 3)
      have k47 : Kp M0 M47 := k32.tr (a47.kp (by decide))
      refine hret _ _ ?_ (fun q => by cases q) _ _ dX7_filled_50
      refine ⟨fun w => absurd hb6 w, fun _ => ⟨fun _ => e47 (by omega), fun w => by omega⟩, k47⟩
  · refine s_bipush E dX7_filled_12 rfl ?_
    refine hret _ _ ?_ (fun q => by cases q) _ _ dX7_filled_14
    exact ⟨fun _ => rfl, fun w => by omega, Kp.rf M0⟩

set_option maxRecDepth 100000 in
set_option maxHeartbeats 4000000 in
theorem c_X7_lie (M0 : Mm) (hp : PadOK (M0 21) (M0 20 1)) (hs : ∀ k, 0 ≤ k → k < 6 → 0 ≤ M0 3 k ∧ M0 3 k ≤ 999) : CtI yX7_lie cX7_lie 1 .int 17 SH [rv 0] M0 (fun r M' => (bFault (M0 21) (M0 20 1) ≠ -6 → r = -5) ∧ (bFault (M0 21) (M0 20 1) = -6 → r = if FD (M0 21) (M0 20 1).toNat 0 (M0 3) = M0 20 1 then -6 else FD (M0 21) (M0 20 1).toNat 0 (M0 3)) ∧ Kp M0 M') := by
  refine CtI.of rfl (Nat.le_of_ble_eq_true rfl) (Or.inl rfl) (fun v as E hret => ?_)
  show Ws v as SH 0 0 0 [some (rv 0)] [] M0
  refine s_aload_n E dX7_lie_0 rfl ?_
  refine s_getR (kf := 3) E dX7_lie_1 rfl inb_X7 (Nat.le_of_ble_eq_true rfl) fl_X7_27 (by decide) sh0 rfl ?_
  refine s_callVi E (c_X5_bookFault M0 hp) dX7_lie_4 mf_X5_bookFault ml_X7_88 rfl (Nat.le_of_ble_eq_true rfl) (Nat.le_of_ble_eq_true rfl) (by decide) sh20 rfl rfl (fun r4 M4 h4 => ?_)
  obtain ⟨e4, f4⟩ := h4; subst r4; subst M4
  have hbr := bFault_rng hp
  refine s_bipush E dX7_lie_7 rfl ?_
  refine s_icmp_eq E 15 dX7_lie_9 (by decide) (by omega) (by omega) (fun h9 => ?_) (fun h9 => ?_)
  · refine s_aload_n E dX7_lie_15 rfl ?_
    refine s_getR (kf := 7) E dX7_lie_16 rfl inb_X7 (Nat.le_of_ble_eq_true rfl) fl_X7_55 (by decide) sh0 rfl ?_
    refine s_aload_n E dX7_lie_19 rfl ?_
    refine s_getR (kf := 3) E dX7_lie_20 rfl inb_X7 (Nat.le_of_ble_eq_true rfl) fl_X7_27 (by decide) sh0 rfl ?_
    refine s_aload_n E dX7_lie_23 rfl ?_
    refine s_getR (kf := 0) E dX7_lie_24 rfl inb_X7 (Nat.le_of_ble_eq_true rfl) fl_X7_10 (by decide) sh0 rfl ?_
    refine s_getR (kf := 0) E dX7_lie_27 rfl inb_X2 (Nat.le_of_ble_eq_true rfl) fl_X7_67 (by decide) sh1 rfl ?_
    refine s_iconst E dX7_lie_30 ?_
    refine s_aald (kd := 0) (r := 3) E dX7_lie_31 (by decide) sh2 (Nat.le_of_ble_eq_true rfl) (by decide) rfl ?_
    refine s_callVv E (c_X1_open M0 hp) dX7_lie_32 mf_X1_open ml_X7_184 rfl (Nat.le_of_ble_eq_true rfl) (Nat.le_of_ble_eq_true rfl) (by decide) sh40 rfl rfl (fun M32 h32 => ?_)
    obtain ⟨a32, b32, c32, d32⟩ := h32
    have hb6 : bFault (M0 21) (M0 20 1) = -6 := by omega
    have hk := bFault_ok hp.1 hb6
    have emin : min (M0 20 1) 12 = M0 20 1 := by omega
    rw [emin] at b32 c32
    have hBO : BO (M0 21) (M0 20 1) M32 := ⟨b32, by omega, c32, fun j h1 h2 => by rw [(d32 j h1 h2).1]; exact hs j h1 h2⟩
    have hHS : HS M32 0 (M0 3) := fun j h1 h2 => by
      have := hs j h1 h2
      rw [(d32 j h1 h2).1, (d32 j h1 h2).2]
      omega
    have k32 : Kp M0 M32 := a32.kp (by decide)
    refine s_aload_n E dX7_lie_35 rfl ?_
    refine s_getR (kf := 7) E dX7_lie_36 rfl inb_X7 (Nat.le_of_ble_eq_true rfl) fl_X7_55 (by decide) sh0 rfl ?_
    refine s_callVi E (c_X1_firstFalse (M0 21) (M0 20 1) (M0 3) M32 hBO hHS) dX7_lie_39 mf_X1_firstFalse ml_X7_198 rfl (Nat.le_of_ble_eq_true rfl) (Nat.le_of_ble_eq_true rfl) (by decide) sh40 rfl rfl (fun r39 M39 h39 => ?_)
    refine hret _ _ ?_ (fun q => by cases q) _ _ dX7_lie_42
    exact ⟨fun w => absurd hb6 w, fun _ => h39.1, k32.tr (h39.2.kp (by decide))⟩
  · refine s_bipush E dX7_lie_12 rfl ?_
    refine hret _ _ ?_ (fun q => by cases q) _ _ dX7_lie_14
    exact ⟨fun _ => rfl, fun w => by omega, Kp.rf M0⟩
