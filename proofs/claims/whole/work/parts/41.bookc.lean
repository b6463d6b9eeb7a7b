/-! ===== books: the class ===== -/
def BO (p : Int → Int) (n : Int) (M : Mm) : Prop := M 40 1 = n ∧ (0 ≤ n ∧ n ≤ 12) ∧ (∀ j, 0 ≤ j → j < n → M 42 j = lnS (p j)) ∧ (∀ j, 0 ≤ j → j < 6 → 0 ≤ M 43 j ∧ M 43 j ≤ 999)
def HS (M : Mm) (at' : Int) (H : Int → Int) : Prop := ∀ j, 0 ≤ j → j < 6 → (0 ≤ M 43 j ∧ M 43 j ≤ 999) ∧ M 43 j + at' - 2 * M 44 j = H j ∧ 0 ≤ M 44 j ∧ M 44 j ≤ at'
theorem BO.fr {p : Int → Int} {n : Int} {M M' : Mm} {l : List Int} (h : BO p n M) (hF : Fr l M M') (h40 : (40 : Int) ∉ l) (h42 : (42 : Int) ∉ l) (h43 : (43 : Int) ∉ l) : BO p n M' := by
  unfold BO
  rw [hF 40 h40, hF 42 h42, hF 43 h43]
  exact h
theorem sumN_mono {f : Int → Int} (h : ∀ j, 0 ≤ j → 0 ≤ f j) {a : Nat} : ∀ b : Nat, sumN f a ≤ sumN f (a + b)
  | 0 => Int.le_refl _
  | b + 1 => by
    show sumN f a ≤ sumN f (a + b) + f ((a + b : Nat) : Int)
    have := sumN_mono h (a := a) b
    have := h ((a + b : Nat) : Int) (by omega)
    omega
theorem gW_nn (p : Int → Int) (r : Nat) (i : Int) (H : Int → Int) (k : Int) : 0 ≤ gW p r i H k := by
  have := (WB_rng p r (i + 1) (stepH k H)).1
  unfold gW
  split <;> omega
theorem lnS7 (s : Int) : 0 ≤ lnS s ∧ lnS s ≤ 7 := by
  unfold lnS
  (repeat' split) <;> omega

set_option maxRecDepth 100000 in
set_option maxHeartbeats 4000000 in
theorem c_X1_line (M : Mm) (s : Int) (hs : 0 ≤ s ∧ s ≤ 126) : CtI yX1_line cX1_line 1 .int 3 SH [iv s] M (fun r M' => r = lnS s ∧ M' = M) := by
  refine CtI.of rfl (Nat.le_of_ble_eq_true rfl) (Or.inl rfl) (fun v as E hret => ?_)
  show Ws v as SH 0 0 0 [some (iv s)] [] M
  refine s_iload_n E dX1_line_0 rfl ?_
  refine s_bipush E dX1_line_1 rfl ?_
  refine s_icmp_ne E 9 dX1_line_3 (by decide) (by omega) (by omega) (fun h3 => ?_) (fun h3 => ?_)
  · refine s_iload_n E dX1_line_9 rfl ?_
    refine s_callSNi E (c_X7_isOneSign _ _ (by omega)) dX1_line_10 mf_X7_isOneSign ml_X1_67 rfl (Nat.le_of_ble_eq_true rfl) (Nat.le_of_ble_eq_true rfl) rfl (fun r10 M10 h10 => ?_)
    obtain ⟨e10, f10⟩ := h10; subst r10; subst M10
    refine s_ifeqB E 23 dX1_line_13 (by decide) (fun h13 => ?_) (fun h13 => ?_)
    · refine s_bipush E dX1_line_23 rfl ?_
      refine hret _ _ ?_ (fun q => by cases q) _ _ dX1_line_25
      exact ⟨by unfold lnS; (repeat' split) <;> omega, rfl⟩
    · refine s_iload_n E dX1_line_16 rfl ?_
      refine s_bipush E dX1_line_17 rfl ?_
      refine s_isub E dX1_line_19 ?_
      refine s_goto E 25 dX1_line_20 (by decide) ?_
      refine hret _ _ ?_ (fun q => by cases q) _ _ dX1_line_25
      exact ⟨by unfold lnS; (repeat' split) <;> omega, rfl⟩
  · refine s_bipush E dX1_line_6 rfl ?_
    refine hret _ _ ?_ (fun q => by cases q) _ _ dX1_line_8
    exact ⟨by unfold lnS; (repeat' split) <;> omega, rfl⟩

set_option maxRecDepth 100000 in
set_option maxHeartbeats 4000000 in
theorem c_X1_canSpeak (M : Mm) (H : Int → Int) (a k : Int) (hH : HS M a H) (ha : 0 ≤ a ∧ a ≤ 12) (hk : 0 ≤ k ∧ k ≤ 7) : CtI yX1_canSpeak cX1_canSpeak 3 .boolean 2 SH [rv 40, iv a, iv k] M (fun r M' => r = b2 (okB k H) ∧ M' = M) := by
  refine CtI.of rfl (Nat.le_of_ble_eq_true rfl) (Or.inr rfl) (fun v as E hret => ?_)
  show Ws v as SH 0 0 0 [some (rv 40), some (iv a), some (iv k)] [] M
  refine s_iload_n E dX1_canSpeak_0 rfl ?_
  refine s_callSNi E (c_X7_isOne _ _ (by omega)) dX1_canSpeak_1 mf_X7_isOne ml_X1_52 rfl (Nat.le_of_ble_eq_true rfl) (Nat.le_of_ble_eq_true rfl) rfl (fun r1 M1 h1 => ?_)
  obtain ⟨e1, f1⟩ := h1; subst r1; subst M1
  refine s_ifeqB E 27 dX1_canSpeak_4 (by decide) (fun h4 => ?_) (fun h4 => ?_)
  · refine s_iconst E dX1_canSpeak_27 ?_
    refine s_goto E 32 dX1_canSpeak_28 (by decide) ?_
    refine hret _ _ ?_ (fun _ => Or.inr rfl) _ _ dX1_canSpeak_32
    exact ⟨(b2_pos (show okB k H from Or.inl (by omega))).symm, rfl⟩
  · have hj := hH k (by omega) (by omega)
    refine s_aload_n E dX1_canSpeak_7 rfl ?_
    refine s_getR (kf := 3) E dX1_canSpeak_8 rfl inb_X1 (Nat.le_of_ble_eq_true rfl) fl_X1_22 (by decide) sh40 rfl ?_
    refine s_iload_n E dX1_canSpeak_11 rfl ?_
    refine s_iald E dX1_canSpeak_12 (by decide) sh43 (Nat.le_of_ble_eq_true rfl) (by omega) ?_
    refine s_iload_n E dX1_canSpeak_13 rfl ?_
    refine s_iadd E dX1_canSpeak_14 ?_
    refine s_iconst E dX1_canSpeak_15 ?_
    refine s_aload_n E dX1_canSpeak_16 rfl ?_
    refine s_getR (kf := 4) E dX1_canSpeak_17 rfl inb_X1 (Nat.le_of_ble_eq_true rfl) fl_X1_25 (by decide) sh40 rfl ?_
    refine s_iload_n E dX1_canSpeak_20 rfl ?_
    refine s_iald E dX1_canSpeak_21 (by decide) sh44 (Nat.le_of_ble_eq_true rfl) (by omega) ?_
    refine s_imul E dX1_canSpeak_22 ?_
    refine s_isub E dX1_canSpeak_23 ?_
    refine s_if_le E 31 dX1_canSpeak_24 (by decide) (by omega) (fun h24 => ?_) (fun h24 => ?_)
    · refine s_iconst E dX1_canSpeak_31 ?_
      refine hret _ _ ?_ (fun _ => Or.inl rfl) _ _ dX1_canSpeak_32
      exact ⟨(b2_neg (fun w => by unfold okB at w; omega)).symm, rfl⟩
    · refine s_iconst E dX1_canSpeak_27 ?_
      refine s_goto E 32 dX1_canSpeak_28 (by decide) ?_
      refine hret _ _ ?_ (fun _ => Or.inr rfl) _ _ dX1_canSpeak_32
      exact ⟨(b2_pos (show okB k H from Or.inr (by omega))).symm, rfl⟩

set_option maxRecDepth 100000 in
set_option maxHeartbeats 4000000 in
theorem c_X1_count (M : Mm) (k d : Int) (hk : 0 ≤ k ∧ k ≤ 7) : CtV yX1_count cX1_count 3 2 SH [rv 40, iv k, iv d] M (fun M' => M' = if k < 6 then upm M 44 k (M 44 k + d) else M) := by
  refine CtV.of rfl (Nat.le_of_ble_eq_true rfl) (fun v as E hret => ?_)
  show Ws v as SH 0 0 0 [some (rv 40), some (iv k), some (iv d)] [] M
  refine s_iload_n E dX1_count_0 rfl ?_
  refine s_callSNi E (c_X7_isOne _ _ (by omega)) dX1_count_1 mf_X7_isOne ml_X1_52 rfl (Nat.le_of_ble_eq_true rfl) (Nat.le_of_ble_eq_true rfl) rfl (fun r1 M1 h1 => ?_)
  obtain ⟨e1, f1⟩ := h1; subst r1; subst M1
  refine s_ifeqB E 17 dX1_count_4 (by decide) (fun h4 => ?_) (fun h4 => ?_)
  · refine hret _ ?_ _ _ dX1_count_17
    exact (if_neg (by omega)).symm
  · refine s_aload_n E dX1_count_7 rfl ?_
    refine s_getR (kf := 4) E dX1_count_8 rfl inb_X1 (Nat.le_of_ble_eq_true rfl) fl_X1_25 (by decide) sh40 rfl ?_
    refine s_iload_n E dX1_count_11 rfl ?_
    refine s_dup2 E dX1_count_12 ?_
    refine s_iald E dX1_count_13 (by decide) sh44 (Nat.le_of_ble_eq_true rfl) (by omega) ?_
    refine s_iload_n E dX1_count_14 rfl ?_
    refine s_iadd E dX1_count_15 ?_
    refine s_iast E dX1_count_16 (by decide) sh44 (Nat.le_of_ble_eq_true rfl) (by omega) ?_
    refine hret _ ?_ _ _ dX1_count_17
    exact (if_pos (by omega)).symm

set_option maxRecDepth 100000 in
set_option maxHeartbeats 4000000 in
theorem c_X1_sign (M : Mm) (j : Int) (hj : 0 ≤ j ∧ j < 12) (hf : 0 ≤ M 41 j ∧ M 41 j ≤ 6) : CtI yX1_sign cX1_sign 3 .int 2 SH [rv 40, iv j] M (fun r M' => r = (if M 41 j = 6 then 46 else 97 + M 41 j) ∧ M' = M) := by
  refine CtI.of rfl (Nat.le_of_ble_eq_true rfl) (Or.inl rfl) (fun v as E hret => ?_)
  show Ws v as SH 0 0 0 [some (rv 40), some (iv j), none] [] M
  refine s_aload_n E dX1_sign_0 rfl ?_
  refine s_getR (kf := 0) E dX1_sign_1 rfl inb_X1 (Nat.le_of_ble_eq_true rfl) fl_X1_9 (by decide) sh40 rfl ?_
  refine s_iload_n E dX1_sign_4 rfl ?_
  refine s_iald E dX1_sign_5 (by decide) sh41 (Nat.le_of_ble_eq_true rfl) (by omega) ?_
  refine s_istore_n (ls' := [_, _, _]) E dX1_sign_6 (Nat.le_of_ble_eq_true rfl) rfl ?_
  refine s_iload_n E dX1_sign_7 rfl ?_
  refine s_callSNi E (c_X7_isOne _ _ (by omega)) dX1_sign_8 mf_X7_isOne ml_X1_52 rfl (Nat.le_of_ble_eq_true rfl) (Nat.le_of_ble_eq_true rfl) rfl (fun r8 M8 h8 => ?_)
  obtain ⟨e8, f8⟩ := h8; subst r8; subst M8
  refine s_ifeqB E 21 dX1_sign_11 (by decide) (fun h11 => ?_) (fun h11 => ?_)
  · refine s_bipush E dX1_sign_21 rfl ?_
    refine hret _ _ ?_ (fun q => by cases q) _ _ dX1_sign_23
    exact ⟨(if_pos (by omega)).symm, rfl⟩
  · refine s_bipush E dX1_sign_14 rfl ?_
    refine s_iload_n E dX1_sign_16 rfl ?_
    refine s_iadd E dX1_sign_17 ?_
    refine s_goto E 23 dX1_sign_18 (by decide) ?_
    refine hret _ _ ?_ (fun q => by cases q) _ _ dX1_sign_23
    exact ⟨(if_neg (by omega)).symm, rfl⟩

def FND (p : Int → Int) (n : Int) (r : Nat) (i : Int) (H : Int → Int) (nth : Int) (M : Mm) : Prop := nth < WB p r i H ∧ ∃ c : Int, (0 ≤ c ∧ c < nq p r i) ∧ HB p r i H c = 1 ∧ sumN (HB p r i H) c.toNat = nth ∧ ∀ j, i ≤ j → j < n → M 41 j = fil p r i c j
noncomputable def TW (p : Int → Int) (r : Nat) (i : Int) (H : Int → Int) (d : Int) : Int := sumN (fun x => gW p r i H (loS (p i) + x)) d.toNat
theorem TW_step {p : Int → Int} {r : Nat} {i d : Int} {H : Int → Int} (hd : 0 ≤ d) : TW p r i H (d + 1) = TW p r i H d + gW p r i H (loS (p i) + d) := sumN_step hd
theorem TW_nn {p : Int → Int} {r : Nat} {i d : Int} {H : Int → Int} : 0 ≤ TW p r i H d := sumN_nn (fun j _ _ => gW_nn p r i H _)
theorem TW_le {p : Int → Int} {r : Nat} {i d : Int} {H : Int → Int} (hd : 0 ≤ d ∧ d ≤ wdS (p i)) : TW p r i H d ≤ WB p (r + 1) i H := by
  rw [WB_dec]
  have := sumN_mono (f := fun x => gW p r i H (loS (p i) + x)) (fun j _ => gW_nn p r i H _) (a := d.toNat) (wdS (p i) - d.toNat)
  rw [show d.toNat + (wdS (p i) - d.toNat) = wdS (p i) by omega] at this
  exact this
theorem TW_all {p : Int → Int} {r : Nat} {i : Int} {H : Int → Int} : TW p r i H (wdS (p i)) = WB p (r + 1) i H := by
  rw [WB_dec]
  unfold TW
  rw [Int.toNat_natCast]
theorem fnd_up {p : Int → Int} {n : Int} {r : Nat} {i d t nth k : Int} {H : Int → Int} {M : Mm} (hd : 0 ≤ d ∧ d < wdS (p i)) (hk : k = loS (p i) + d) (ht : t = TW p r i H d) (hok : okB k H) (hF : FND p n r (i + 1) (stepH k H) (nth - t) M) (hi : M 41 i = k) : FND p n (r + 1) i H nth M := by
  subst hk
  obtain ⟨f1, c, f2, f3, f4, f5⟩ := hF
  have q := nq_pos p r (i + 1)
  have es := TW_step (p := p) (r := r) (i := i) (H := H) hd.1
  have eg : gW p r i H (loS (p i) + d) = WB p r (i + 1) (stepH (loS (p i) + d) H) := if_pos (b2_pos hok)
  have le := TW_le (p := p) (r := r) (i := i) (H := H) (d := d + 1) (by omega)
  refine ⟨by omega, d * nq p r (i + 1) + c, ⟨?_, ?_⟩, ?_, ?_, fun j h1 h2 => ?_⟩
  · have := Int.mul_nonneg hd.1 (show (0 : Int) ≤ nq p r (i + 1) by omega)
    omega
  · have h1 : (d + 1) * (nq p r (i + 1) : Int) ≤ wdS (p i) * nq p r (i + 1) := Int.mul_le_mul_of_nonneg_right (by omega) (by omega)
    rw [Int.add_mul, Int.one_mul] at h1
    show _ < ((wdS (p i) * nq p r (i + 1) : Nat) : Int)
    rw [Int.natCast_mul]
    omega
  · rw [HB_at f2, if_pos (b2_pos hok)]
    exact f3
  · have hc := cnt_dec (p := p) (r := r) (i := i) (H := H) (b := c.toNat) (by omega) d.toNat
    rw [Int.toNat_of_nonneg hd.1, if_pos (b2_pos hok), f4] at hc
    have e2 : (d * (nq p r (i + 1) : Int) + c).toNat = d.toNat * nq p r (i + 1) + c.toNat := by
      obtain ⟨d', rfl⟩ := Int.eq_ofNat_of_zero_le hd.1
      obtain ⟨c', rfl⟩ := Int.eq_ofNat_of_zero_le f2.1
      rw [← Int.natCast_mul, ← Int.natCast_add]
      rfl
    rw [e2, hc, ht]
    show TW p r i H d + (nth - TW p r i H d) = nth
    omega
  · rw [fil_at f2]
    by_cases e : j = i
    · rw [if_pos e, e, hi]
    · rw [if_neg e, f5 j (by omega) h2]
theorem lo_hi (s : Int) : (s = 42 → loS s = 0 ∧ wdS s = 7) ∧ (s ≠ 42 → loS s = lnS s ∧ wdS s = 1) := ⟨fun h => (lnS_hole h).2, fun h => ⟨loS_ln h, if_neg h⟩⟩
theorem HS_step {M M' : Mm} {at' k : Int} {H : Int → Int} (h : HS M at' H) (hk : 0 ≤ k ∧ k ≤ 7) (h43 : M' 43 = M 43) (h44 : ∀ j, 0 ≤ j → j < 6 → M' 44 j = M 44 j + (if j = k then 1 else 0)) : HS M' (at' + 1) (stepH k H) := by
  intro j h1 h2
  have a := h j h1 h2
  have b := h44 j h1 h2
  rw [h43, b]
  unfold stepH
  split <;> omega
set_option maxRecDepth 100000 in
set_option maxHeartbeats 4000000 in
theorem lp_X1_ways {v : Ev} {as : List Nat} (p : Int → Int) (n : Int) (r : Nat) (hC : ∀ (M : Mm) (i nth : Int) (H : Int → Int), n = i + (r : Nat) → 0 ≤ i → (0 ≤ nth ∧ nth ≤ 2147483647) → (nq p (r) i : Int) ≤ 16807 → BO p n M → HS M i H → CtI yX1_ways cX1_ways 8 .int (3 + (r)) SH [rv 40, iv i, iv nth] M (fun R M' => Fr [41, 44] M M' ∧ M' 44 = M 44 ∧ (∀ j, j < i → M' 41 j = M 41 j) ∧ (0 ≤ R ∧ R ≤ WB p (r) i H) ∧ (WB p (r) i H ≤ nth → R = WB p (r) i H) ∧ (nth < WB p (r) i H → nth < R ∧ FND p n (r) i H nth M'))) (M0 : Mm) (i nth hi : Int) (H : Int → Int) (hn : n = i + (r + 1 : Nat)) (hi0 : 0 ≤ i) (hnth : 0 ≤ nth ∧ nth ≤ 2147483647) (hq : (nq p (r + 1) i : Int) ≤ 16807) (hB : BO p n M0) (hS : HS M0 i H) (hhi : hi + 1 = loS (p i) + wdS (p i)) (hlh : 0 ≤ loS (p i) ∧ hi ≤ 6 ∧ loS (p i) ≤ hi) (E : Cx v cX1_ways 8 yX1_ways.cls (3 + (r + 1))) (hret : RetI v as cX1_ways .int (fun R M' => Fr [41, 44] M0 M' ∧ M' 44 = M0 44 ∧ (∀ j, j < i → M' 41 j = M0 41 j) ∧ (0 ≤ R ∧ R ≤ WB p (r + 1) i H) ∧ (WB p (r + 1) i H ≤ nth → R = WB p (r + 1) i H) ∧ (nth < WB p (r + 1) i H → nth < R ∧ FND p n (r + 1) i H nth M'))) : ∀ (N : Nat) (M : Mm) (k t : Int) (o3 o4 : Option Vv), (hi + 1 - k).toNat < N → (loS (p i) ≤ k ∧ k ≤ hi + 1) → (0 ≤ t ∧ t ≤ TW p r i H (k - loS (p i))) → (Fr [41, 44] M0 M ∧ M 44 = M0 44 ∧ ∀ j, j < i → M 41 j = M0 41 j) → ((t = TW p r i H (k - loS (p i)) ∧ t ≤ nth) ∨ (nth < t ∧ FND p n (r + 1) i H nth M)) → Ws v as SH 0 0 55 [some (rv 40), some (iv i), some (iv nth), o3, o4, some (iv hi), some (iv t), some (iv k)] [] M := by
  intro N
  induction N with
  | zero =>
    intro M k t o3 o4 hN
    exact absurd hN (Nat.not_lt_zero _)
  | succ N ih =>
    intro M k t o3 o4 hN g0 g1 g2 g3
    have hle := TW_le (p := p) (r := r) (i := i) (H := H) (d := k - loS (p i)) (by omega)
    have hWr := WB_rng p (r + 1) i H
    refine s_iload E dX1_ways_55 rfl ?_
    refine s_iload E dX1_ways_57 rfl ?_
    refine s_icmp_gt E 122 dX1_ways_59 (by decide) (by omega) (by omega) (fun h59 => ?_) (fun h59 => ?_)
    · refine s_iload E dX1_ways_122 rfl ?_
      refine hret _ _ ?_ (fun q => by cases q) _ _ dX1_ways_124
      have hall : k - loS (p i) = wdS (p i) := by omega
      rw [hall] at g1 g3
      rw [TW_all] at g1 g3
      refine ⟨g2.1, g2.2.1, g2.2.2, g1, fun h => ?_, fun h => ?_⟩
      · rcases g3 with w | w
        · exact w.1
        · have := w.2.1; omega
      · rcases g3 with w | w
        · omega
        · exact w
    · refine s_iload E dX1_ways_62 rfl ?_
      refine s_iload_n E dX1_ways_64 rfl ?_
      refine s_icmp_gt E 122 dX1_ways_65 (by decide) (by omega) (by omega) (fun h65 => ?_) (fun h65 => ?_)
      · refine s_iload E dX1_ways_122 rfl ?_
        refine hret _ _ ?_ (fun q => by cases q) _ _ dX1_ways_124
        refine ⟨g2.1, g2.2.1, g2.2.2, by omega, fun h => ?_, fun h => ?_⟩
        · rcases g3 with w | w
          · omega
          · have := w.2.1; omega
        · rcases g3 with w | w
          · omega
          · exact w
      · have hS1 : HS M i H := by
          unfold HS
          rw [g2.1 43 (by decide), g2.2.1]
          exact hS
        have hB1 : BO p n M := hB.fr g2.1 (by decide) (by decide) (by decide)
        have h12 := hB.2.1
        have hst := TW_step (p := p) (r := r) (i := i) (H := H) (d := k - loS (p i)) (by omega)
        rw [show loS (p i) + (k - loS (p i)) = k by omega] at hst
        have ht3 : t = TW p r i H (k - loS (p i)) := by omega
        refine s_aload_n E dX1_ways_68 rfl ?_
        refine s_iload_n E dX1_ways_69 rfl ?_
        refine s_iload E dX1_ways_70 rfl ?_
        refine s_callVi E (c_X1_canSpeak M H i k hS1 (by omega) (by omega)) dX1_ways_72 mf_X1_canSpeak ml_X1_56 rfl (by omega) (Nat.le_of_ble_eq_true rfl) (by decide) sh40 rfl rfl (fun r72 M72 h72 => ?_)
        obtain ⟨e72, f72⟩ := h72; subst r72; subst M72
        refine s_ifeqB E 116 dX1_ways_75 (by decide) (fun h75 => ?_) (fun h75 => ?_)
        · refine s_iinc (ls' := [_, _, _, _, _, _, _, _]) E dX1_ways_116 rfl rfl ?_
          refine s_goto E 55 dX1_ways_119 (by decide) ?_
          have hg : gW p r i H k = 0 := if_neg (by rw [b2_neg h75]; decide)
          refine ih _ _ _ _ _ (by omega) (by omega) ?_ g2 ?_
          · rw [show k + 1 - loS (p i) = k - loS (p i) + 1 by omega]; omega
          · rw [show k + 1 - loS (p i) = k - loS (p i) + 1 by omega]; exact Or.inl ⟨by omega, by omega⟩
        · refine s_aload_n E dX1_ways_78 rfl ?_
          refine s_getR (kf := 0) E dX1_ways_79 rfl inb_X1 (Nat.le_of_ble_eq_true rfl) fl_X1_9 (by decide) sh40 rfl ?_
          refine s_iload_n E dX1_ways_82 rfl ?_
          refine s_iload E dX1_ways_83 rfl ?_
          refine s_iast E dX1_ways_85 (by decide) sh41 (Nat.le_of_ble_eq_true rfl) (by omega) ?_
          refine s_aload_n E dX1_ways_86 rfl ?_
          refine s_iload E dX1_ways_87 rfl ?_
          refine s_iconst E dX1_ways_89 ?_
          refine s_callVv E (c_X1_count _ k 1 (by omega)) dX1_ways_90 mf_X1_count ml_X1_60 rfl (by omega) (Nat.le_of_ble_eq_true rfl) (by decide) sh40 rfl rfl (fun M90 h90 => ?_)
          have e44 : ∀ j, M90 44 j = M 44 j + (if j = k ∧ k < 6 then 1 else 0) := by
            intro j
            rw [h90]
            split
            · by_cases e : j = k
              · rw [e, upm_eq, upm_row (by decide), if_pos ⟨rfl, by omega⟩]
              · rw [upm_ne (Or.inr e), upm_row (by decide), if_neg (fun w => e w.1)]; omega
            · rw [upm_row (by decide), if_neg (fun w => by omega)]; omega
          have f90 : Fr [41, 44] M M90 := by
            rw [h90]
            split
            · exact ((Fr.rf _ M).up (by decide)).up (by decide)
            · exact (Fr.rf _ M).up (by decide)
          have e41 : ∀ j, M90 41 j = if j = i then k else M 41 j := by
            intro j
            have : M90 41 = (upm M 41 i k) 41 := by
              rw [h90]
              split
              · exact upm_row (by decide)
              · rfl
            rw [this]
            by_cases e : j = i
            · rw [e, upm_eq, if_pos rfl]
            · rw [upm_ne (Or.inr e), if_neg e]
          clear h90
          have hB2 : BO p n M90 := hB1.fr f90 (by decide) (by decide) (by decide)
          have hS2 : HS M90 (i + 1) (stepH k H) := HS_step hS1 (by omega) (f90 43 (by decide)) (fun j h1 h2 => by
            rw [e44 j]
            by_cases e : j = k
            · rw [if_pos ⟨e, by omega⟩, if_pos e]
            · rw [if_neg (fun w => e w.1), if_neg e])
          have hqq : (nq p r (i + 1) : Int) ≤ 16807 := by
            have : nq p (r + 1) i = wdS (p i) * nq p r (i + 1) := rfl
            rcases Classical.em (p i = 42) with w | w
            · rw [nq_hole w] at hq; omega
            · rw [nq_line w] at hq; exact hq
          refine s_iload E dX1_ways_93 rfl ?_
          refine s_aload_n E dX1_ways_95 rfl ?_
          refine s_iload_n E dX1_ways_96 rfl ?_
          refine s_iconst E dX1_ways_97 ?_
          refine s_iadd E dX1_ways_98 ?_
          refine s_iload_n E dX1_ways_99 rfl ?_
          refine s_iload E dX1_ways_100 rfl ?_
          refine s_isub E dX1_ways_102 ?_
          refine s_callSi E (hC M90 (i + 1) (nth - t) (stepH k H) (by omega) (by omega) (by omega) (by omega) hB2 hS2) dX1_ways_103 mf_X1_ways ml_X1_63 rfl (by omega) (Nat.le_of_ble_eq_true rfl) rfl (fun r103 M103 h103 => ?_)
          obtain ⟨a103, b103, c103, d103, e103, f103⟩ := h103
          refine s_iadd E dX1_ways_106 ?_
          refine s_istore (ls' := [_, _, _, _, _, _, _, _]) E dX1_ways_107 (Nat.le_of_ble_eq_true rfl) rfl ?_
          refine s_aload_n E dX1_ways_109 rfl ?_
          refine s_iload E dX1_ways_110 rfl ?_
          refine s_iconst E dX1_ways_112 ?_
          refine s_callVv E (c_X1_count _ k (-1) (by omega)) dX1_ways_113 mf_X1_count ml_X1_60 rfl (by omega) (Nat.le_of_ble_eq_true rfl) (by decide) sh40 rfl rfl (fun M113 h113 => ?_)
          have e44' : M113 44 = M0 44 := by
            funext j
            rw [← g2.2.1, h113, b103]
            split
            · by_cases e : j = k
              · rw [e, upm_eq, e44 k, if_pos ⟨rfl, by omega⟩]; omega
              · rw [upm_ne (Or.inr e), b103, e44 j, if_neg (fun w => e w.1)]; omega
            · rw [b103, e44 j, if_neg (fun w => by omega)]; omega
          have f113 : Fr [41, 44] M103 M113 := by
            rw [h113]
            split
            · exact (Fr.rf _ _).up (by decide)
            · exact Fr.rf _ _
          have r41 : M113 41 = M103 41 := by
            rw [h113]
            split
            · exact upm_row (by decide)
            · rfl
          clear h113
          have hok : okB k H := by first | exact h75 | exact Classical.byContradiction h75
          have hg : gW p r i H k = WB p r (i + 1) (stepH k H) := if_pos (b2_pos hok)
          refine s_iinc (ls' := [_, _, _, _, _, _, _, _]) E dX1_ways_116 rfl rfl ?_
          refine s_goto E 55 dX1_ways_119 (by decide) ?_
          refine ih _ _ _ _ _ (by omega) (by omega) ?_ ⟨((g2.1.tr f90).tr a103).tr f113, e44', fun j hj => ?_⟩ ?_
          · rw [show k + 1 - loS (p i) = k - loS (p i) + 1 by omega]; omega
          · rw [r41, c103 j (by omega), e41 j, if_neg (by omega)]; exact g2.2.2 j hj
          · rw [show k + 1 - loS (p i) = k - loS (p i) + 1 by omega]
            by_cases hw : WB p r (i + 1) (stepH k H) ≤ nth - t
            · have := e103 hw
              exact Or.inl ⟨by omega, by omega⟩
            · have hf := f103 (by omega)
              refine Or.inr ⟨by omega, fnd_up (d := k - loS (p i)) (k := k) (t := t) (by omega) (by omega) ht3 hok ?_ ?_⟩
              · obtain ⟨q1, c, q2, q3, q4, q5⟩ := hf.2
                exact ⟨q1, c, q2, q3, q4, fun j h1 h2 => by rw [r41]; exact q5 j h1 h2⟩
              · rw [r41, c103 i (by omega), e41 i, if_pos rfl]

set_option maxRecDepth 100000 in
set_option maxHeartbeats 4000000 in
theorem c_X1_ways (p : Int → Int) (n : Int) : ∀ (r : Nat), ∀ (M : Mm) (i nth : Int) (H : Int → Int), n = i + (r : Nat) → 0 ≤ i → (0 ≤ nth ∧ nth ≤ 2147483647) → (nq p (r) i : Int) ≤ 16807 → BO p n M → HS M i H → CtI yX1_ways cX1_ways 8 .int (3 + (r)) SH [rv 40, iv i, iv nth] M (fun R M' => Fr [41, 44] M M' ∧ M' 44 = M 44 ∧ (∀ j, j < i → M' 41 j = M 41 j) ∧ (0 ≤ R ∧ R ≤ WB p (r) i H) ∧ (WB p (r) i H ≤ nth → R = WB p (r) i H) ∧ (nth < WB p (r) i H → nth < R ∧ FND p n (r) i H nth M')) := by
  intro r
  induction r with
  | zero =>
    intro M i nth H hn hi0 hnth hq hB hS
    refine CtI.of rfl (Nat.le_of_ble_eq_true rfl) (Or.inl rfl) (fun v as E hret => ?_)
    show Ws v as SH 0 0 0 [some (rv 40), some (iv i), some (iv nth), none, none, none, none, none] [] M
    have h12 := hB.2.1
    refine s_iload_n E dX1_ways_0 rfl ?_
    refine s_if_lt E 12 dX1_ways_1 (by decide) (by omega) (fun h1 => ?_) (fun h1 => ?_)
    · refine s_iconst E dX1_ways_12 ?_
      refine hret _ _ ?_ (fun q => by cases q) _ _ dX1_ways_13
      exact ⟨Fr.rf _ M, rfl, fun _ _ => rfl, ⟨Int.zero_le_ofNat 1, (show (1 : Int) ≤ 0 + 1 by decide)⟩, fun _ => rfl, fun h => ⟨h, h, 0, ⟨Int.le_refl _, (show (0 : Int) < ((1 : Nat) : Int) by decide)⟩, rfl, (show (0 : Int) = nth by have : nth < 1 := h; omega), fun j h1 h2 => by omega⟩⟩
    · refine s_iload_n E dX1_ways_4 rfl ?_
      refine s_aload_n E dX1_ways_5 rfl ?_
      refine s_getI (kf := 1) E 1 rfl dX1_ways_6 rfl inb_X1 (Nat.le_of_ble_eq_true rfl) fl_X1_15 (by decide) sh40 rfl ?_
      rw [hB.1]
      refine s_icmp_lt E 14 dX1_ways_9 (by decide) (by omega) (by omega) (fun h9 => ?_) (fun h9 => ?_)
      · refine s_aload_n E dX1_ways_14 rfl ?_
        refine s_getR (kf := 2) E dX1_ways_15 rfl inb_X1 (Nat.le_of_ble_eq_true rfl) fl_X1_19 (by decide) sh40 rfl ?_
        refine s_iload_n E dX1_ways_18 rfl ?_
        refine s_iald E dX1_ways_19 (by decide) sh42 (Nat.le_of_ble_eq_true rfl) (by omega) ?_
        refine s_istore_n (ls' := [_, _, _, _, _, _, _, _]) E dX1_ways_20 (Nat.le_of_ble_eq_true rfl) rfl ?_
        refine s_iload_n E dX1_ways_21 rfl ?_
        refine s_bipush E dX1_ways_22 rfl ?_
        refine s_icmp_ne E 31 dX1_ways_24 (by decide) (by omega) (by omega) (fun h24 => ?_) (fun h24 => ?_)
        · refine s_iload_n E dX1_ways_31 rfl ?_
          refine s_istore (ls' := [_, _, _, _, _, _, _, _]) E dX1_ways_32 (Nat.le_of_ble_eq_true rfl) rfl ?_
          refine s_iload_n E dX1_ways_34 rfl ?_
          refine s_bipush E dX1_ways_35 rfl ?_
          refine s_icmp_ne E 45 dX1_ways_37 (by decide) (by omega) (by omega) (fun h37 => ?_) (fun h37 => ?_)
          · refine s_iload_n E dX1_ways_45 rfl ?_
            refine s_istore (ls' := [_, _, _, _, _, _, _, _]) E dX1_ways_46 (Nat.le_of_ble_eq_true rfl) rfl ?_
            refine s_iconst E dX1_ways_48 ?_
            refine s_istore (ls' := [_, _, _, _, _, _, _, _]) E dX1_ways_49 (Nat.le_of_ble_eq_true rfl) rfl ?_
            refine s_iload E dX1_ways_51 rfl ?_
            refine s_istore (ls' := [_, _, _, _, _, _, _, _]) E dX1_ways_53 (Nat.le_of_ble_eq_true rfl) rfl ?_
            exfalso; omega
          · refine s_bipush E dX1_ways_40 rfl ?_
            refine s_goto E 46 dX1_ways_42 (by decide) ?_
            refine s_istore (ls' := [_, _, _, _, _, _, _, _]) E dX1_ways_46 (Nat.le_of_ble_eq_true rfl) rfl ?_
            refine s_iconst E dX1_ways_48 ?_
            refine s_istore (ls' := [_, _, _, _, _, _, _, _]) E dX1_ways_49 (Nat.le_of_ble_eq_true rfl) rfl ?_
            refine s_iload E dX1_ways_51 rfl ?_
            refine s_istore (ls' := [_, _, _, _, _, _, _, _]) E dX1_ways_53 (Nat.le_of_ble_eq_true rfl) rfl ?_
            exfalso; omega
        · refine s_iconst E dX1_ways_27 ?_
          refine s_goto E 32 dX1_ways_28 (by decide) ?_
          refine s_istore (ls' := [_, _, _, _, _, _, _, _]) E dX1_ways_32 (Nat.le_of_ble_eq_true rfl) rfl ?_
          refine s_iload_n E dX1_ways_34 rfl ?_
          refine s_bipush E dX1_ways_35 rfl ?_
          refine s_icmp_ne E 45 dX1_ways_37 (by decide) (by omega) (by omega) (fun h37 => ?_) (fun h37 => ?_)
          · refine s_iload_n E dX1_ways_45 rfl ?_
            refine s_istore (ls' := [_, _, _, _, _, _, _, _]) E dX1_ways_46 (Nat.le_of_ble_eq_true rfl) rfl ?_
            refine s_iconst E dX1_ways_48 ?_
            refine s_istore (ls' := [_, _, _, _, _, _, _, _]) E dX1_ways_49 (Nat.le_of_ble_eq_true rfl) rfl ?_
            refine s_iload E dX1_ways_51 rfl ?_
            refine s_istore (ls' := [_, _, _, _, _, _, _, _]) E dX1_ways_53 (Nat.le_of_ble_eq_true rfl) rfl ?_
            exfalso; omega
          · refine s_bipush E dX1_ways_40 rfl ?_
            refine s_goto E 46 dX1_ways_42 (by decide) ?_
            refine s_istore (ls' := [_, _, _, _, _, _, _, _]) E dX1_ways_46 (Nat.le_of_ble_eq_true rfl) rfl ?_
            refine s_iconst E dX1_ways_48 ?_
            refine s_istore (ls' := [_, _, _, _, _, _, _, _]) E dX1_ways_49 (Nat.le_of_ble_eq_true rfl) rfl ?_
            refine s_iload E dX1_ways_51 rfl ?_
            refine s_istore (ls' := [_, _, _, _, _, _, _, _]) E dX1_ways_53 (Nat.le_of_ble_eq_true rfl) rfl ?_
            exfalso; omega
      · refine s_iconst E dX1_ways_12 ?_
        refine hret _ _ ?_ (fun q => by cases q) _ _ dX1_ways_13
        exact ⟨Fr.rf _ M, rfl, fun _ _ => rfl, ⟨Int.zero_le_ofNat 1, (show (1 : Int) ≤ 0 + 1 by decide)⟩, fun _ => rfl, fun h => ⟨h, h, 0, ⟨Int.le_refl _, (show (0 : Int) < ((1 : Nat) : Int) by decide)⟩, rfl, (show (0 : Int) = nth by have : nth < 1 := h; omega), fun j h1 h2 => by omega⟩⟩
  | succ r ihr =>
    intro M i nth H hn hi0 hnth hq hB hS
    refine CtI.of rfl (Nat.le_of_ble_eq_true rfl) (Or.inl rfl) (fun v as E hret => ?_)
    show Ws v as SH 0 0 0 [some (rv 40), some (iv i), some (iv nth), none, none, none, none, none] [] M
    have h12 := hB.2.1
    refine s_iload_n E dX1_ways_0 rfl ?_
    refine s_if_lt E 12 dX1_ways_1 (by decide) (by omega) (fun h1 => ?_) (fun h1 => ?_)
    · refine s_iconst E dX1_ways_12 ?_
      refine hret _ _ ?_ (fun q => by cases q) _ _ dX1_ways_13
      exfalso; omega
    · refine s_iload_n E dX1_ways_4 rfl ?_
      refine s_aload_n E dX1_ways_5 rfl ?_
      refine s_getI (kf := 1) E 1 rfl dX1_ways_6 rfl inb_X1 (Nat.le_of_ble_eq_true rfl) fl_X1_15 (by decide) sh40 rfl ?_
      rw [hB.1]
      refine s_icmp_lt E 14 dX1_ways_9 (by decide) (by omega) (by omega) (fun h9 => ?_) (fun h9 => ?_)
      · refine s_aload_n E dX1_ways_14 rfl ?_
        refine s_getR (kf := 2) E dX1_ways_15 rfl inb_X1 (Nat.le_of_ble_eq_true rfl) fl_X1_19 (by decide) sh40 rfl ?_
        refine s_iload_n E dX1_ways_18 rfl ?_
        refine s_iald E dX1_ways_19 (by decide) sh42 (Nat.le_of_ble_eq_true rfl) (by omega) ?_
        rw [hB.2.2.1 i (by omega) (by omega)]
        have hlh := lo_hi (p i)
        have h7 := lnS7 (p i)
        have hx42 : lnS (p i) = 7 ↔ p i = 42 := ⟨fun w => Classical.byContradiction (fun q => by have := lnS_rng q; omega), fun w => (lnS_hole w).1⟩
        refine s_istore_n (ls' := [_, _, _, _, _, _, _, _]) E dX1_ways_20 (Nat.le_of_ble_eq_true rfl) rfl ?_
        refine s_iload_n E dX1_ways_21 rfl ?_
        refine s_bipush E dX1_ways_22 rfl ?_
        refine s_icmp_ne E 31 dX1_ways_24 (by decide) (by omega) (by omega) (fun h24 => ?_) (fun h24 => ?_)
        · refine s_iload_n E dX1_ways_31 rfl ?_
          refine s_istore (ls' := [_, _, _, _, _, _, _, _]) E dX1_ways_32 (Nat.le_of_ble_eq_true rfl) rfl ?_
          refine s_iload_n E dX1_ways_34 rfl ?_
          refine s_bipush E dX1_ways_35 rfl ?_
          refine s_icmp_ne E 45 dX1_ways_37 (by decide) (by omega) (by omega) (fun h37 => ?_) (fun h37 => ?_)
          · refine s_iload_n E dX1_ways_45 rfl ?_
            refine s_istore (ls' := [_, _, _, _, _, _, _, _]) E dX1_ways_46 (Nat.le_of_ble_eq_true rfl) rfl ?_
            refine s_iconst E dX1_ways_48 ?_
            refine s_istore (ls' := [_, _, _, _, _, _, _, _]) E dX1_ways_49 (Nat.le_of_ble_eq_true rfl) rfl ?_
            refine s_iload E dX1_ways_51 rfl ?_
            refine s_istore (ls' := [_, _, _, _, _, _, _, _]) E dX1_ways_53 (Nat.le_of_ble_eq_true rfl) rfl ?_
            exact lp_X1_ways p n r ihr M i nth _ H (by omega) hi0 hnth hq hB hS (by have := hlh.2 (fun w => by omega); omega) (by have := hlh.2 (fun w => by omega); omega) E hret 8 M _ 0 _ _ (by omega) (by have := hlh.2 (fun w => by omega); omega) (by rw [show lnS (p i) - loS (p i) = 0 by have := hlh.2 (fun w => by omega); omega]; exact ⟨Int.le_refl _, Int.le_refl _⟩) ⟨Fr.rf _ _, rfl, fun _ _ => rfl⟩ (Or.inl ⟨by rw [show lnS (p i) - loS (p i) = 0 by have := hlh.2 (fun w => by omega); omega]; rfl, hnth.1⟩)
          · refine s_bipush E dX1_ways_40 rfl ?_
            refine s_goto E 46 dX1_ways_42 (by decide) ?_
            refine s_istore (ls' := [_, _, _, _, _, _, _, _]) E dX1_ways_46 (Nat.le_of_ble_eq_true rfl) rfl ?_
            refine s_iconst E dX1_ways_48 ?_
            refine s_istore (ls' := [_, _, _, _, _, _, _, _]) E dX1_ways_49 (Nat.le_of_ble_eq_true rfl) rfl ?_
            refine s_iload E dX1_ways_51 rfl ?_
            refine s_istore (ls' := [_, _, _, _, _, _, _, _]) E dX1_ways_53 (Nat.le_of_ble_eq_true rfl) rfl ?_
            exact lp_X1_ways p n r ihr M i nth _ H (by omega) hi0 hnth hq hB hS (by have := hlh.2 (fun w => by omega); omega) (by have := hlh.2 (fun w => by omega); omega) E hret 8 M _ 0 _ _ (by omega) (by have := hlh.2 (fun w => by omega); omega) (by rw [show lnS (p i) - loS (p i) = 0 by have := hlh.2 (fun w => by omega); omega]; exact ⟨Int.le_refl _, Int.le_refl _⟩) ⟨Fr.rf _ _, rfl, fun _ _ => rfl⟩ (Or.inl ⟨by rw [show lnS (p i) - loS (p i) = 0 by have := hlh.2 (fun w => by omega); omega]; rfl, hnth.1⟩)
        · refine s_iconst E dX1_ways_27 ?_
          refine s_goto E 32 dX1_ways_28 (by decide) ?_
          refine s_istore (ls' := [_, _, _, _, _, _, _, _]) E dX1_ways_32 (Nat.le_of_ble_eq_true rfl) rfl ?_
          refine s_iload_n E dX1_ways_34 rfl ?_
          refine s_bipush E dX1_ways_35 rfl ?_
          refine s_icmp_ne E 45 dX1_ways_37 (by decide) (by omega) (by omega) (fun h37 => ?_) (fun h37 => ?_)
          · refine s_iload_n E dX1_ways_45 rfl ?_
            refine s_istore (ls' := [_, _, _, _, _, _, _, _]) E dX1_ways_46 (Nat.le_of_ble_eq_true rfl) rfl ?_
            refine s_iconst E dX1_ways_48 ?_
            refine s_istore (ls' := [_, _, _, _, _, _, _, _]) E dX1_ways_49 (Nat.le_of_ble_eq_true rfl) rfl ?_
            refine s_iload E dX1_ways_51 rfl ?_
            refine s_istore (ls' := [_, _, _, _, _, _, _, _]) E dX1_ways_53 (Nat.le_of_ble_eq_true rfl) rfl ?_
            exact lp_X1_ways p n r ihr M i nth _ H (by omega) hi0 hnth hq hB hS (by have := hlh.1 (by omega); omega) (by have := hlh.1 (by omega); omega) E hret 8 M _ 0 _ _ (by omega) (by have := hlh.1 (by omega); omega) (by rw [show 0 - loS (p i) = 0 by have := hlh.1 (by omega); omega]; exact ⟨Int.le_refl _, Int.le_refl _⟩) ⟨Fr.rf _ _, rfl, fun _ _ => rfl⟩ (Or.inl ⟨by rw [show 0 - loS (p i) = 0 by have := hlh.1 (by omega); omega]; rfl, hnth.1⟩)
          · refine s_bipush E dX1_ways_40 rfl ?_
            refine s_goto E 46 dX1_ways_42 (by decide) ?_
            refine s_istore (ls' := [_, _, _, _, _, _, _, _]) E dX1_ways_46 (Nat.le_of_ble_eq_true rfl) rfl ?_
            refine s_iconst E dX1_ways_48 ?_
            refine s_istore (ls' := [_, _, _, _, _, _, _, _]) E dX1_ways_49 (Nat.le_of_ble_eq_true rfl) rfl ?_
            refine s_iload E dX1_ways_51 rfl ?_
            refine s_istore (ls' := [_, _, _, _, _, _, _, _]) E dX1_ways_53 (Nat.le_of_ble_eq_true rfl) rfl ?_
            exact lp_X1_ways p n r ihr M i nth _ H (by omega) hi0 hnth hq hB hS (by have := hlh.1 (by omega); omega) (by have := hlh.1 (by omega); omega) E hret 8 M _ 0 _ _ (by omega) (by have := hlh.1 (by omega); omega) (by rw [show 0 - loS (p i) = 0 by have := hlh.1 (by omega); omega]; exact ⟨Int.le_refl _, Int.le_refl _⟩) ⟨Fr.rf _ _, rfl, fun _ _ => rfl⟩ (Or.inl ⟨by rw [show 0 - loS (p i) = 0 by have := hlh.1 (by omega); omega]; rfl, hnth.1⟩)
      · refine s_iconst E dX1_ways_12 ?_
        refine hret _ _ ?_ (fun q => by cases q) _ _ dX1_ways_13
        exfalso; omega

set_option maxRecDepth 100000 in
set_option maxHeartbeats 4000000 in
theorem lp_X1_op2 {v : Ev} {as : List Nat} (M0 : Mm) (hp : PadOK (M0 21) (M0 20 1)) (E : Cx v cX1_open 4 yX1_open.cls 4) (hret : RetV v as cX1_open (fun M' => Fr [40, 42, 43, 44] M0 M' ∧ M' 40 1 = min (M0 20 1) 12 ∧ (∀ j, 0 ≤ j → j < min (M0 20 1) 12 → M' 42 j = lnS (M0 21 j)) ∧ ∀ j, 0 ≤ j → j < 6 → M' 43 j = M0 3 j ∧ M' 44 j = 0)) : ∀ (N : Nat) (M : Mm) (j : Int), (6 - j).toNat < N → (0 ≤ j ∧ j ≤ 6) → (Fr [40, 42, 43, 44] M0 M) → (M 40 1 = min (M0 20 1) 12) → (∀ j, 0 ≤ j → j < min (M0 20 1) 12 → M 42 j = lnS (M0 21 j)) → (∀ q, 0 ≤ q → q < 6 → M 43 q = M0 3 q) → (∀ q, 0 ≤ q → q < j → M 44 q = 0) → Ws v as SH 0 0 57 [some (rv 40), some (rv 20), some (rv 3), some (iv j)] [] M := by
  intro N
  induction N with
  | zero =>
    intro M j hN
    exact absurd hN (Nat.not_lt_zero _)
  | succ N ih =>
    intro M j hN g0 g1 g2 g3 g4 g5
    refine s_iload_n E dX1_open_57 rfl ?_
    refine s_bipush E dX1_open_58 rfl ?_
    refine s_icmp_ge E 76 dX1_open_60 (by decide) (by omega) (by omega) (fun h60 => ?_) (fun h60 => ?_)
    · refine hret _ ?_ _ _ dX1_open_76
      exact ⟨g1, g2, g3, fun q h1 h2 => ⟨g4 q h1 h2, g5 q h1 (by omega)⟩⟩
    · refine s_aload_n E dX1_open_63 rfl ?_
      refine s_getR (kf := 4) E dX1_open_64 rfl inb_X1 (Nat.le_of_ble_eq_true rfl) fl_X1_25 (by decide) sh40 rfl ?_
      refine s_iload_n E dX1_open_67 rfl ?_
      refine s_iconst E dX1_open_68 ?_
      refine s_iast E dX1_open_69 (by decide) sh44 (Nat.le_of_ble_eq_true rfl) (by omega) ?_
      refine s_iinc (ls' := [_, _, _, _]) E dX1_open_70 rfl rfl ?_
      refine s_goto E 57 dX1_open_73 (by decide) ?_
      refine ih _ _ (by omega) (by omega) (g1.up (by decide)) (by rw [upm_row (by decide)]; exact g2) (fun q h1 h2 => by rw [upm_row (by decide)]; exact g3 q h1 h2) (fun q h1 h2 => by rw [upm_row (by decide)]; exact g4 q h1 h2) (fun q h1 h2 => ?_)
      by_cases e : q = j
      · rw [e, upm_eq]
      · rw [upm_ne (Or.inr e)]; exact g5 q h1 (by omega)

set_option maxRecDepth 100000 in
set_option maxHeartbeats 4000000 in
theorem lp_X1_op1 {v : Ev} {as : List Nat} (M0 : Mm) (hp : PadOK (M0 21) (M0 20 1)) (E : Cx v cX1_open 4 yX1_open.cls 4) (hret : RetV v as cX1_open (fun M' => Fr [40, 42, 43, 44] M0 M' ∧ M' 40 1 = min (M0 20 1) 12 ∧ (∀ j, 0 ≤ j → j < min (M0 20 1) 12 → M' 42 j = lnS (M0 21 j)) ∧ ∀ j, 0 ≤ j → j < 6 → M' 43 j = M0 3 j ∧ M' 44 j = 0)) : ∀ (N : Nat) (M : Mm) (j : Int), (min (M0 20 1) 12 - j).toNat < N → (0 ≤ j ∧ j ≤ min (M0 20 1) 12) → (Fr [40, 42, 43, 44] M0 M) → (M 40 1 = min (M0 20 1) 12) → (∀ q, 0 ≤ q → q < j → M 42 q = lnS (M0 21 q)) → Ws v as SH 0 0 15 [some (rv 40), some (rv 20), some (rv 3), some (iv j)] [] M := by
  intro N
  induction N with
  | zero =>
    intro M j hN
    exact absurd hN (Nat.not_lt_zero _)
  | succ N ih =>
    intro M j hN g0 g1 g2 g3
    have hp0 := hp.1; have hp1 := hp.2.1
    refine s_iload_n E dX1_open_15 rfl ?_
    refine s_aload_n E dX1_open_16 rfl ?_
    refine s_getI (kf := 1) E 1 rfl dX1_open_17 rfl inb_X1 (Nat.le_of_ble_eq_true rfl) fl_X1_15 (by decide) sh40 rfl ?_
    rw [g2]
    refine s_icmp_ge E 43 dX1_open_20 (by decide) (by omega) (by omega) (fun h20 => ?_) (fun h20 => ?_)
    · refine s_aload_n E dX1_open_43 rfl ?_
      refine s_iconst E dX1_open_44 ?_
      refine s_aload_n E dX1_open_45 rfl ?_
      refine s_getR (kf := 3) E dX1_open_46 rfl inb_X1 (Nat.le_of_ble_eq_true rfl) fl_X1_22 (by decide) sh40 rfl ?_
      refine s_iconst E dX1_open_49 ?_
      refine s_bipush E dX1_open_50 rfl ?_
      refine s_copy E dX1_open_52 ml_X1_46 mw_copy (Nat.le_of_ble_eq_true rfl) (Nat.le_of_ble_eq_true rfl) (by decide) (by decide) sh3 sh43 (by decide) ?_
      refine s_iconst E dX1_open_55 ?_
      refine s_istore_n (ls' := [_, _, _, _]) E dX1_open_56 (Nat.le_of_ble_eq_true rfl) rfl ?_
      have e : j = min (M0 20 1) 12 := by omega
      refine lp_X1_op2 M0 hp E hret 7 _ 0 (by decide) (by decide) (fun a h => ?_) ?_ (fun q h1 h2 => ?_) (fun q h1 h2 => ?_) (fun q h1 h2 => by omega)
      · rw [cp0_row (fun w => h (by rw [w]; decide))]; exact g1 a h
      · rw [cp0_row (by decide)]; exact g2
      · rw [cp0_row (by decide)]; exact g3 q h1 (by omega)
      · rw [cp0_in (by omega), g1 3 (by decide)]
    · have hpj := hp.2.2 j (by omega) (by omega)
      refine s_aload_n E dX1_open_23 rfl ?_
      refine s_getR (kf := 2) E dX1_open_24 rfl inb_X1 (Nat.le_of_ble_eq_true rfl) fl_X1_19 (by decide) sh40 rfl ?_
      refine s_iload_n E dX1_open_27 rfl ?_
      refine s_aload_n E dX1_open_28 rfl ?_
      refine s_iload_n E dX1_open_29 rfl ?_
      refine s_callVi E (c_X5_sign M j (by omega) (by rw [g1 20 (by decide)]; omega)) dX1_open_30 mf_X5_sign ml_X1_39 rfl (Nat.le_of_ble_eq_true rfl) (Nat.le_of_ble_eq_true rfl) (by decide) sh20 rfl rfl (fun r30 M30 h30 => ?_)
      obtain ⟨e30, f30⟩ := h30; subst r30; subst M30
      rw [show sgn M j = M0 21 j by rw [sgn_in (by rw [g1 20 (by decide)]; omega), g1 21 (by decide)]]
      refine s_callSi E (c_X1_line _ _ (by omega)) dX1_open_33 mf_X1_line ml_X1_43 rfl (Nat.le_of_ble_eq_true rfl) (Nat.le_of_ble_eq_true rfl) rfl (fun r33 M33 h33 => ?_)
      obtain ⟨e33, f33⟩ := h33; subst r33; subst M33
      refine s_iast E dX1_open_36 (by decide) sh42 (Nat.le_of_ble_eq_true rfl) (by omega) ?_
      refine s_iinc (ls' := [_, _, _, _]) E dX1_open_37 rfl rfl ?_
      refine s_goto E 15 dX1_open_40 (by decide) ?_
      refine ih _ _ (by omega) (by omega) (g1.up (by decide)) (by rw [upm_row (by decide)]; exact g2) (fun q h1 h2 => ?_)
      by_cases e : q = j
      · rw [e, upm_eq]
      · rw [upm_ne (Or.inr e)]; exact g3 q h1 (by omega)

set_option maxRecDepth 100000 in
set_option maxHeartbeats 4000000 in
theorem c_X1_open (M0 : Mm) (hp : PadOK (M0 21) (M0 20 1)) : CtV yX1_open cX1_open 4 4 SH [rv 40, rv 20, rv 3] M0 (fun M' => Fr [40, 42, 43, 44] M0 M' ∧ M' 40 1 = min (M0 20 1) 12 ∧ (∀ j, 0 ≤ j → j < min (M0 20 1) 12 → M' 42 j = lnS (M0 21 j)) ∧ ∀ j, 0 ≤ j → j < 6 → M' 43 j = M0 3 j ∧ M' 44 j = 0) := by
  refine CtV.of rfl (Nat.le_of_ble_eq_true rfl) (fun v as E hret => ?_)
  show Ws v as SH 0 0 0 [some (rv 40), some (rv 20), some (rv 3), none] [] M0
  have hp0 := hp.1; have hp1 := hp.2.1
  refine s_aload_n E dX1_open_0 rfl ?_
  refine s_aload_n E dX1_open_1 rfl ?_
  refine s_getI (kf := 1) E 1 rfl dX1_open_2 rfl inb_X5 (Nat.le_of_ble_eq_true rfl) fl_X1_28 (by decide) sh20 rfl ?_
  refine s_bipush E dX1_open_5 rfl ?_
  refine s_mmin E dX1_open_7 ml_X1_33 mw_min (Nat.le_of_ble_eq_true rfl) (Nat.le_of_ble_eq_true rfl) (by omega) (by omega) ?_
  refine s_putI (kf := 1) E 1 rfl dX1_open_10 rfl inb_X1 tyX1_ok nmX1 (Nat.le_of_ble_eq_true rfl) ⟨rfl, rfl⟩ fl_X1_15 (by decide) sh40 rfl ?_
  refine s_iconst E dX1_open_13 ?_
  refine s_istore_n (ls' := [_, _, _, _]) E dX1_open_14 (Nat.le_of_ble_eq_true rfl) rfl ?_
  exact lp_X1_op1 M0 hp E hret 13 _ 0 (by omega) (by omega) ((Fr.rf _ M0).up (by decide)) (upm_eq _ _ _ _) (fun q h1 h2 => by omega)

set_option maxRecDepth 100000 in
set_option maxHeartbeats 4000000 in
theorem lp_X1_ff {v : Ev} {as : List Nat} (p : Int → Int) (n : Int) (H0 : Int → Int) (M0 : Mm) (hB : BO p n M0) (E : Cx v cX1_firstFalse 2 yX1_firstFalse.cls 3) (hret : RetI v as cX1_firstFalse .int (fun r M' => r = (if FD p n.toNat 0 H0 = n then -6 else FD p n.toNat 0 H0) ∧ Fr [44] M0 M')) : ∀ (N : Nat) (M : Mm) (j : Int) (H : Int → Int), (n - j).toNat < N → (0 ≤ j ∧ j ≤ n) → (Fr [44] M0 M) → (HS M j H) → (FD p (n - j).toNat j H = FD p n.toNat 0 H0) → Ws v as SH 0 0 2 [some (rv 40), some (iv j)] [] M := by
  intro N
  induction N with
  | zero =>
    intro M j H hN
    exact absurd hN (Nat.not_lt_zero _)
  | succ N ih =>
    intro M j H hN g0 g1 g2 g3
    have h12 := hB.2.1
    have hB1 : BO p n M := hB.fr g1 (by decide) (by decide) (by decide)
    refine s_iload_n E dX1_firstFalse_2 rfl ?_
    refine s_aload_n E dX1_firstFalse_3 rfl ?_
    refine s_getI (kf := 1) E 1 rfl dX1_firstFalse_4 rfl inb_X1 (Nat.le_of_ble_eq_true rfl) fl_X1_15 (by decide) sh40 rfl ?_
    rw [hB1.1]
    refine s_icmp_ge E 43 dX1_firstFalse_7 (by decide) (by omega) (by omega) (fun h7 => ?_) (fun h7 => ?_)
    · refine s_bipush E dX1_firstFalse_43 rfl ?_
      refine hret _ _ ?_ (fun q => by cases q) _ _ dX1_firstFalse_45
      have e : FD p n.toNat 0 H0 = n := by rw [← g3, show (n - j).toNat = 0 by omega, show j = n by omega]; rfl
      exact ⟨(if_pos e).symm, g1⟩
    · have e3 : FD p (n - j).toNat j H = if b2 (okB (lnS (p j)) H) = 1 then FD p (n - (j + 1)).toNat (j + 1) (stepH (lnS (p j)) H) else j := by
        rw [show (n - j).toNat = (n - (j + 1)).toNat + 1 by omega]
        rfl
      have h7 := lnS7 (p j)
      refine s_aload_n E dX1_firstFalse_10 rfl ?_
      refine s_iload_n E dX1_firstFalse_11 rfl ?_
      refine s_aload_n E dX1_firstFalse_12 rfl ?_
      refine s_getR (kf := 2) E dX1_firstFalse_13 rfl inb_X1 (Nat.le_of_ble_eq_true rfl) fl_X1_19 (by decide) sh40 rfl ?_
      refine s_iload_n E dX1_firstFalse_16 rfl ?_
      refine s_iald E dX1_firstFalse_17 (by decide) sh42 (Nat.le_of_ble_eq_true rfl) (by omega) ?_
      rw [hB1.2.2.1 j (by omega) (by omega)]
      refine s_callVi E (c_X1_canSpeak M H j _ g2 (by omega) h7) dX1_firstFalse_18 mf_X1_canSpeak ml_X1_56 rfl (Nat.le_of_ble_eq_true rfl) (Nat.le_of_ble_eq_true rfl) (by decide) sh40 rfl rfl (fun r18 M18 h18 => ?_)
      obtain ⟨e18, f18⟩ := h18; subst r18; subst M18
      refine s_ifneB E 26 dX1_firstFalse_21 (by decide) (fun h21 => ?_) (fun h21 => ?_)
      · refine s_aload_n E dX1_firstFalse_26 rfl ?_
        refine s_aload_n E dX1_firstFalse_27 rfl ?_
        refine s_getR (kf := 2) E dX1_firstFalse_28 rfl inb_X1 (Nat.le_of_ble_eq_true rfl) fl_X1_19 (by decide) sh40 rfl ?_
        refine s_iload_n E dX1_firstFalse_31 rfl ?_
        refine s_iald E dX1_firstFalse_32 (by decide) sh42 (Nat.le_of_ble_eq_true rfl) (by omega) ?_
        rw [hB1.2.2.1 j (by omega) (by omega)]
        refine s_iconst E dX1_firstFalse_33 ?_
        refine s_callVv E (c_X1_count M _ 1 h7) dX1_firstFalse_34 mf_X1_count ml_X1_60 rfl (Nat.le_of_ble_eq_true rfl) (Nat.le_of_ble_eq_true rfl) (by decide) sh40 rfl rfl (fun M34 h34 => ?_)
        refine s_iinc (ls' := [_, _]) E dX1_firstFalse_37 rfl rfl ?_
        refine s_goto E 2 dX1_firstFalse_40 (by decide) ?_
        have hok : b2 (okB (lnS (p j)) H) = 1 := b2_pos (by first | exact h21 | exact Classical.byContradiction h21)
        rw [if_pos hok] at e3
        have f34 : Fr [44] M M34 := by
          rw [h34]
          split
          · exact (Fr.rf _ _).up (by decide)
          · exact Fr.rf _ _
        refine ih _ _ _ (by omega) (by omega) (g1.tr f34) (HS_step g2 h7 (f34 43 (by decide)) (fun q h1 h2 => ?_)) (by rw [← g3, e3])
        rw [h34]
        by_cases e : q = lnS (p j)
        · rw [if_pos (by omega), e, upm_eq, if_pos rfl]
        · rw [if_neg e]
          split
          · rw [upm_ne (Or.inr e)]; omega
          · omega
      · refine s_iload_n E dX1_firstFalse_24 rfl ?_
        refine hret _ _ ?_ (fun q => by cases q) _ _ dX1_firstFalse_25
        rw [if_neg (by rw [b2_neg (by first | exact h21 | assumption)]; decide)] at e3
        have e : FD p n.toNat 0 H0 = j := by rw [← g3, e3]
        exact ⟨by rw [e, if_neg (by omega)], g1⟩

set_option maxRecDepth 100000 in
set_option maxHeartbeats 4000000 in
theorem c_X1_firstFalse (p : Int → Int) (n : Int) (H0 : Int → Int) (M0 : Mm) (hB : BO p n M0) (hS : HS M0 0 H0) : CtI yX1_firstFalse cX1_firstFalse 2 .int 3 SH [rv 40] M0 (fun r M' => r = (if FD p n.toNat 0 H0 = n then -6 else FD p n.toNat 0 H0) ∧ Fr [44] M0 M') := by
  refine CtI.of rfl (Nat.le_of_ble_eq_true rfl) (Or.inl rfl) (fun v as E hret => ?_)
  show Ws v as SH 0 0 0 [some (rv 40), none] [] M0
  refine s_iconst E dX1_firstFalse_0 ?_
  refine s_istore_n (ls' := [_, _]) E dX1_firstFalse_1 (Nat.le_of_ble_eq_true rfl) rfl ?_
  have h12 := hB.2.1
  exact lp_X1_ff p n H0 M0 hB E hret 13 M0 0 H0 (by omega) (by omega) (Fr.rf _ _) hS (by rw [Int.sub_zero])
