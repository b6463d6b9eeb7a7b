/-! ===== image and restore, both sides ===== -/
def CK (d k j : Int) : Prop := (d + 2 ≤ k ∧ k ≤ d + 5 ∧ 0 ≤ j ∧ j < 6) ∨ (d + 7 ≤ k ∧ k ≤ d + 12 ∧ 0 ≤ j ∧ j < 6) ∨ (d + 14 ≤ k ∧ k ≤ d + 16 ∧ 0 ≤ j ∧ j < 8) ∨ (k = d + 13 ∧ j = 3) ∨ (k = d ∧ (j = 3 ∨ j = 4))
theorem cpR_at {M : Mm} {o0 o1 n k j k' : Int} (h : o1 + 1 ≤ k ∧ k < o1 + 1 + n ∧ 0 ≤ j ∧ j < 6) (e : k' = k - o1 + o0) : cpR M o0 o1 n k j = M k' j := by rw [e]; exact if_pos h
theorem cpR_no {M : Mm} {o0 o1 n k j : Int} (h : ¬ (o1 + 1 ≤ k ∧ k < o1 + 1 + n ∧ 0 ≤ j ∧ j < 6)) : cpR M o0 o1 n k j = M k j := if_neg h
theorem cp0_no {M : Mm} {a b n k j : Int} (h : ¬ (k = b ∧ 0 ≤ j ∧ j < n)) : cp0 M a b n k j = M k j := if_neg h
theorem cp0_at {M : Mm} {a b n j : Int} (h : 0 ≤ j ∧ j < n) : cp0 M a b n b j = M a j := if_pos ⟨rfl, h.1, h.2⟩
theorem ktk_at {M : Mm} {d s k j k' : Int} (hds : s + 16 < d ∨ d + 16 < s) (h : CK d k j) (e : k' = k - d + s) : ktk M d s k j = M k' j := by
  subst e
  unfold CK at h
  unfold ktk mtk
  by_cases c1 : k = d ∧ (j = 3 ∨ j = 4)
  · obtain ⟨q1, q2 | q2⟩ := c1 <;> subst q1 <;> subst q2
    · rw [upm_ne (by omega), upm_eq]
      congr 1
      omega
    · rw [upm_eq]
      congr 1
      omega
  · rw [upm_ne (by omega), upm_ne (by omega)]
    by_cases c2 : k = d + 13 ∧ j = 3
    · obtain ⟨q1, q2⟩ := c2
      subst q1
      subst q2
      rw [upm_eq, cpR_no (by omega), cpR_no (by omega)]
      congr 1
      omega
    · rw [upm_ne (by omega)]
      by_cases c3 : d + 14 ≤ k ∧ k ≤ d + 16 ∧ 0 ≤ j ∧ j < 8
      · rcases (show k = d + 14 ∨ k = d + 15 ∨ k = d + 16 by omega) with q | q | q
        · rw [cp0_no (by omega), cp0_no (by omega), show k = d + 13 + 1 by omega, cp0_at (by omega), cpR_no (by omega), cpR_no (by omega)]
          congr 1
          omega
        · rw [cp0_no (by omega), show k = d + 13 + 2 by omega, cp0_at (by omega), cp0_no (by omega), cpR_no (by omega), cpR_no (by omega)]
          congr 1
          omega
        · rw [show k = d + 13 + 3 by omega, cp0_at (by omega), cp0_no (by omega), cp0_no (by omega), cpR_no (by omega), cpR_no (by omega)]
          congr 1
          omega
      · rw [cp0_no (by omega), cp0_no (by omega), cp0_no (by omega)]
        by_cases c4 : d + 7 ≤ k ∧ k ≤ d + 12 ∧ 0 ≤ j ∧ j < 6
        · rw [cpR_at (k' := k - d + s) (by omega) (by omega), cpR_no (by omega)]
        · rw [cpR_no (by omega), cpR_at (k' := k - d + s) (by omega) (by omega)]
theorem ktk_no {M : Mm} {d s k j : Int} (h : ¬ CK d k j) : ktk M d s k j = M k j := by
  unfold CK at h
  unfold ktk mtk
  rw [upm_ne (by omega), upm_ne (by omega), upm_ne (by omega), cp0_no (by omega), cp0_no (by omega), cp0_no (by omega), cpR_no (by omega), cpR_no (by omega)]
