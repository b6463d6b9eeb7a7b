/-! ===== sit, both sides ===== -/
theorem Rel.seat4 {M : Mm} (h : Rel M) : ∀ k, 0 ≤ k → k < 6 → 0 ≤ M 3 k ∧ M 3 k ≤ 999 ∧ 0 ≤ M 4 k ∧ M 4 k ≤ 1 ∧ 0 ≤ M 5 k ∧ M 5 k ≤ 1 ∧ 0 ≤ M 6 k ∧ M 6 k ≤ 99 := fun k h1 h2 => by
  have := h.1.s1 k h1 h2
  omega
theorem Rel.seat4M {M : Mm} (h : Rel M) : ∀ k, 0 ≤ k → k < 6 → 0 ≤ M 80 (4 * k) ∧ M 80 (4 * k) ≤ 999 ∧ 0 ≤ M 80 (4 * k + 1) ∧ M 80 (4 * k + 1) ≤ 1 ∧ 0 ≤ M 80 (4 * k + 2) ∧ M 80 (4 * k + 2) ≤ 1 ∧ 0 ≤ M 80 (4 * k + 3) ∧ M 80 (4 * k + 3) ≤ 99 := fun k h1 h2 => by
  have q := h.1.s1 k h1 h2
  have hl := h.2.2.2.1.1
  have a0 : M 3 k = M 80 (4 * k + 0) := hl 0 k (by decide) (by decide)
  have a1 : M 4 k = M 80 (4 * k + 1) := hl 1 k (by decide) (by decide)
  have a2 : M 5 k = M 80 (4 * k + 2) := hl 2 k (by decide) (by decide)
  have a3 : M 6 k = M 80 (4 * k + 3) := hl 3 k (by decide) (by decide)
  rw [Int.add_zero] at a0
  omega
theorem o_sit {M M1 M2 : Mm} {r r' : Int} (h : Rel M) (h7 : (¬ (sFault (M 21) (M 20 1) = -6 ∧ SITC M 5 1 = 0) → r = -5 ∧ Kp M M1) ∧ (sFault (M 21) (M 20 1) = -6 ∧ SITC M 5 1 = 0 → r = SITC M 5 0 ∧ (∀ a b, ¬ ((22 ≤ a ∧ a ≤ 36) ∨ (40 ≤ a ∧ a ≤ 44) ∨ ((a = 38 ∨ a = 39) ∧ b ≠ 0)) → M1 a b = if a = 20 ∧ b = 1 then 0 else if 3 ≤ a ∧ a < 7 ∧ 0 ≤ b ∧ b < 6 then SITC M (a - 3) b else M a b) ∧ SB (SITC M) 400))
    (h8 : (¬ (sFault (M1 81) (M1 79 3) = -6 ∧ SITM M1 5 1 = 0) → r' = -5 ∧ KpM M1 M2) ∧ (sFault (M1 81) (M1 79 3) = -6 ∧ SITM M1 5 1 = 0 → r' = SITM M1 5 0 ∧ (∀ a b, ¬ (84 ≤ a ∧ a ≤ 92) → ¬ (a = 79 ∧ 10 ≤ b ∧ b ≤ 12) → M2 a b = if a = 79 ∧ b = 3 then 0 else if a = 80 ∧ 0 ≤ b ∧ b < 24 then SITM M1 (b % 4) (b / 4) else M1 a b))) : r = r' ∧ Rel M2 := by
  by_cases c : sFault (M 21) (M 20 1) = -6 ∧ SITC M 5 1 = 0
  · obtain ⟨e7, m7, hb⟩ := h7.2 c
    have n1 : ∀ a, 79 ≤ a → M1 a = M a := fun a ha => funext fun b => by rw [m7 a b (by omega), if_neg (by omega), if_neg (by omega)]
    have eS : SITM M1 = SITC M := by
      rw [← h.sits]
      unfold SITM
      rw [n1 81 (by decide), n1 79 (by decide), n1 80 (by decide)]
    rw [n1 81 (by decide), n1 79 (by decide), eS, h.e21, h.e20] at h8
    obtain ⟨e8, m8⟩ := h8.2 c
    refine ⟨by rw [e7, e8], ?_⟩
    have hl := h.2.2.2.1
    have hp := h.pad
    have hpd := h.2.2.2.2.2.2.1
    have er : ∀ a, (a < 3 ∨ (7 ≤ a ∧ a < 20) ∨ a = 21 ∨ (45 ≤ a ∧ a ≤ 78) ∨ (81 ≤ a ∧ a ≤ 83) ∨ 93 ≤ a) → M2 a = M a := fun a ha => funext fun b => by
      rw [m8 a b (by omega) (by omega), if_neg (by omega), if_neg (by omega), m7 a b (by omega), if_neg (by omega), if_neg (by omega)]
    have e38 : M2 38 0 = M 38 0 := by rw [m8 38 0 (by decide) (by decide), if_neg (by decide), if_neg (by decide), m7 38 0 (by decide), if_neg (by decide), if_neg (by decide)]
    have e39 : M2 39 0 = M 39 0 := by rw [m8 39 0 (by decide) (by decide), if_neg (by decide), if_neg (by decide), m7 39 0 (by decide), if_neg (by decide), if_neg (by decide)]
    have f79 : ∀ j, j < 10 → j ≠ 3 → M2 79 j = M 79 j := fun j h1 h2 => by
      rw [m8 79 j (by decide) (by omega), if_neg (by omega), if_neg (by omega), n1 79 (by decide)]
    have f793 : M2 79 3 = 0 := by rw [m8 79 3 (by decide) (by decide), if_pos ⟨rfl, rfl⟩]
    have f20 : M2 20 1 = 0 := by rw [m8 20 1 (by decide) (by decide), if_neg (by decide), if_neg (by decide), m7 20 1 (by decide), if_pos ⟨rfl, rfl⟩]
    have f3 : ∀ w k, 0 ≤ w → w < 4 → M2 (3 + w) k = if 0 ≤ k ∧ k < 6 then SITC M w k else M (3 + w) k := fun w k h1 h2 => by
      rw [m8 (3 + w) k (by omega) (by omega), if_neg (by omega), if_neg (by omega), m7 (3 + w) k (by omega), if_neg (by omega)]
      by_cases e : 0 ≤ k ∧ k < 6
      · rw [if_pos e, if_pos (by omega), show 3 + w - 3 = w by omega]
      · rw [if_neg e, if_neg (by omega)]
    have f80 : ∀ w k, 0 ≤ w → w < 4 → M2 80 (4 * k + w) = if 0 ≤ k ∧ k < 6 then SITC M w k else M 80 (4 * k + w) := fun w k h1 h2 => by
      rw [m8 80 (4 * k + w) (by decide) (by omega), if_neg (by omega)]
      by_cases e : 0 ≤ k ∧ k < 6
      · rw [if_pos e, if_pos (by omega), show (4 * k + w) % 4 = w by omega, show (4 * k + w) / 4 = k by omega]
      · rw [if_neg e, if_neg (by omega), n1 80 (by decide)]
    refine ⟨LB.mk1 ?_ (fun k h1 h2 => ?_) ?_ ?_ ?_, h.2.1.congr (fun k q1 q2 => er k (by omega)), h.2.2.1.congr (fun k q1 q2 => er k (by omega)), ⟨fun w k h1 h2 => ?_, ?_, ?_, ?_⟩, fun w => (h.2.2.2.2.1 (by rw [er 19 (by decide)] at w; exact w)).congr (fun k q1 q2 => er k (by omega)) (er 93 (by decide)), fun w => (h.2.2.2.2.2.1 (by rw [er 19 (by decide)] at w; exact w)).congr (fun k q1 q2 => er k (by omega)) (er 93 (by decide)), ⟨⟨by rw [f20]; decide, by rw [f20]; decide, by rw [er 21 (by decide)]; exact hp.2.2⟩, by rw [f20, f793], by rw [er 21 (by decide), er 81 (by decide)]; exact hpd.2.2⟩, ?_, ?_, by rw [e38]; exact h.2.2.2.2.2.2.2.2.2.1, by rw [e39]; exact h.2.2.2.2.2.2.2.2.2.2⟩
    · rw [er 14 (by decide), er 15 (by decide), er 16 (by decide), er 17 (by decide)]; exact h.mok
    · have q := hb.1 k h1 h2
      have a0 := f3 0 k (by decide) (by decide)
      have a1 := f3 1 k (by decide) (by decide)
      have a2 := f3 2 k (by decide) (by decide)
      have a3 := f3 3 k (by decide) (by decide)
      rw [if_pos ⟨h1, h2⟩] at a0 a1 a2 a3
      rw [show (3 : Int) + 0 = 3 by decide] at a0
      rw [show (3 : Int) + 1 = 4 by decide] at a1
      rw [show (3 : Int) + 2 = 5 by decide] at a2
      rw [show (3 : Int) + 3 = 6 by decide] at a3
      omega
    · rw [er 1 (by decide)]; exact h.1.2.2.1
    · rw [er 1 (by decide)]; exact h.1.2.2.2.1
    · intro a c h1 h2 h3 h4
      rw [er (8 + a) (by omega)]; exact h.1.l1 a c h1 h2 h3 h4
    · rw [f3 w k h1 h2, f80 w k h1 h2]
      split
      · rfl
      · exact hl.1 w k h1 h2
    · rw [er 1 (by decide), f79 1 (by decide) (by decide), f79 2 (by decide) (by decide)]; exact hl.2.1
    · rw [er 14 (by decide), er 15 (by decide), er 16 (by decide), er 17 (by decide), er 82 (by decide), f79 5 (by decide) (by decide)]; exact hl.2.2.1
    · intro a c h1 h2 h3 h4
      rw [er (8 + a) (by omega), er 83 (by decide)]; exact hl.2.2.2 a c h1 h2 h3 h4
    · rw [er 19 (by decide), er 94 (by decide)]; exact h.2.2.2.2.2.2.2.1
    · rw [er 19 (by decide), er 94 (by decide)]; exact h.2.2.2.2.2.2.2.2.1
  · have q := h7.1 c
    have hS := q.2.sm
    have hR := h.keep hS
    have e : SITC M1 = SITC M := by
      unfold SITC
      rw [hS.row (k := 21) (by decide), hS.row (k := 20) (by decide), hS.row (k := 1) (by decide)]
      congr 1
      unfold sit0
      funext w k
      (repeat' split) <;> first | rfl | exact hS.at (by omega)
    rw [hR.e21, hR.e20, hR.sits, e, hS.row (k := 21) (by decide), hS.row (k := 20) (by decide)] at h8
    have w := h8.1 c
    exact ⟨by rw [q.1, w.1], hR.keep w.2.sm⟩
