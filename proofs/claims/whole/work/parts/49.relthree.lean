/-! ===== the calls that change the living state, further ===== -/
theorem o_law {M M1 M2 : Mm} {r r' w z : Int} (h : Rel M) (h7 : r = (if (0 ≤ w ∧ w ≤ 1 ∧ 0 ≤ z ∧ z ≤ 99) then M 1 (3 + w) else -2) ∧ M1 = (if (0 ≤ w ∧ w ≤ 1 ∧ 0 ≤ z ∧ z ≤ 99) then upm M 1 (3 + w) z else M))
    (h8 : r' = (if (0 ≤ w ∧ w ≤ 1 ∧ 0 ≤ z ∧ z ≤ 99) then M1 79 (1 + w) else -2) ∧ M2 = (if (0 ≤ w ∧ w ≤ 1 ∧ 0 ≤ z ∧ z ≤ 99) then upm (upm M1 79 1 (if w = 0 then z else M1 79 1)) 79 2 (if w = 1 then z else M1 79 2) else M1)) : r = r' ∧ Rel M2 := by
  obtain ⟨e7, m7⟩ := h7
  obtain ⟨e8, m8⟩ := h8
  have hl := h.2.2.2.1
  by_cases c : 0 ≤ w ∧ w ≤ 1 ∧ 0 ≤ z ∧ z ≤ 99
  · rw [if_pos c] at e7 m7 e8 m8
    have e79 : M1 79 = M 79 := by rw [m7, upm_row (by decide)]
    rw [e79] at e8 m8
    have er : ∀ a, a ≠ 1 → a ≠ 79 → M2 a = M a := fun a q1 q2 => by rw [m8, upm_row q2, upm_row q2, m7, upm_row q1]
    have f1 : ∀ j, M2 1 j = if j = 3 + w then z else M 1 j := fun j => by
      rw [m8, upm_row (by decide), upm_row (by decide), m7]
      by_cases e : j = 3 + w
      · rw [if_pos e, e, upm_eq]
      · rw [if_neg e, upm_ne (Or.inr e)]
    have f79 : ∀ j, j ≠ 1 → j ≠ 2 → M2 79 j = M 79 j := fun j q1 q2 => by rw [m8, upm_ne (Or.inr q2), upm_ne (Or.inr q1), e79]
    have g1 : M2 79 1 = if w = 0 then z else M 79 1 := by rw [m8, upm_ne (Or.inr (by decide)), upm_eq]
    have g2 : M2 79 2 = if w = 1 then z else M 79 2 := by rw [m8, upm_eq]
    have b3 := h.1.2.2.1
    have b4 := h.1.2.2.2.1
    refine ⟨?_, h.live (fun k hk => er k (by omega) (by omega)) (LB.mk1 ?_ ?_ ?_ ?_ ?_) ⟨?_, ⟨?_, ?_⟩, ?_, ?_⟩ (h.2.2.2.2.2.2.1.congr (er 20 (by decide) (by decide)) (er 21 (by decide) (by decide)) (er 81 (by decide) (by decide)) (f79 3 (by decide) (by decide)))⟩
    · rw [e7, e8]
      rcases (show w = 0 ∨ w = 1 by omega) with q | q
      · rw [q]; exact hl.2.1.1
      · rw [q]; exact hl.2.1.2
    · rw [er 14 (by decide) (by decide), er 15 (by decide) (by decide), er 16 (by decide) (by decide), er 17 (by decide) (by decide)]; exact h.mok
    · rw [er 3 (by decide) (by decide), er 4 (by decide) (by decide), er 5 (by decide) (by decide), er 6 (by decide) (by decide)]; exact h.1.s1
    · rw [f1 3]; split <;> omega
    · rw [f1 4]; split <;> omega
    · intro a c h1 h2 h3 h4
      rw [er (8 + a) (by omega) (by omega)]; exact h.1.l1 a c h1 h2 h3 h4
    · intro w' k h1 h2
      rw [er (3 + w') (by omega) (by omega), er 80 (by decide) (by decide)]; exact hl.1 w' k h1 h2
    · rw [f1 3, g1, hl.2.1.1]
      by_cases q : w = 0
      · rw [if_pos q, if_pos (by omega)]
      · rw [if_neg q, if_neg (by omega)]
    · rw [f1 4, g2, hl.2.1.2]
      by_cases q : w = 1
      · rw [if_pos q, if_pos (by omega)]
      · rw [if_neg q, if_neg (by omega)]
    · rw [er 14 (by decide) (by decide), er 15 (by decide) (by decide), er 16 (by decide) (by decide), er 17 (by decide) (by decide), er 82 (by decide) (by decide), f79 5 (by decide) (by decide)]; exact hl.2.2.1
    · intro a c h1 h2 h3 h4
      rw [er (8 + a) (by omega) (by omega), er 83 (by decide) (by decide)]; exact hl.2.2.2 a c h1 h2 h3 h4
  · rw [if_neg c] at e7 m7 e8 m8
    subst m7
    exact ⟨by rw [e7, e8], by rw [m8]; exact h⟩
theorem o_lend {M M1 M2 : Mm} {r r' a b z : Int} (h : Rel M) (h7 : r = (if (0 ≤ a ∧ a < 6 ∧ 0 ≤ b ∧ b < 6 ∧ a ≠ b) then (if 0 ≤ z ∧ z ≤ 99 then M (8 + a) b else -2) else -1) ∧ M1 = (if (0 ≤ a ∧ a < 6 ∧ 0 ≤ b ∧ b < 6 ∧ a ≠ b) then (if 0 ≤ z ∧ z ≤ 99 then upm M (8 + a) b z else M) else M))
    (h8 : r' = (if (0 ≤ a ∧ a < 6 ∧ 0 ≤ b ∧ b < 6 ∧ a ≠ b) then (if 0 ≤ z ∧ z ≤ 99 then M1 83 (6 * a + b) else -2) else -1) ∧ M2 = (if (0 ≤ a ∧ a < 6 ∧ 0 ≤ b ∧ b < 6 ∧ a ≠ b) then (if 0 ≤ z ∧ z ≤ 99 then upm M1 83 (6 * a + b) z else M1) else M1)) : r = r' ∧ Rel M2 := by
  obtain ⟨e7, m7⟩ := h7
  obtain ⟨e8, m8⟩ := h8
  have hl := h.2.2.2.1
  by_cases c : 0 ≤ a ∧ a < 6 ∧ 0 ≤ b ∧ b < 6 ∧ a ≠ b
  · rw [if_pos c] at e7 m7 e8 m8
    by_cases c2 : 0 ≤ z ∧ z ≤ 99
    · rw [if_pos c2] at e7 m7 e8 m8
      have er : ∀ q, q ≠ 8 + a → q ≠ 83 → M2 q = M q := fun q q1 q2 => by rw [m8, upm_row q2, m7, upm_row q1]
      have f8 : ∀ x y, 0 ≤ x → x < 6 → M2 (8 + x) y = if x = a ∧ y = b then z else M (8 + x) y := fun x y q1 q2 => by
        rw [m8, upm_row (by omega), m7]
        by_cases e : x = a ∧ y = b
        · rw [if_pos e, e.1, e.2, upm_eq]
        · rw [if_neg e, upm_ne (by omega)]
      have f83 : ∀ x y, 0 ≤ x → x < 6 → 0 ≤ y → y < 6 → M2 83 (6 * x + y) = if x = a ∧ y = b then z else M 83 (6 * x + y) := fun x y q1 q2 q3 q4 => by
        rw [m8]
        by_cases e : x = a ∧ y = b
        · rw [if_pos e, e.1, e.2, upm_eq]
        · rw [if_neg e, upm_ne (Or.inr (by omega)), m7, upm_row (by omega)]
      refine ⟨?_, h.live (fun k hk => er k (by omega) (by omega)) (LB.mk1 ?_ ?_ ?_ ?_ ?_) ⟨?_, ?_, ?_, ?_⟩ (h.2.2.2.2.2.2.1.congr (er 20 (by omega) (by decide)) (er 21 (by omega) (by decide)) (er 81 (by omega) (by decide)) (by rw [er 79 (by omega) (by decide)]))⟩
      · rw [e7, e8, m7, upm_row (by omega)]; exact hl.2.2.2 a b (by omega) (by omega) (by omega) (by omega)
      · rw [er 14 (by omega) (by decide), er 15 (by omega) (by decide), er 16 (by omega) (by decide), er 17 (by omega) (by decide)]; exact h.mok
      · rw [er 3 (by omega) (by decide), er 4 (by omega) (by decide), er 5 (by omega) (by decide), er 6 (by omega) (by decide)]; exact h.1.s1
      · rw [er 1 (by omega) (by decide)]; exact h.1.2.2.1
      · rw [er 1 (by omega) (by decide)]; exact h.1.2.2.2.1
      · intro x y h1 h2 h3 h4
        rw [f8 x y h1 h2]
        have := h.1.l1 x y h1 h2 h3 h4
        split <;> omega
      · intro w' k h1 h2
        rw [er (3 + w') (by omega) (by omega), er 80 (by omega) (by decide)]; exact hl.1 w' k h1 h2
      · rw [er 1 (by omega) (by decide), er 79 (by omega) (by decide)]; exact hl.2.1
      · rw [er 14 (by omega) (by decide), er 15 (by omega) (by decide), er 16 (by omega) (by decide), er 17 (by omega) (by decide), er 82 (by omega) (by decide), er 79 (by omega) (by decide)]; exact hl.2.2.1
      · intro x y h1 h2 h3 h4
        rw [f8 x y h1 h2, f83 x y h1 h2 h3 h4, hl.2.2.2 x y h1 h2 h3 h4]
    · rw [if_neg c2] at e7 m7 e8 m8
      subst m7
      exact ⟨by rw [e7, e8], by rw [m8]; exact h⟩
  · rw [if_neg c] at e7 m7 e8 m8
    subst m7
    exact ⟨by rw [e7, e8], by rw [m8]; exact h⟩
theorem o_clear {M M1 M2 : Mm} {r r' : Int} (h : Rel M) (h7 : r = M 14 3 ∧ M1 = upm M 14 3 0) (h8 : r' = M1 79 5 ∧ M2 = upm M1 79 5 0) : r = r' ∧ Rel M2 := by
  obtain ⟨e7, m7⟩ := h7
  obtain ⟨e8, m8⟩ := h8
  have hl := h.2.2.2.1
  have hm := h.mok
  have er : ∀ a, a ≠ 14 → a ≠ 79 → M2 a = M a := fun a q1 q2 => by rw [m8, upm_row q2, m7, upm_row q1]
  have f79 : ∀ j, j ≠ 5 → M2 79 j = M 79 j := fun j hj => by rw [m8, upm_ne (Or.inr hj), m7, upm_row (by decide)]
  have f14 : M2 14 3 = 0 := by rw [m8, upm_row (by decide), m7, upm_eq]
  have f5 : M2 79 5 = 0 := by rw [m8, upm_eq]
  refine ⟨by rw [e7, e8, m7, upm_row (by decide), h.e14], h.live (fun k hk => er k (by omega) (by omega)) (LB.mk1 ?_ ?_ ?_ ?_ ?_) ⟨?_, ?_, ?_, ?_⟩ (h.2.2.2.2.2.2.1.congr (er 20 (by decide) (by decide)) (er 21 (by decide) (by decide)) (er 81 (by decide) (by decide)) (f79 3 (by decide)))⟩
  · rw [f14, er 15 (by decide) (by decide), er 16 (by decide) (by decide), er 17 (by decide) (by decide)]
    refine ⟨by decide, by decide, fun j h1 h2 => ?_⟩
    have q := hm.2.2 j h1 h2
    exact ⟨q.1, q.2.1, q.2.2.1, q.2.2.2.1, q.2.2.2.2.1, q.2.2.2.2.2.1, fun w => by omega⟩
  · rw [er 3 (by decide) (by decide), er 4 (by decide) (by decide), er 5 (by decide) (by decide), er 6 (by decide) (by decide)]; exact h.1.s1
  · rw [er 1 (by decide) (by decide)]; exact h.1.2.2.1
  · rw [er 1 (by decide) (by decide)]; exact h.1.2.2.2.1
  · intro a c h1 h2 h3 h4
    rw [er (8 + a) (by omega) (by omega)]; exact h.1.l1 a c h1 h2 h3 h4
  · intro w' k h1 h2
    rw [er (3 + w') (by omega) (by omega), er 80 (by decide) (by decide)]; exact hl.1 w' k h1 h2
  · rw [er 1 (by decide) (by decide), f79 1 (by decide), f79 2 (by decide)]; exact hl.2.1
  · rw [f14, f5, er 15 (by decide) (by decide), er 16 (by decide) (by decide), er 17 (by decide) (by decide), er 82 (by decide) (by decide)]
    exact ⟨rfl, hl.2.2.1.2⟩
  · intro a c h1 h2 h3 h4
    rw [er (8 + a) (by omega) (by omega), er 83 (by decide) (by decide)]; exact hl.2.2.2 a c h1 h2 h3 h4
theorem o_matter {M M1 M2 : Mm} {r r' w z b : Int} (h : Rel M) (h7 : r = (if 0 ≤ w ∧ w < 6 then (if 1 ≤ z ∧ z ≤ 60 ∧ 0 ≤ b ∧ b < iShl 1 (M 14 3) then (if (M 14 3) < 8 then (M 14 3) else -4) else -2) else -1) ∧ M1 = (if 0 ≤ w ∧ w < 6 then (if 1 ≤ z ∧ z ≤ 60 ∧ 0 ≤ b ∧ b < iShl 1 (M 14 3) then (if (M 14 3) < 8 then upm (upm (upm (upm M 15 (M 14 3) w) 16 (M 14 3) z) 17 (M 14 3) b) 14 3 (M 14 3 + 1) else M) else M) else M))
    (h8 : r' = (if 0 ≤ w ∧ w < 6 then (if 1 ≤ z ∧ z ≤ 60 ∧ 0 ≤ b ∧ b < iShl 1 (M1 79 5) then (if (M1 79 5) < 8 then (M1 79 5) else -4) else -2) else -1) ∧ M2 = (if 0 ≤ w ∧ w < 6 then (if 1 ≤ z ∧ z ≤ 60 ∧ 0 ≤ b ∧ b < iShl 1 (M1 79 5) then (if (M1 79 5) < 8 then upm (upm (upm (upm M1 82 (3 * M1 79 5) w) 82 (3 * M1 79 5 + 1) z) 82 (3 * M1 79 5 + 2) b) 79 5 (M1 79 5 + 1) else M1) else M1) else M1)) : r = r' ∧ Rel M2 := by
  obtain ⟨e7, m7⟩ := h7
  obtain ⟨e8, m8⟩ := h8
  have hl := h.2.2.2.1
  have hm := h.mok
  have e5 : M1 79 5 = M 14 3 := by
    rw [m7, ← h.e14]
    (repeat' split) <;> first | rfl | rw [upm_row (by decide), upm_row (by decide), upm_row (by decide), upm_row (by decide)]
  rw [e5] at e8 m8
  refine ⟨by rw [e7, e8], ?_⟩
  by_cases c : 0 ≤ w ∧ w < 6
  · rw [if_pos c] at m7 m8
    by_cases c2 : 1 ≤ z ∧ z ≤ 60 ∧ 0 ≤ b ∧ b < iShl 1 (M 14 3)
    · rw [if_pos c2] at m7 m8
      by_cases c3 : M 14 3 < 8
      · rw [if_pos c3] at m7 m8
        have hc0 := hm.1
        have hsh := shl_rng (c := M 14 3) (by omega)
        have hsm := shl_mono (m := M 14 3) (c := 7) (by omega)
        have h128 : iShl 1 7 = 128 := by decide
        have er : ∀ a, a ≠ 14 → a ≠ 15 → a ≠ 16 → a ≠ 17 → a ≠ 79 → a ≠ 82 → M2 a = M a := fun a q1 q2 q3 q4 q5 q6 => by
          rw [m8, upm_row q5, upm_row q6, upm_row q6, upm_row q6, m7, upm_row q1, upm_row q4, upm_row q3, upm_row q2]
        have f15 : ∀ j, M2 15 j = if j = M 14 3 then w else M 15 j := fun j => by
          rw [m8, upm_row (by decide), upm_row (by decide), upm_row (by decide), upm_row (by decide), m7, upm_row (by decide), upm_row (by decide), upm_row (by decide)]
          by_cases e : j = M 14 3
          · rw [if_pos e, e, upm_eq]
          · rw [if_neg e, upm_ne (Or.inr e)]
        have f16 : ∀ j, M2 16 j = if j = M 14 3 then z else M 16 j := fun j => by
          rw [m8, upm_row (by decide), upm_row (by decide), upm_row (by decide), upm_row (by decide), m7, upm_row (by decide), upm_row (by decide)]
          by_cases e : j = M 14 3
          · rw [if_pos e, e, upm_eq]
          · rw [if_neg e, upm_ne (Or.inr e), upm_row (by decide)]
        have f17 : ∀ j, M2 17 j = if j = M 14 3 then b else M 17 j := fun j => by
          rw [m8, upm_row (by decide), upm_row (by decide), upm_row (by decide), upm_row (by decide), m7, upm_row (by decide)]
          by_cases e : j = M 14 3
          · rw [if_pos e, e, upm_eq]
          · rw [if_neg e, upm_ne (Or.inr e), upm_row (by decide), upm_row (by decide)]
        have f14 : M2 14 3 = M 14 3 + 1 := by rw [m8, upm_row (by decide), upm_row (by decide), upm_row (by decide), upm_row (by decide), m7, upm_eq]
        have f5 : M2 79 5 = M 14 3 + 1 := by rw [m8, upm_eq]
        have e82 : M1 82 = M 82 := by rw [m7, upm_row (by decide), upm_row (by decide), upm_row (by decide), upm_row (by decide)]
        have f82 : ∀ j i, 0 ≤ i → i < 3 → M2 82 (3 * j + i) = if j = M 14 3 then (if i = 0 then w else if i = 1 then z else b) else M 82 (3 * j + i) := fun j i q1 q2 => by
          rw [m8, upm_row (by decide)]
          by_cases e : j = M 14 3
          · rw [if_pos e, e]
            rcases (show i = 0 ∨ i = 1 ∨ i = 2 by omega) with q | q | q
            · rw [if_pos q, q, upm_ne (Or.inr (by omega)), upm_ne (Or.inr (by omega)), Int.add_zero, upm_eq]
            · rw [if_neg (by omega), if_pos q, q, upm_ne (Or.inr (by omega)), upm_eq]
            · rw [if_neg (by omega), if_neg (by omega), q, upm_eq]
          · rw [if_neg e, upm_ne (Or.inr (by omega)), upm_ne (Or.inr (by omega)), upm_ne (Or.inr (by omega)), e82]
        have f79 : ∀ j, j ≠ 5 → M2 79 j = M 79 j := fun j hj => by
          rw [m8, upm_ne (Or.inr hj), upm_row (by decide), upm_row (by decide), upm_row (by decide), m7, upm_row (by decide), upm_row (by decide), upm_row (by decide), upm_row (by decide)]
        have ea : ∀ a, a ≠ 14 ∧ a ≠ 15 ∧ a ≠ 16 ∧ a ≠ 17 ∧ a ≠ 79 ∧ a ≠ 82 → M2 a = M a := fun a q => er a q.1 q.2.1 q.2.2.1 q.2.2.2.1 q.2.2.2.2.1 q.2.2.2.2.2
        refine h.live (fun k hk => ea k (by omega)) (LB.mk1 ?_ ?_ ?_ ?_ ?_) ⟨?_, ?_, ?_, ?_⟩ (h.2.2.2.2.2.2.1.congr (ea 20 (by decide)) (ea 21 (by decide)) (ea 81 (by decide)) (f79 3 (by decide)))
        · rw [f14]
          refine ⟨by omega, by omega, fun j h1 h2 => ?_⟩
          rw [f15 j, f16 j, f17 j]
          have q := hm.2.2 j h1 h2
          by_cases e : j = M 14 3
          · rw [if_pos e, if_pos e, if_pos e, e]
            exact ⟨c.1, by omega, by omega, c2.2.1, c2.2.2.1, by omega, fun _ => ⟨c2.2.2.2, c2.1⟩⟩
          · rw [if_neg e, if_neg e, if_neg e]
            exact ⟨q.1, q.2.1, q.2.2.1, q.2.2.2.1, q.2.2.2.2.1, q.2.2.2.2.2.1, fun x => q.2.2.2.2.2.2 (by omega)⟩
        · rw [ea 3 (by decide), ea 4 (by decide), ea 5 (by decide), ea 6 (by decide)]; exact h.1.s1
        · rw [ea 1 (by decide)]; exact h.1.2.2.1
        · rw [ea 1 (by decide)]; exact h.1.2.2.2.1
        · intro a c h1 h2 h3 h4
          rw [ea (8 + a) (by omega)]; exact h.1.l1 a c h1 h2 h3 h4
        · intro w' k h1 h2
          rw [ea (3 + w') (by omega), ea 80 (by decide)]; exact hl.1 w' k h1 h2
        · rw [ea 1 (by decide), f79 1 (by decide), f79 2 (by decide)]; exact hl.2.1
        · refine ⟨by rw [f14, f5], fun j => ?_, fun j => ?_, fun j => ?_⟩
          · have q := f82 j 0 (by decide) (by decide)
            rw [Int.add_zero] at q
            rw [f15 j, q, hl.2.2.1.2.1 j, if_pos (rfl : (0 : Int) = 0)]
          · rw [f16 j, f82 j 1 (by decide) (by decide), hl.2.2.1.2.2.1 j, if_neg (by decide : ¬ (1 : Int) = 0), if_pos (rfl : (1 : Int) = 1)]
          · rw [f17 j, f82 j 2 (by decide) (by decide), hl.2.2.1.2.2.2 j, if_neg (by decide : ¬ (2 : Int) = 0), if_neg (by decide : ¬ (2 : Int) = 1)]
        · intro a c h1 h2 h3 h4
          rw [ea (8 + a) (by omega), ea 83 (by decide)]; exact hl.2.2.2 a c h1 h2 h3 h4
      · rw [if_neg c3] at m7 m8
        rw [m8, m7]; exact h
    · rw [if_neg c2] at m7 m8
      rw [m8, m7]; exact h
  · rw [if_neg c] at m7 m8
    rw [m8, m7]; exact h
