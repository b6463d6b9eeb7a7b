/-! ===== the law's entry: both objects are made ===== -/
theorem M1st {M M4 : Mm} (hM : M = fun _ _ => 0) (h : ∀ k : Int, k ≠ 22 → k ≠ 29 → k ≠ 40 → M4 k = kM 62 (kM 45 (kM 1 M)) k) : Sm M00 (mM M4) := by
  intro k j hL
  unfold Lst at hL
  have e : M4 k j = kM 62 (kM 45 (kM 1 M)) k j := by rw [h k (by omega) (by omega) (by omega)]
  subst hM
  clear h hL
  by_cases hA : k = 1 ∨ k = 45 ∨ k = 62
  · have e1 : mM M4 k j = M4 k j := by
      unfold mM mJ upm
      rw [if_neg (by omega), if_neg (by omega), if_neg (by omega)]
    rw [e1, e]
    have e2 : ∀ b : Int, (b = 1 ∨ b = 45 ∨ b = 62) → ∀ N : Mm, kM b N k j = if k = b ∧ j = 4 then 2 else if k = b ∧ j = 3 then 5 else N k j := by
      intro b hb N
      unfold kM kJ upm
      rw [if_neg (by omega)]
    rw [e2 62 (by decide), e2 45 (by decide), e2 1 (by decide)]
    by_cases h3 : j = 3
    · have eR : M00 k j = 5 := by
        unfold M00
        rw [if_pos ⟨hA, h3⟩]
      rw [eR, if_neg (by omega)]
      rcases hA with rfl | rfl | rfl
      · rw [if_neg (by omega), if_neg (by omega), if_neg (by omega), if_neg (by omega), if_pos ⟨rfl, h3⟩]
      · rw [if_neg (by omega), if_neg (by omega), if_pos ⟨rfl, h3⟩]
      · rw [if_pos ⟨rfl, h3⟩]
    · by_cases h4 : j = 4
      · have eR : M00 k j = 2 := by
          unfold M00
          rw [if_neg (fun q => h3 q.2), if_pos ⟨hA, h4⟩]
        rw [eR]
        rcases hA with rfl | rfl | rfl
        · rw [if_neg (by omega), if_neg (by omega), if_neg (by omega), if_neg (by omega), if_pos ⟨rfl, h4⟩]
        · rw [if_neg (by omega), if_neg (by omega), if_pos ⟨rfl, h4⟩]
        · rw [if_pos ⟨rfl, h4⟩]
      · have eR : M00 k j = 0 := by
          unfold M00
          rw [if_neg (fun q => h3 q.2), if_neg (fun q => h4 q.2), if_neg (by omega), if_neg (by omega), if_neg (by omega), if_neg (by omega)]
        rw [eR, if_neg (by omega), if_neg (by omega), if_neg (by omega), if_neg (by omega), if_neg (by omega), if_neg (by omega)]
  · have e2 : ∀ b : Int, (b = 1 ∨ b = 45 ∨ b = 62) → ∀ N : Mm, kM b N k j = if (k = b + 3 ∨ k = b + 4) ∧ 0 ≤ j ∧ j < 6 then 1 else N k j := by
      intro b hb N
      unfold kM kJ upm
      by_cases h1 : (k = b + 3 ∨ k = b + 4) ∧ 0 ≤ j ∧ j < 6
      · rw [if_pos h1, if_pos h1]
      · rw [if_neg h1, if_neg h1, if_neg (by omega), if_neg (by omega)]
    rw [e2 62 (by decide), e2 45 (by decide), e2 1 (by decide)] at e
    have eM : M00 k j = if k = 79 ∧ j = 1 then 5 else if k = 79 ∧ j = 2 then 2 else if (k = 4 ∨ k = 5 ∨ k = 48 ∨ k = 49 ∨ k = 65 ∨ k = 66) ∧ 0 ≤ j ∧ j < 6 then 1 else if k = 80 ∧ 0 ≤ j ∧ j < 24 ∧ 1 ≤ j % 4 ∧ j % 4 ≤ 2 then 1 else 0 := by
      unfold M00
      rw [if_neg (fun q => hA q.1), if_neg (fun q => hA q.1)]
    rw [eM]
    by_cases hB : (k = 4 ∨ k = 5 ∨ k = 48 ∨ k = 49 ∨ k = 65 ∨ k = 66) ∧ 0 ≤ j ∧ j < 6
    · have e1 : mM M4 k j = M4 k j := by
        unfold mM mJ upm
        rw [if_neg (by omega), if_neg (by omega), if_neg (by omega)]
      rw [if_neg (show ¬ (k = 79 ∧ j = 1) by omega), if_neg (show ¬ (k = 79 ∧ j = 2) by omega), if_pos hB, e1, e]
      by_cases c1 : (k = 62 + 3 ∨ k = 62 + 4) ∧ 0 ≤ j ∧ j < 6
      · rw [if_pos c1]
      · rw [if_neg c1]
        by_cases c2 : (k = 45 + 3 ∨ k = 45 + 4) ∧ 0 ≤ j ∧ j < 6
        · rw [if_pos c2]
        · rw [if_neg c2, if_pos (by omega)]
    · have e3 : M4 k j = 0 := by
        rw [e, if_neg (by omega), if_neg (by omega), if_neg (by omega)]
      rw [if_neg hB]
      have e4 : mM M4 k j = if k = 80 ∧ 0 ≤ j ∧ j < 4 * 6 ∧ 1 ≤ j % 4 ∧ j % 4 ≤ 2 then 1 else if k = 79 ∧ j = 2 then 2 else if k = 79 ∧ j = 1 then 5 else 0 := by
        have e5 : mM M4 k j = if k = 80 ∧ 0 ≤ j ∧ j < 4 * 6 ∧ 1 ≤ j % 4 ∧ j % 4 ≤ 2 then 1 else if k = 79 ∧ j = 2 then 2 else if k = 79 ∧ j = 1 then 5 else M4 k j := rfl
        rw [e5, e3]
      rw [e4]
      by_cases c1 : k = 79 ∧ j = 1
      · rw [if_neg (by omega), if_neg (by omega), if_pos c1, if_pos c1]
      · rw [if_neg c1, if_neg c1]
        by_cases c2 : k = 79 ∧ j = 2
        · rw [if_neg (by omega), if_pos c2, if_pos c2]
        · rw [if_neg c2, if_neg c2]
          by_cases c3 : k = 80 ∧ 0 ≤ j ∧ j < 24 ∧ 1 ≤ j % 4 ∧ j % 4 ≤ 2
          · rw [if_pos c3, if_pos (by omega)]
          · rw [if_neg c3, if_neg (by omega)]
