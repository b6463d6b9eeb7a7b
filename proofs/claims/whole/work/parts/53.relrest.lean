/-! ===== restore, both sides ===== -/
theorem rs3_80 {M : Mm} {t j : Int} : rs3 M t 80 j = if 0 ≤ j ∧ j < 24 then M 93 (t + j) else M 80 j := by
  unfold rs3
  rw [upm_row (by decide), upm_row (by decide), upm_row (by decide)]
  unfold rs2 rs1
  rw [if_neg (by omega)]
  by_cases e : 0 ≤ j ∧ j < 24
  · rw [if_pos ⟨rfl, e⟩, if_pos e]
  · rw [if_neg (fun q => e q.2), if_neg e, if_neg (by omega)]
theorem rs3_82 {M : Mm} {t j : Int} : rs3 M t 82 j = if 0 ≤ j ∧ j < 24 then M 93 (t + 24 + j) else M 82 j := by
  unfold rs3
  rw [upm_row (by decide), upm_row (by decide), upm_row (by decide)]
  unfold rs2 rs1
  rw [if_neg (by omega), if_neg (by omega)]
  by_cases e : 0 ≤ j ∧ j < 24
  · rw [if_pos ⟨rfl, e⟩, if_pos e]
  · rw [if_neg (fun q => e q.2), if_neg e]
theorem rs3_83 {M : Mm} {t j : Int} (h : 0 ≤ j ∧ j < 36) : rs3 M t 83 j = M 93 (t + 48 + j) := by
  unfold rs3
  rw [upm_row (by decide), upm_row (by decide), upm_row (by decide)]
  unfold rs2
  rw [if_pos ⟨rfl, h⟩]
theorem rs3_79 {M : Mm} {t : Int} : rs3 M t 79 5 = M 93 (t + 84) ∧ rs3 M t 79 1 = M 93 (t + 85) ∧ rs3 M t 79 2 = M 93 (t + 86) ∧ rs3 M t 79 3 = M 79 3 := by
  unfold rs3
  refine ⟨?_, ?_, ?_, ?_⟩
  · rw [upm_ne (by decide), upm_ne (by decide), upm_eq]
  · rw [upm_ne (by decide), upm_eq]
  · rw [upm_eq]
  · rw [upm_ne (by decide), upm_ne (by decide), upm_ne (by decide)]
    unfold rs2 rs1
    rw [if_neg (by decide), if_neg (by decide), if_neg (by decide)]
theorem rs3_row {M : Mm} {t k : Int} (h : k ≠ 79 ∧ k ≠ 80 ∧ k ≠ 82 ∧ k ≠ 83) : rs3 M t k = M k := by
  unfold rs3
  rw [upm_row h.1, upm_row h.1, upm_row h.1]
  funext j
  unfold rs2 rs1
  rw [if_neg (fun q => h.2.2.2 q.1), if_neg (fun q => h.2.1 q.1), if_neg (fun q => h.2.2.1 q.1)]
theorem o_restore {M M1 M2 : Mm} {r r' n b t : Int} (hn : (n = 0 ∧ b = 45 ∧ t = 0) ∨ (n = 1 ∧ b = 62 ∧ t = 88)) (h : Rel M) (h7 : r = (if M 19 n = 0 then -3 else 1) ∧ M1 = (if M 19 n = 0 then M else ktk M 1 b)) (h8 : r' = (if M1 94 n = 0 then -3 else 1) ∧ M2 = (if M1 94 n = 0 then M1 else rs3 M1 t)) : r = r' ∧ Rel M2 := by
  obtain ⟨e7, m7⟩ := h7
  obtain ⟨e8, m8⟩ := h8
  have p0 := h.2.2.2.2.2.2.2.1
  have p1 := h.2.2.2.2.2.2.2.2.1
  have hIM0 : M 19 n ≠ 0 → IM M b t := fun c => by
    rcases hn with ⟨q1, q2, q3⟩ | ⟨q1, q2, q3⟩
    · rw [q1] at c; rw [q2, q3]; exact h.2.2.2.2.1 (by omega)
    · rw [q1] at c; rw [q2, q3]; exact h.2.2.2.2.2.1 (by omega)
  have hLB : LB M b := by
    rcases hn with ⟨q1, q2, q3⟩ | ⟨q1, q2, q3⟩
    · rw [q2]; exact h.2.1
    · rw [q2]; exact h.2.2.1
  have h94 : M 19 n = M 94 n := by
    rcases hn with ⟨q1, q2, q3⟩ | ⟨q1, q2, q3⟩
    · rw [q1]; exact p0.2
    · rw [q1]; exact p1.2
  by_cases c : M 19 n = 0
  · rw [if_pos c] at e7 m7
    subst m7
    rw [← h94, if_pos c] at e8 m8
    exact ⟨by rw [e7, e8], by rw [m8]; exact h⟩
  · rw [if_neg c] at e7 m7
    have e1 : ∀ k, 18 ≤ k → M1 k = M k := fun k hk => funext fun j => by rw [m7, ktk_no (by unfold CK; omega)]
    rw [e1 94 (by decide), ← h94, if_neg c] at e8 m8
    refine ⟨by rw [e7, e8], ?_⟩
    have hIM := hIM0 c
    have hl := h.2.2.2.1
    have er : ∀ k, 18 ≤ k → k ≠ 79 → k ≠ 80 → k ≠ 82 → k ≠ 83 → M2 k = M k := fun k q1 q2 q3 q4 q5 => by rw [m8, rs3_row ⟨q2, q3, q4, q5⟩, e1 k q1]
    have c1 : ∀ k j, k < 79 → M2 k j = ktk M 1 b k j := fun k j q => by rw [m8, rs3_row (by omega), m7]
    have ck : ∀ k j, CK 1 k j → M2 k j = M (k - 1 + b) j := fun k j q => by
      have q' := q
      unfold CK at q'
      rw [c1 k j (by omega), ktk_at (k' := k - 1 + b) (by omega) q rfl]
    have cn : ∀ k j, k < 79 → ¬ CK 1 k j → M2 k j = M k j := fun k j q1 q2 => by rw [c1 k j q1, ktk_no q2]
    have g : ∀ x j, CK 1 (1 + x) j → M2 (1 + x) j = M (b + x) j := fun x j hx => by rw [ck _ _ hx]; congr 1; omega
    have f80 : ∀ j, M2 80 j = if 0 ≤ j ∧ j < 24 then M 93 (t + j) else M 80 j := fun j => by rw [m8, rs3_80, e1 93 (by decide), e1 80 (by decide)]
    have f82 : ∀ j, M2 82 j = if 0 ≤ j ∧ j < 24 then M 93 (t + 24 + j) else M 82 j := fun j => by rw [m8, rs3_82, e1 93 (by decide), e1 82 (by decide)]
    have f83 : ∀ j, 0 ≤ j → j < 36 → M2 83 j = M 93 (t + 48 + j) := fun j q1 q2 => by rw [m8, rs3_83 ⟨q1, q2⟩, e1 93 (by decide)]
    have f79 := rs3_79 (M := M1) (t := t)
    rw [← m8, e1 93 (by decide), e1 79 (by decide)] at f79
    refine h.live (fun k hk => er k (by omega) (by omega) (by omega) (by omega) (by omega)) (hLB.from ck) ⟨fun w k h1 h2 => ?_, ⟨?_, ?_⟩, ⟨?_, fun j => ?_, fun j => ?_, fun j => ?_⟩, fun a c h1 h2 h3 h4 => ?_⟩ (h.2.2.2.2.2.2.1.congr (er 20 (by decide) (by decide) (by decide) (by decide) (by decide)) (er 21 (by decide) (by decide) (by decide) (by decide) (by decide)) (er 81 (by decide) (by decide) (by decide) (by decide) (by decide)) f79.2.2.2)
    · rw [f80]
      by_cases e : 0 ≤ k ∧ k < 6
      · have q := g (2 + w) k (by unfold CK; omega)
        rw [show 1 + (2 + w) = 3 + w by omega, show b + (2 + w) = b + 2 + w by omega] at q
        rw [q, if_pos (by omega), show t + (4 * k + w) = t + 4 * k + w by omega]
        exact hIM.1 w k h1 h2 e.1 e.2
      · rw [if_neg (by omega), cn (3 + w) k (by omega) (by unfold CK; omega)]
        exact hl.1 w k h1 h2
    · have q := ck 1 3 (by unfold CK; omega)
      rw [show (1 : Int) - 1 + b = b by omega] at q
      rw [q, f79.2.1]; exact hIM.2.1.1
    · have q := ck 1 4 (by unfold CK; omega)
      rw [show (1 : Int) - 1 + b = b by omega] at q
      rw [q, f79.2.2.1]; exact hIM.2.1.2
    · have q := g 13 3 (by unfold CK; omega)
      rw [show (1 : Int) + 13 = 14 by decide] at q
      rw [q, f79.1]; exact hIM.2.2.1.1
    · rw [f82]
      by_cases e : 0 ≤ j ∧ j < 8
      · have q := g 14 j (by unfold CK; omega)
        rw [show (1 : Int) + 14 = 15 by decide] at q
        rw [q, if_pos (by omega)]
        exact (hIM.2.2.1.2 j e.1 e.2).1
      · rw [if_neg (by omega), cn 15 j (by decide) (by unfold CK; omega)]; exact hl.2.2.1.2.1 j
    · rw [f82]
      by_cases e : 0 ≤ j ∧ j < 8
      · have q := g 15 j (by unfold CK; omega)
        rw [show (1 : Int) + 15 = 16 by decide] at q
        rw [q, if_pos (by omega), show t + 24 + (3 * j + 1) = t + 24 + 3 * j + 1 by omega]
        exact (hIM.2.2.1.2 j e.1 e.2).2.1
      · rw [if_neg (by omega), cn 16 j (by decide) (by unfold CK; omega)]; exact hl.2.2.1.2.2.1 j
    · rw [f82]
      by_cases e : 0 ≤ j ∧ j < 8
      · have q := g 16 j (by unfold CK; omega)
        rw [show (1 : Int) + 16 = 17 by decide] at q
        rw [q, if_pos (by omega), show t + 24 + (3 * j + 2) = t + 24 + 3 * j + 2 by omega]
        exact (hIM.2.2.1.2 j e.1 e.2).2.2
      · rw [if_neg (by omega), cn 17 j (by decide) (by unfold CK; omega)]; exact hl.2.2.1.2.2.2 j
    · have q := g (7 + a) c (by unfold CK; omega)
      rw [show 1 + (7 + a) = 8 + a by omega, show b + (7 + a) = b + 7 + a by omega] at q
      rw [q, f83 _ (by omega) (by omega)]
      exact hIM.2.2.2 a c h1 h2 h3 h4
/-- the first memory: the cough and the asked, of the three kept and of the reference; all in, all awake -/
def M00 : Mm := fun k j => if (k = 1 ∨ k = 45 ∨ k = 62) ∧ j = 3 then 5 else if (k = 1 ∨ k = 45 ∨ k = 62) ∧ j = 4 then 2 else if k = 79 ∧ j = 1 then 5 else if k = 79 ∧ j = 2 then 2 else if (k = 4 ∨ k = 5 ∨ k = 48 ∨ k = 49 ∨ k = 65 ∨ k = 66) ∧ 0 ≤ j ∧ j < 6 then 1 else if k = 80 ∧ 0 ≤ j ∧ j < 24 ∧ 1 ≤ j % 4 ∧ j % 4 ≤ 2 then 1 else 0
theorem M00_z {k j : Int} (h : k ≠ 1 ∧ k ≠ 45 ∧ k ≠ 62 ∧ (k ≠ 79 ∨ (j ≠ 1 ∧ j ≠ 2)) ∧ (k ≠ 4 ∧ k ≠ 5 ∧ k ≠ 48 ∧ k ≠ 49 ∧ k ≠ 65 ∧ k ≠ 66 ∨ ¬ (0 ≤ j ∧ j < 6)) ∧ (k ≠ 80 ∨ ¬ (0 ≤ j ∧ j < 24) ∨ j % 4 = 0 ∨ j % 4 = 3)) : M00 k j = 0 := by
  unfold M00
  rw [if_neg (by omega), if_neg (by omega), if_neg (by omega), if_neg (by omega), if_neg (by omega), if_neg (by omega)]
theorem M00_1 {k j : Int} (h : k = 4 ∨ k = 5 ∨ k = 48 ∨ k = 49 ∨ k = 65 ∨ k = 66) (hj : 0 ≤ j ∧ j < 6) : M00 k j = 1 := by
  unfold M00
  rw [if_neg (by omega), if_neg (by omega), if_neg (by omega), if_neg (by omega), if_pos ⟨h, hj⟩]
theorem M00_80 {j : Int} (hj : (0 ≤ j ∧ j < 24) ∧ 1 ≤ j % 4 ∧ j % 4 ≤ 2) : M00 80 j = 1 := by
  unfold M00
  rw [if_neg (by omega), if_neg (by omega), if_neg (by omega), if_neg (by omega), if_neg (by omega), if_pos (by omega)]
theorem Rel_0 : Rel M00 := by
  have hb : ∀ b, (b = 1 ∨ b = 45 ∨ b = 62) → LB M00 b := fun b hb => by
    have c3 : M00 b 3 = 5 := if_pos ⟨hb, rfl⟩
    have c4 : M00 b 4 = 2 := by
      unfold M00
      rw [if_neg (by omega), if_pos ⟨hb, rfl⟩]
    refine ⟨⟨?_, ?_, fun j h1 h2 => ?_⟩, fun k h1 h2 => ?_, by rw [c3]; decide, by rw [c4]; decide, fun a c h1 h2 h3 h4 => ?_⟩
    · rw [M00_z (by omega)]; decide
    · rw [M00_z (by omega)]; decide
    · rw [M00_z (by omega), M00_z (k := b + 15) (by omega), M00_z (k := b + 16) (by omega), M00_z (k := b + 13) (by omega)]
      omega
    · rw [M00_z (by omega), M00_1 (k := b + 3) (by omega) ⟨h1, h2⟩, M00_1 (k := b + 4) (by omega) ⟨h1, h2⟩, M00_z (k := b + 5) (by omega)]
      decide
    · rw [M00_z (by omega)]; decide
  refine ⟨hb 1 (by decide), hb 45 (by decide), hb 62 (by decide), ⟨fun w k h1 h2 => ?_, ⟨by decide, by decide⟩, ⟨by decide, fun j => ?_, fun j => ?_, fun j => ?_⟩, fun a c h1 h2 h3 h4 => ?_⟩, fun w => ?_, fun w => ?_, ⟨⟨by decide, by decide, fun i h1 h2 => ?_⟩, by decide, fun j => ?_⟩, ⟨Or.inl (by decide), by decide⟩, ⟨Or.inl (by decide), by decide⟩, by decide, by decide⟩
  · by_cases e : (1 ≤ w ∧ w ≤ 2) ∧ 0 ≤ k ∧ k < 6
    · rw [M00_1 (by omega) e.2, M00_80 (by omega)]
    · rw [M00_z (by omega), M00_z (by omega)]
  · rw [M00_z (by omega), M00_z (by omega)]
  · rw [M00_z (by omega), M00_z (by omega)]
  · rw [M00_z (by omega), M00_z (by omega)]
  · rw [M00_z (by omega), M00_z (by omega)]
  · exact absurd w (by decide)
  · exact absurd w (by decide)
  · rw [M00_z (by omega)]; decide
  · rw [M00_z (by omega), M00_z (by omega)]
