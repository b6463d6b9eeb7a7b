/-! ===== image, both sides ===== -/
theorem im3_out {M : Mm} {t n j : Int} (h : j < t ∨ t + 87 ≤ j) : im3 M t n 93 j = M 93 j := by
  unfold im3
  rw [upm_row (by decide), upm_ne (by omega), upm_ne (by omega), upm_ne (by omega)]
  unfold im2 im1
  rw [if_neg (by omega), if_neg (by omega), if_neg (by omega)]
theorem im3_80 {M : Mm} {t n j : Int} (h : 0 ≤ j ∧ j < 24) : im3 M t n 93 (t + j) = M 80 j := by
  unfold im3
  rw [upm_row (by decide), upm_ne (by omega), upm_ne (by omega), upm_ne (by omega)]
  unfold im2 im1
  rw [if_neg (by omega), if_pos (by omega)]
  congr 1
  omega
theorem im3_82 {M : Mm} {t n j : Int} (h : 0 ≤ j ∧ j < 24) : im3 M t n 93 (t + 24 + j) = M 82 j := by
  unfold im3
  rw [upm_row (by decide), upm_ne (by omega), upm_ne (by omega), upm_ne (by omega)]
  unfold im2 im1
  rw [if_neg (by omega), if_neg (by omega), if_pos (by omega)]
  congr 1
  omega
theorem im3_83 {M : Mm} {t n j : Int} (h : 0 ≤ j ∧ j < 36) : im3 M t n 93 (t + 48 + j) = M 83 j := by
  unfold im3
  rw [upm_row (by decide), upm_ne (by omega), upm_ne (by omega), upm_ne (by omega)]
  unfold im2
  rw [if_pos (by omega)]
  congr 1
  omega
theorem im3_84 {M : Mm} {t n : Int} : im3 M t n 93 (t + 84) = M 79 5 := by
  unfold im3
  rw [upm_row (by decide), upm_ne (by omega), upm_ne (by omega), upm_eq]
theorem im3_85 {M : Mm} {t n : Int} : im3 M t n 93 (t + 85) = M 79 1 := by
  unfold im3
  rw [upm_row (by decide), upm_ne (by omega), upm_eq]
theorem im3_86 {M : Mm} {t n : Int} : im3 M t n 93 (t + 86) = M 79 2 := by
  unfold im3
  rw [upm_row (by decide), upm_eq]
theorem im3_row {M : Mm} {t n k : Int} (h : k ≠ 93 ∧ k ≠ 94) : im3 M t n k = M k := by
  unfold im3
  rw [upm_row h.2, upm_row h.1, upm_row h.1, upm_row h.1]
  funext j
  unfold im2 im1
  rw [if_neg (fun q => h.1 q.1), if_neg (fun q => h.1 q.1), if_neg (fun q => h.1 q.1)]
theorem im3_94 {M : Mm} {t n j : Int} : im3 M t n 94 j = if j = n then 1 else M 94 j := by
  unfold im3
  by_cases e : j = n
  · rw [if_pos e, e, upm_eq]
  · rw [if_neg e, upm_ne (Or.inr e), upm_row (by decide), upm_row (by decide), upm_row (by decide)]
    unfold im2 im1
    rw [if_neg (by omega), if_neg (by omega), if_neg (by omega)]
theorem MOK.congr {c c' : Int} {bo mi be bo' mi' be' : Int → Int} (h : MOK c bo mi be) (hc : c' = c) (hj : ∀ j, 0 ≤ j → j < 8 → bo' j = bo j ∧ mi' j = mi j ∧ be' j = be j) : MOK c' bo' mi' be' := by
  subst hc
  refine ⟨h.1, h.2.1, fun j h1 h2 => ?_⟩
  obtain ⟨a, b, c⟩ := hj j h1 h2
  rw [a, b, c]
  exact h.2.2 j h1 h2
theorem LB.from {M M' : Mm} {b s : Int} (h : LB M s) (hr : ∀ k j, CK b k j → M' k j = M (k - b + s) j) : LB M' b := by
  have g : ∀ x j, CK b (b + x) j → M' (b + x) j = M (s + x) j := fun x j hx => by rw [hr _ _ hx]; congr 1; omega
  have g0 : ∀ j, CK b b j → M' b j = M s j := fun j hx => by rw [hr _ _ hx]; congr 1; omega
  refine ⟨h.1.congr (g 13 3 (by unfold CK; omega)) (fun j h1 h2 => ⟨g 14 j (by unfold CK; omega), g 15 j (by unfold CK; omega), g 16 j (by unfold CK; omega)⟩), fun k h1 h2 => ?_, ?_, ?_, fun a c h1 h2 h3 h4 => ?_⟩
  · rw [g 2 k (by unfold CK; omega), g 3 k (by unfold CK; omega), g 4 k (by unfold CK; omega), g 5 k (by unfold CK; omega)]
    exact h.2.1 k h1 h2
  · rw [g0 3 (by unfold CK; omega)]; exact h.2.2.1
  · rw [g0 4 (by unfold CK; omega)]; exact h.2.2.2.1
  · have e := g (7 + a) c (by unfold CK; omega)
    rw [show b + (7 + a) = b + 7 + a by omega, show s + (7 + a) = s + 7 + a by omega] at e
    rw [e]
    exact h.2.2.2.2 a c h1 h2 h3 h4
theorem IM.congr2 {M M' : Mm} {b t : Int} (h : IM M b t) (hr : ∀ k, b ≤ k → k ≤ b + 16 → M' k = M k) (h93 : ∀ j, t ≤ j → j < t + 87 → M' 93 j = M 93 j) : IM M' b t := by
  unfold IM
  rw [hr (b + 13) (by omega) (by omega), hr (b + 14) (by omega) (by omega), hr (b + 15) (by omega) (by omega), hr (b + 16) (by omega) (by omega), hr b (by omega) (by omega), h93 (t + 84) (by omega) (by omega), h93 (t + 85) (by omega) (by omega), h93 (t + 86) (by omega) (by omega)]
  refine ⟨fun w k h1 h2 h3 h4 => ?_, h.2.1, ⟨h.2.2.1.1, fun j h1 h2 => ?_⟩, fun a c h1 h2 h3 h4 => ?_⟩
  · rw [hr (b + 2 + w) (by omega) (by omega), h93 _ (by omega) (by omega)]
    exact h.1 w k h1 h2 h3 h4
  · rw [h93 (t + 24 + 3 * j) (by omega) (by omega), h93 (t + 24 + 3 * j + 1) (by omega) (by omega), h93 (t + 24 + 3 * j + 2) (by omega) (by omega)]
    exact h.2.2.1.2 j h1 h2
  · rw [hr (b + 7 + a) (by omega) (by omega), h93 _ (by omega) (by omega)]
    exact h.2.2.2 a c h1 h2 h3 h4
theorem o_image {M M1 M2 : Mm} {r r' n b t : Int} (hn : (n = 0 ∧ b = 45 ∧ t = 0) ∨ (n = 1 ∧ b = 62 ∧ t = 88)) (h : Rel M) (h7 : r = 1 ∧ M1 = upm (ktk M b 1) 19 n 1) (h8 : r' = 1 ∧ M2 = im3 M1 t n) : r = r' ∧ Rel M2 := by
  refine ⟨by rw [h7.1, h8.1], ?_⟩
  have m7 := h7.2
  have m8 := h8.2
  have hl := h.2.2.2.1
  have c1 : ∀ k j, k ≠ 19 → k ≠ 93 → k ≠ 94 → M2 k j = ktk M b 1 k j := fun k j q1 q2 q3 => by rw [m8, im3_row ⟨q2, q3⟩, m7, upm_row q1]
  have er : ∀ k, k ≠ 19 → k ≠ 93 → k ≠ 94 → (k < b ∨ b + 16 < k) → M2 k = M k := fun k q1 q2 q3 q4 => funext fun j => by
    rw [c1 k j q1 q2 q3, ktk_no (by unfold CK; omega)]
  have e1 : ∀ k, 79 ≤ k → M1 k = M k := fun k hk => funext fun j => by rw [m7, upm_row (by omega), ktk_no (by unfold CK; omega)]
  have f19 : ∀ j, M2 19 j = if j = n then 1 else M 19 j := fun j => by
    rw [m8, im3_row (by decide), m7]
    by_cases e : j = n
    · rw [if_pos e, e, upm_eq]
    · rw [if_neg e, upm_ne (Or.inr e), ktk_no (by unfold CK; omega)]
  have f94 : ∀ j, M2 94 j = if j = n then 1 else M 94 j := fun j => by rw [m8, im3_94, e1 94 (by decide)]
  have g80 : ∀ j, 0 ≤ j → j < 24 → M2 93 (t + j) = M 80 j := fun j q1 q2 => by rw [m8, im3_80 ⟨q1, q2⟩, e1 80 (by decide)]
  have g82 : ∀ j, 0 ≤ j → j < 24 → M2 93 (t + 24 + j) = M 82 j := fun j q1 q2 => by rw [m8, im3_82 ⟨q1, q2⟩, e1 82 (by decide)]
  have g83 : ∀ j, 0 ≤ j → j < 36 → M2 93 (t + 48 + j) = M 83 j := fun j q1 q2 => by rw [m8, im3_83 ⟨q1, q2⟩, e1 83 (by decide)]
  have g84 : M2 93 (t + 84) = M 79 5 := by rw [m8, im3_84, e1 79 (by decide)]
  have g85 : M2 93 (t + 85) = M 79 1 := by rw [m8, im3_85, e1 79 (by decide)]
  have g86 : M2 93 (t + 86) = M 79 2 := by rw [m8, im3_86, e1 79 (by decide)]
  have gout : ∀ j, j < t ∨ t + 87 ≤ j → M2 93 j = M 93 j := fun j q => by rw [m8, im3_out q, e1 93 (by decide)]
  have ck : ∀ k j, CK b k j → M2 k j = M (k - b + 1) j := fun k j q => by
    have q' := q
    unfold CK at q'
    rw [c1 k j (by omega) (by omega) (by omega), ktk_at (k' := k - b + 1) (by omega) q rfl]
  have nLB : LB M2 b := h.1.from ck
  have nIM : IM M2 b t := by
    have g : ∀ x j, CK b (b + x) j → M2 (b + x) j = M (1 + x) j := fun x j hx => by rw [ck _ _ hx]; congr 1; omega
    have g0 : ∀ j, CK b b j → M2 b j = M 1 j := fun j hx => by rw [ck _ _ hx]; congr 1; omega
    refine ⟨fun w k h1 h2 h3 h4 => ?_, ⟨?_, ?_⟩, ⟨?_, fun j h1 h2 => ⟨?_, ?_, ?_⟩⟩, fun a c h1 h2 h3 h4 => ?_⟩
    · have e := g (2 + w) k (by unfold CK; omega)
      rw [show b + (2 + w) = b + 2 + w by omega, show 1 + (2 + w) = 3 + w by omega] at e
      rw [e, show t + 4 * k + w = t + (4 * k + w) by omega, g80 _ (by omega) (by omega)]
      exact hl.1 w k h1 h2
    · rw [g0 3 (by unfold CK; omega), g85]; exact hl.2.1.1
    · rw [g0 4 (by unfold CK; omega), g86]; exact hl.2.1.2
    · rw [g 13 3 (by unfold CK; omega), g84]; exact hl.2.2.1.1
    · rw [g 14 j (by unfold CK; omega), g82 (3 * j) (by omega) (by omega)]; exact hl.2.2.1.2.1 j
    · rw [g 15 j (by unfold CK; omega), show t + 24 + 3 * j + 1 = t + 24 + (3 * j + 1) by omega, g82 (3 * j + 1) (by omega) (by omega)]; exact hl.2.2.1.2.2.1 j
    · rw [g 16 j (by unfold CK; omega), show t + 24 + 3 * j + 2 = t + 24 + (3 * j + 2) by omega, g82 (3 * j + 2) (by omega) (by omega)]; exact hl.2.2.1.2.2.2 j
    · have e := g (7 + a) c (by unfold CK; omega)
      rw [show b + (7 + a) = b + 7 + a by omega, show 1 + (7 + a) = 8 + a by omega] at e
      rw [e, g83 (6 * a + c) (by omega) (by omega)]
      exact hl.2.2.2 a c h1 h2 h3 h4
  have oLB : ∀ s, (s = 1 ∨ s = 45 ∨ s = 62) → s ≠ b → LB M s → LB M2 s := fun s q1 q2 hs => hs.congr (fun k w1 w2 => er k (by omega) (by omega) (by omega) (by omega))
  have oIM : ∀ s u, (s = 45 ∧ u = 0) ∨ (s = 62 ∧ u = 88) → s ≠ b → IM M s u → IM M2 s u := fun s u q1 q2 hs => hs.congr2 (fun k w1 w2 => er k (by omega) (by omega) (by omega) (by omega)) (fun j w1 w2 => gout j (by omega))
  have nLV : LV M2 := by
    unfold LV
    rw [er 80 (by decide) (by decide) (by decide) (by omega), er 1 (by decide) (by decide) (by decide) (by omega), er 79 (by decide) (by decide) (by decide) (by omega), er 14 (by decide) (by decide) (by decide) (by omega), er 15 (by decide) (by decide) (by decide) (by omega), er 16 (by decide) (by decide) (by decide) (by omega), er 17 (by decide) (by decide) (by decide) (by omega), er 82 (by decide) (by decide) (by decide) (by omega), er 83 (by decide) (by decide) (by decide) (by omega)]
    refine ⟨fun w k h1 h2 => ?_, hl.2.1, hl.2.2.1, fun a c h1 h2 h3 h4 => ?_⟩
    · rw [er (3 + w) (by omega) (by omega) (by omega) (by omega)]; exact hl.1 w k h1 h2
    · rw [er (8 + a) (by omega) (by omega) (by omega) (by omega)]; exact hl.2.2.2 a c h1 h2 h3 h4
  have nPD : PD M2 := h.2.2.2.2.2.2.1.congr (er 20 (by decide) (by decide) (by decide) (by omega)) (er 21 (by decide) (by decide) (by decide) (by omega)) (er 81 (by decide) (by decide) (by decide) (by omega)) (by rw [er 79 (by decide) (by decide) (by decide) (by omega)])
  have n38 : M2 38 0 = 0 := by rw [er 38 (by decide) (by decide) (by decide) (by omega)]; exact h.2.2.2.2.2.2.2.2.2.1
  have n39 : M2 39 0 = 0 := by rw [er 39 (by decide) (by decide) (by decide) (by omega)]; exact h.2.2.2.2.2.2.2.2.2.2
  have p0 := h.2.2.2.2.2.2.2.1
  have p1 := h.2.2.2.2.2.2.2.2.1
  rcases hn with ⟨q1, q2, q3⟩ | ⟨q1, q2, q3⟩
  · subst q1; subst q2; subst q3
    refine ⟨oLB 1 (by decide) (by decide) h.1, nLB, oLB 62 (by decide) (by decide) h.2.2.1, nLV, fun _ => nIM, fun w => oIM 62 88 (by decide) (by decide) (h.2.2.2.2.2.1 (by rw [f19 1] at w; exact w)), nPD, ?_, ?_, n38, n39⟩
    · rw [f19 0, f94 0]; exact ⟨Or.inr rfl, rfl⟩
    · rw [f19 1, f94 1]; exact p1
  · subst q1; subst q2; subst q3
    refine ⟨oLB 1 (by decide) (by decide) h.1, oLB 45 (by decide) (by decide) h.2.1, nLB, nLV, fun w => oIM 45 0 (by decide) (by decide) (h.2.2.2.2.1 (by rw [f19 0] at w; exact w)), fun _ => nIM, nPD, ?_, ?_, n38, n39⟩
    · rw [f19 0, f94 0]; exact p0
    · rw [f19 1, f94 1]; exact ⟨Or.inr rfl, rfl⟩
