/-! ===== the calls that change the living state ===== -/
theorem LB.mk1 {M : Mm} (h1 : MOK (M 14 3) (M 15) (M 16) (M 17)) (h2 : ∀ k, 0 ≤ k → k < 6 → (0 ≤ M 3 k ∧ M 3 k ≤ 999) ∧ (0 ≤ M 4 k ∧ M 4 k ≤ 1) ∧ (0 ≤ M 5 k ∧ M 5 k ≤ 1) ∧ 0 ≤ M 6 k ∧ M 6 k ≤ 99) (h3 : 0 ≤ M 1 3 ∧ M 1 3 ≤ 99) (h4 : 0 ≤ M 1 4 ∧ M 1 4 ≤ 99) (h5 : ∀ a c, 0 ≤ a → a < 6 → 0 ≤ c → c < 6 → 0 ≤ M (8 + a) c ∧ M (8 + a) c ≤ 99) : LB M 1 := ⟨h1, h2, h3, h4, h5⟩
theorem LB.s1 {M : Mm} (h : LB M 1) : ∀ k, 0 ≤ k → k < 6 → (0 ≤ M 3 k ∧ M 3 k ≤ 999) ∧ (0 ≤ M 4 k ∧ M 4 k ≤ 1) ∧ (0 ≤ M 5 k ∧ M 5 k ≤ 1) ∧ 0 ≤ M 6 k ∧ M 6 k ≤ 99 := h.2.1
theorem LB.l1 {M : Mm} (h : LB M 1) : ∀ a c, 0 ≤ a → a < 6 → 0 ≤ c → c < 6 → 0 ≤ M (8 + a) c ∧ M (8 + a) c ≤ 99 := h.2.2.2.2
theorem LB.congr {M M' : Mm} {b : Int} (h : LB M b) (hr : ∀ k, b ≤ k → k ≤ b + 16 → M' k = M k) : LB M' b := by
  unfold LB
  rw [hr (b + 13) (by omega) (by omega), hr (b + 14) (by omega) (by omega), hr (b + 15) (by omega) (by omega), hr (b + 16) (by omega) (by omega), hr (b + 2) (by omega) (by omega), hr (b + 3) (by omega) (by omega), hr (b + 4) (by omega) (by omega), hr (b + 5) (by omega) (by omega), hr b (by omega) (by omega)]
  refine ⟨h.1, h.2.1, h.2.2.1, h.2.2.2.1, fun a c h1 h2 h3 h4 => ?_⟩
  rw [hr (b + 7 + a) (by omega) (by omega)]
  exact h.2.2.2.2 a c h1 h2 h3 h4
theorem IM.congr {M M' : Mm} {b t : Int} (h : IM M b t) (hr : ∀ k, b ≤ k → k ≤ b + 16 → M' k = M k) (h93 : M' 93 = M 93) : IM M' b t := by
  unfold IM
  rw [h93, hr (b + 13) (by omega) (by omega), hr (b + 14) (by omega) (by omega), hr (b + 15) (by omega) (by omega), hr (b + 16) (by omega) (by omega), hr b (by omega) (by omega)]
  refine ⟨fun w k h1 h2 h3 h4 => ?_, h.2.1, h.2.2.1, fun a c h1 h2 h3 h4 => ?_⟩
  · rw [hr (b + 2 + w) (by omega) (by omega)]
    exact h.1 w k h1 h2 h3 h4
  · rw [hr (b + 7 + a) (by omega) (by omega)]
    exact h.2.2.2 a c h1 h2 h3 h4
theorem Rel.live {M M2 : Mm} (h : Rel M) (hr : ∀ k, k = 19 ∨ k = 38 ∨ k = 39 ∨ (45 ≤ k ∧ k ≤ 78) ∨ 93 ≤ k → M2 k = M k) (hLB : LB M2 1) (hLV : LV M2) (hPD : PD M2) : Rel M2 := by
  obtain ⟨h1, h2, h3, h4, h5, h6, h7, h8, h9, h10⟩ := h
  refine ⟨hLB, h2.congr (fun k q1 q2 => hr k (by omega)), h3.congr (fun k q1 q2 => hr k (by omega)), hLV, fun w => (h5 (by rw [hr 19 (by decide)] at w; exact w)).congr (fun k q1 q2 => hr k (by omega)) (hr 93 (by decide)), fun w => (h6 (by rw [hr 19 (by decide)] at w; exact w)).congr (fun k q1 q2 => hr k (by omega)) (hr 93 (by decide)), hPD, ?_, ?_, ?_, ?_⟩
  · rw [hr 19 (by decide), hr 94 (by decide)]; exact h8
  · rw [hr 19 (by decide), hr 94 (by decide)]; exact h9
  · rw [hr 38 (by decide)]; exact h10.1
  · rw [hr 39 (by decide)]; exact h10.2
theorem PD.congr {M M' : Mm} (h : PD M) (h20 : M' 20 = M 20) (h21 : M' 21 = M 21) (h81 : M' 81 = M 81) (h79 : M' 79 3 = M 79 3) : PD M' := by
  unfold PD
  rw [h20, h21, h81, h79]
  exact h
/-- two writes, one on each side -/
theorem up2 (M : Mm) (a b z c d y : Int) (k : Int) (h1 : k ≠ a) (h2 : k ≠ c) : (upm (upm M a b z) c d y) k = M k := by rw [upm_row h2, upm_row h1]
theorem o_set {M M1 M2 : Mm} {r r' k w z : Int} (h : Rel M) (h7 : r = (if 0 ≤ k ∧ k < 6 then (if (0 ≤ w ∧ w ≤ 3) ∧ 0 ≤ z ∧ z ≤ mostF w then M (3 + w) k else -2) else -1) ∧ M1 = (if (0 ≤ k ∧ k < 6) ∧ (0 ≤ w ∧ w ≤ 3) ∧ 0 ≤ z ∧ z ≤ mostF w then upm M (3 + w) k z else M))
    (h8 : r' = (if 0 ≤ k ∧ k < 6 then (if (0 ≤ w ∧ w ≤ 3) ∧ 0 ≤ z ∧ z ≤ mostF w then M1 80 (4 * k + w) else -2) else -1) ∧ M2 = (if (0 ≤ k ∧ k < 6) ∧ (0 ≤ w ∧ w ≤ 3) ∧ 0 ≤ z ∧ z ≤ mostF w then upm M1 80 (4 * k + w) z else M1)) : r = r' ∧ Rel M2 := by
  obtain ⟨e7, m7⟩ := h7
  obtain ⟨e8, m8⟩ := h8
  by_cases c : (0 ≤ k ∧ k < 6) ∧ (0 ≤ w ∧ w ≤ 3) ∧ 0 ≤ z ∧ z ≤ mostF w
  · rw [if_pos c] at m7 m8
    rw [if_pos c.1, if_pos c.2] at e7 e8
    subst m7
    subst m8
    obtain ⟨c1, c2, c3⟩ := c
    refine ⟨by rw [e7, e8, upm_row (by omega)]; exact h.2.2.2.1.1 w k c2.1 (by omega), ?_⟩
    have er : ∀ a, a ≠ 3 + w → a ≠ 80 → (upm (upm M (3 + w) k z) 80 (4 * k + w) z) a = M a := fun a q1 q2 => up2 M _ _ _ _ _ _ a q1 q2
    have e3 : ∀ w' k', 0 ≤ w' → w' < 4 → (upm (upm M (3 + w) k z) 80 (4 * k + w) z) (3 + w') k' = if w' = w ∧ k' = k then z else M (3 + w') k' := fun w' k' q1 q2 => by
      rw [upm_row (by omega)]
      by_cases e : w' = w ∧ k' = k
      · rw [if_pos e, e.1, e.2, upm_eq]
      · rw [if_neg e, upm_ne (by omega)]
    have hl := h.2.2.2.1
    refine h.live (fun k hk => er k (by omega) (by omega)) (LB.mk1 ?_ (fun j h1 h2 => ?_) ?_ ?_ (fun a c h1 h2 h3 h4 => ?_)) ⟨fun w' k' h1 h2 => ?_, ?_, ?_, fun a c h1 h2 h3 h4 => ?_⟩ (h.2.2.2.2.2.2.1.congr (er 20 (by omega) (by decide)) (er 21 (by omega) (by decide)) (er 81 (by omega) (by decide)) (by rw [er 79 (by omega) (by decide)]))
    · rw [er 14 (by omega) (by decide), er 15 (by omega) (by decide), er 16 (by omega) (by decide), er 17 (by omega) (by decide)]
      exact h.mok
    · have hs := h.1.s1 j h1 h2
      have a0 := e3 0 j (by decide) (by decide)
      have a1 := e3 1 j (by decide) (by decide)
      have a2 := e3 2 j (by decide) (by decide)
      have a3 := e3 3 j (by decide) (by decide)
      rw [show (3 : Int) + 0 = 3 by decide] at a0
      rw [show (3 : Int) + 1 = 4 by decide] at a1
      rw [show (3 : Int) + 2 = 5 by decide] at a2
      rw [show (3 : Int) + 3 = 6 by decide] at a3
      have hm : mostF w = if w = 0 then 999 else if w = 3 then 99 else 1 := rfl
      rw [a0, a1, a2, a3]
      refine ⟨?_, ?_, ?_, ?_⟩
      · by_cases e : (0 : Int) = w ∧ j = k
        · rw [if_pos e]; rw [if_pos (by omega)] at hm; omega
        · rw [if_neg e]; exact hs.1
      · by_cases e : (1 : Int) = w ∧ j = k
        · rw [if_pos e]; rw [if_neg (by omega), if_neg (by omega)] at hm; omega
        · rw [if_neg e]; exact hs.2.1
      · by_cases e : (2 : Int) = w ∧ j = k
        · rw [if_pos e]; rw [if_neg (by omega), if_neg (by omega)] at hm; omega
        · rw [if_neg e]; exact hs.2.2.1
      · by_cases e : (3 : Int) = w ∧ j = k
        · rw [if_pos e]; rw [if_neg (by omega), if_pos (by omega)] at hm; omega
        · rw [if_neg e]; exact hs.2.2.2
    · rw [er 1 (by omega) (by decide)]; exact h.1.2.2.1
    · rw [er 1 (by omega) (by decide)]; exact h.1.2.2.2.1
    · rw [er (8 + a) (by omega) (by omega)]; exact h.1.l1 a c h1 h2 h3 h4
    · rw [e3 w' k' h1 h2]
      by_cases e : w' = w ∧ k' = k
      · rw [if_pos e, e.1, e.2, upm_eq]
      · rw [if_neg e, upm_ne (Or.inr (by omega)), upm_row (by omega)]
        exact hl.1 w' k' h1 h2
    · rw [er 1 (by omega) (by decide), er 79 (by omega) (by decide)]; exact hl.2.1
    · rw [er 14 (by omega) (by decide), er 15 (by omega) (by decide), er 16 (by omega) (by decide), er 17 (by omega) (by decide), er 79 (by omega) (by decide), er 82 (by omega) (by decide)]; exact hl.2.2.1
    · rw [er (8 + a) (by omega) (by omega), er 83 (by omega) (by decide)]; exact hl.2.2.2 a c h1 h2 h3 h4
  · rw [if_neg c] at m7 m8
    subst m7
    subst m8
    refine ⟨?_, h⟩
    rw [e7, e8]
    by_cases c1 : 0 ≤ k ∧ k < 6
    · rw [if_pos c1, if_pos c1, if_neg (fun w => c ⟨c1, w⟩), if_neg (fun w => c ⟨c1, w⟩)]
    · rw [if_neg c1, if_neg c1]
theorem o_say {M M1 M2 : Mm} {r r' s : Int} (h : Rel M) (h7 : r = (if 33 ≤ s ∧ s ≤ 126 then (if M 20 1 < 40 then M 20 1 + 1 else -4) else -2) ∧ M1 = (if 33 ≤ s ∧ s ≤ 126 then (if M 20 1 < 40 then upm (upm M 21 (M 20 1) s) 20 1 (M 20 1 + 1) else M) else M))
    (h8 : r' = (if 33 ≤ s ∧ s ≤ 126 then (if M1 79 3 < 40 then M1 79 3 + 1 else -4) else -2) ∧ M2 = (if 33 ≤ s ∧ s ≤ 126 then (if M1 79 3 < 40 then upm (upm M1 81 (M1 79 3) s) 79 3 (M1 79 3 + 1) else M1) else M1)) : r = r' ∧ Rel M2 := by
  obtain ⟨e7, m7⟩ := h7
  obtain ⟨e8, m8⟩ := h8
  have hp := h.pad
  have hpd := h.2.2.2.2.2.2.1
  by_cases c : 33 ≤ s ∧ s ≤ 126
  · rw [if_pos c] at e7 m7 e8 m8
    by_cases c2 : M 20 1 < 40
    · rw [if_pos c2] at e7 m7
      have e79 : M1 79 = M 79 := by rw [m7, upm_row (by decide), upm_row (by decide)]
      rw [e79, h.e20, if_pos c2] at e8 m8
      refine ⟨by rw [e7, e8], ?_⟩
      have er : ∀ a, a ≠ 20 → a ≠ 21 → a ≠ 79 → a ≠ 81 → M2 a = M a := fun a q1 q2 q3 q4 => by rw [m8, upm_row q3, upm_row q4, m7, upm_row q1, upm_row q2]
      have f20 : M2 20 1 = M 20 1 + 1 := by rw [m8, upm_row (by decide), upm_row (by decide), m7, upm_eq]
      have f21 : ∀ j, M2 21 j = if j = M 20 1 then s else M 21 j := fun j => by
        rw [m8, upm_row (by decide), upm_row (by decide), m7, upm_row (by decide)]
        by_cases e : j = M 20 1
        · rw [if_pos e, e, upm_eq]
        · rw [if_neg e, upm_ne (Or.inr e)]
      have f81 : ∀ j, M2 81 j = if j = M 20 1 then s else M 81 j := fun j => by
        rw [m8, upm_row (by decide)]
        by_cases e : j = M 20 1
        · rw [if_pos e, e, upm_eq]
        · rw [if_neg e, upm_ne (Or.inr e), m7, upm_row (by decide), upm_row (by decide)]
      have f793 : M2 79 3 = M 20 1 + 1 := by rw [m8, upm_eq]
      have f79 : ∀ j, j ≠ 3 → M2 79 j = M 79 j := fun j hj => by rw [m8, upm_ne (Or.inr hj), upm_row (by decide), e79]
      have hl := h.2.2.2.1
      refine h.live (fun k hk => er k (by omega) (by omega) (by omega) (by omega)) (h.1.congr (fun k q1 q2 => er k (by omega) (by omega) (by omega) (by omega))) ?_ ⟨⟨by rw [f20]; have := hp.1; omega, by rw [f20]; omega, fun i h1 h2 => ?_⟩, by rw [f20, f793], fun j => ?_⟩
      · unfold LV
        rw [er 80 (by decide) (by decide) (by decide) (by decide), er 1 (by decide) (by decide) (by decide) (by decide), er 14 (by decide) (by decide) (by decide) (by decide), er 15 (by decide) (by decide) (by decide) (by decide), er 16 (by decide) (by decide) (by decide) (by decide), er 17 (by decide) (by decide) (by decide) (by decide), er 82 (by decide) (by decide) (by decide) (by decide), er 83 (by decide) (by decide) (by decide) (by decide), f79 1 (by decide), f79 2 (by decide), f79 5 (by decide)]
        refine ⟨fun w k h1 h2 => ?_, hl.2.1, hl.2.2.1, fun a c h1 h2 h3 h4 => ?_⟩
        · rw [er (3 + w) (by omega) (by omega) (by omega) (by omega)]; exact hl.1 w k h1 h2
        · rw [er (8 + a) (by omega) (by omega) (by omega) (by omega)]; exact hl.2.2.2 a c h1 h2 h3 h4
      · rw [f21 i]
        by_cases e : i = M 20 1
        · rw [if_pos e]; omega
        · rw [if_neg e]; exact hp.2.2 i h1 h2
      · rw [f21 j, f81 j, hpd.2.2 j]
    · rw [if_neg c2] at e7 m7
      subst m7
      rw [h.e20, if_neg c2] at e8 m8
      exact ⟨by rw [e7, e8], by rw [m8]; exact h⟩
  · rw [if_neg c] at e7 m7 e8 m8
    subst m7
    exact ⟨by rw [e7, e8], by rw [m8]; exact h⟩
theorem o_wipe {M M1 M2 : Mm} {r r' : Int} (h : Rel M) (h7 : r = M 20 1 ∧ M1 = upm M 20 1 0) (h8 : r' = M1 79 3 ∧ M2 = upm M1 79 3 0) : r = r' ∧ Rel M2 := by
  obtain ⟨e7, m7⟩ := h7
  obtain ⟨e8, m8⟩ := h8
  have hp := h.pad
  have hpd := h.2.2.2.2.2.2.1
  have er : ∀ a, a ≠ 20 → a ≠ 79 → M2 a = M a := fun a q1 q2 => by rw [m8, upm_row q2, m7, upm_row q1]
  have f79 : ∀ j, j ≠ 3 → M2 79 j = M 79 j := fun j hj => by rw [m8, upm_ne (Or.inr hj), m7, upm_row (by decide)]
  have f20 : M2 20 1 = 0 := by rw [m8, upm_row (by decide), m7, upm_eq]
  have f793 : M2 79 3 = 0 := by rw [m8, upm_eq]
  have hl := h.2.2.2.1
  refine ⟨by rw [e7, e8, m7, upm_row (by decide), h.e20], ?_⟩
  refine h.live (fun k hk => er k (by omega) (by omega)) (h.1.congr (fun k q1 q2 => er k (by omega) (by omega))) ?_ ⟨⟨by rw [f20]; decide, by rw [f20]; decide, fun i h1 h2 => by rw [er 21 (by decide) (by decide)]; exact hp.2.2 i h1 h2⟩, by rw [f20, f793], fun j => by rw [er 21 (by decide) (by decide), er 81 (by decide) (by decide)]; exact hpd.2.2 j⟩
  unfold LV
  rw [er 80 (by decide) (by decide), er 1 (by decide) (by decide), er 14 (by decide) (by decide), er 15 (by decide) (by decide), er 16 (by decide) (by decide), er 17 (by decide) (by decide), er 82 (by decide) (by decide), er 83 (by decide) (by decide), f79 1 (by decide), f79 2 (by decide), f79 5 (by decide)]
  refine ⟨fun w k h1 h2 => ?_, hl.2.1, hl.2.2.1, fun a c h1 h2 h3 h4 => ?_⟩
  · rw [er (3 + w) (by omega) (by omega)]; exact hl.1 w k h1 h2
  · rw [er (8 + a) (by omega) (by omega)]; exact hl.2.2.2 a c h1 h2 h3 h4
