/-! ===== deals ===== -/
def hasP (c : Int) (bo : Int → Int) (k : Int) : Prop := ∃ j, (0 ≤ j ∧ j < c) ∧ bo j = k
noncomputable def ps (c : Int) (bo : Int → Int) (k : Int) : Int := sumN (fun i => b2 (hasP c bo i)) k.toNat
theorem ps_step {c k : Int} {bo : Int → Int} (h : 0 ≤ k) : ps c bo (k + 1) = ps c bo k + b2 (hasP c bo k) := sumN_step h
theorem ps_nat {c : Int} {bo : Int → Int} (n : Nat) : ps c bo (n : Int) = sumN (fun i => b2 (hasP c bo i)) n := by unfold ps; rw [Int.toNat_natCast]
theorem ps_rng {c k : Int} {bo : Int → Int} (h : 0 ≤ k) : 0 ≤ ps c bo k ∧ ps c bo k ≤ k := by
  have := sumN_rng (g := fun i => b2 (hasP c bo i)) (a := 0) (b := 1) (n := k.toNat) (fun j _ _ => by have := b2_01 (hasP c bo j); show 0 ≤ b2 (hasP c bo j) ∧ b2 (hasP c bo j) ≤ 1; omega)
  unfold ps
  omega
theorem ps_mono {c : Int} {bo : Int → Int} : ∀ (d : Nat) (k : Int), 0 ≤ k → ps c bo k ≤ ps c bo (k + d)
  | 0, k, _ => by simp
  | d + 1, k, h => by
    have := ps_mono (c := c) (bo := bo) d k h
    have h2 := ps_step (c := c) (bo := bo) (k := k + d) (by omega)
    have h3 := b2_01 (hasP c bo (k + d))
    rw [show k + ((d + 1 : Nat) : Int) = k + d + 1 by omega]
    omega
theorem ps_lt {c k k' : Int} {bo : Int → Int} (h : 0 ≤ k) (hk : k < k') (hh : hasP c bo k) : ps c bo k < ps c bo k' := by
  have h1 := ps_step (c := c) (bo := bo) (k := k) h
  have h2 := ps_mono (c := c) (bo := bo) (k' - (k + 1)).toNat (k + 1) (by omega)
  rw [show k + 1 + (((k' - (k + 1)).toNat : Nat) : Int) = k' by omega] at h2
  rw [b2_pos hh] at h1
  omega
theorem ps_inj {c k k' : Int} {bo : Int → Int} (h : 0 ≤ k) (h' : 0 ≤ k') (hh : hasP c bo k) (hh' : hasP c bo k') (e : ps c bo k = ps c bo k') : k = k' := by
  rcases (show k < k' ∨ k = k' ∨ k' < k by omega) with q | q | q
  · have := ps_lt h q hh; omega
  · exact q
  · have := ps_lt h' q hh'; omega
theorem ps_ex {c : Int} {bo : Int → Int} : ∀ (n : Nat) (j : Int), 0 ≤ j → j < ps c bo (n : Int) → ∃ k : Int, (0 ≤ k ∧ k < (n : Int)) ∧ hasP c bo k ∧ ps c bo k = j
  | 0, j, h1, h2 => by
    have := ps_rng (c := c) (bo := bo) (k := ((0 : Nat) : Int)) (by omega)
    omega
  | n + 1, j, h1, h2 => by
    have h3 := ps_step (c := c) (bo := bo) (k := (n : Int)) (by omega)
    rw [show ((n + 1 : Nat) : Int) = (n : Int) + 1 by omega] at h2
    by_cases hq : j < ps c bo (n : Int)
    · obtain ⟨k, q1, q2, q3⟩ := ps_ex n j h1 hq
      exact ⟨k, ⟨q1.1, by omega⟩, q2, q3⟩
    · have h4 := b2_01 (hasP c bo n)
      exact ⟨n, ⟨by omega, by omega⟩, b2_eq1.mp (by omega), by omega⟩
theorem Can_mono {c : Int} {L L' : Int → Int → Int} {be : Int → Int} {x x' : Int} (hL : ∀ s m, 0 ≤ m → m < c → L s m ≤ x → L' s m ≤ x') {s : Int} (h : Can c L be x s) : Can c L' be x' s := by
  obtain ⟨n, hn⟩ := h
  refine ⟨n, ?_⟩
  induction n generalizing s with
  | zero => exact hn
  | succ n ih =>
    rcases hn with q | ⟨m, q1, q2, q3, q4⟩
    · exact Or.inl q
    · exact Or.inr ⟨m, q1, q2, hL s m q1.1 q1.2 q3, ih q4⟩
theorem IsP_ex {c : Int} {bo mi be : Int → Int} (h : MOK c bo mi be) {L : Int → Int → Int} (hL : ∀ s m, 0 ≤ s → s ≤ full c → 0 ≤ m → m < c → L s m ≤ 2000) : ∃ R, (0 ≤ R ∧ R ≤ 2000) ∧ IsP c L be R := by
  have hf := full_rng (c := c) ⟨h.1, h.2.1⟩
  have hb : Can c L be 2000 0 := Can_big h hL (full c).toNat 0 (by omega) (Int.le_refl _) hf.1
  have key : ∀ n : Nat, (∃ k : Nat, k < n ∧ Can c L be (k : Int) 0 ∧ ∀ j : Nat, j < k → ¬ Can c L be (j : Int) 0) ∨ ∀ j : Nat, j < n → ¬ Can c L be (j : Int) 0 := by
    intro n
    induction n with
    | zero => exact Or.inr (fun j q => by omega)
    | succ n ih =>
      rcases ih with ⟨k, q1, q2, q3⟩ | q
      · exact Or.inl ⟨k, by omega, q2, q3⟩
      · by_cases e : Can c L be (n : Int) 0
        · exact Or.inl ⟨n, by omega, e, q⟩
        · refine Or.inr (fun j hj => ?_)
          by_cases ej : j = n
          · rw [ej]; exact e
          · exact q j (by omega)
  rcases key 2001 with ⟨k, q1, q2, q3⟩ | q
  · refine ⟨k, by omega, fun x hx => ?_⟩
    constructor
    · intro hk
      exact ⟨by omega, Can_mono (fun s m _ _ a => by omega) q2⟩
    · rintro ⟨a, b⟩
      apply Classical.byContradiction
      intro hn
      refine q3 x.toNat (by omega) ?_
      rw [Int.toNat_of_nonneg a]
      exact b
  · exact absurd hb (q 2000 (by omega))
noncomputable def PV (c : Int) (L : Int → Int → Int) (be : Int → Int) : Int := Classical.epsilon (fun R => (0 ≤ R ∧ R ≤ 2000) ∧ IsP c L be R)
theorem PV_spec {c : Int} {bo mi be : Int → Int} (h : MOK c bo mi be) {L : Int → Int → Int} (hL : ∀ s m, 0 ≤ s → s ≤ full c → 0 ≤ m → m < c → L s m ≤ 2000) : (0 ≤ PV c L be ∧ PV c L be ≤ 2000) ∧ IsP c L be (PV c L be) := Classical.epsilon_spec (IsP_ex h hL)
noncomputable def LA (c : Int) (bo mi : Int → Int) (a : Int → Int) (s m : Int) : Int := nd c bo mi s m - a (ps c bo (bo m))
noncomputable def VA (c : Int) (bo mi be : Int → Int) (a : Int → Int) : Int := PV c (LA c bo mi a) be
theorem ps_bo {c m : Int} {bo mi be : Int → Int} (h : MOK c bo mi be) (hm : 0 ≤ m ∧ m < c) : 0 ≤ ps c bo (bo m) ∧ ps c bo (bo m) < ps c bo 6 := by
  have b := h.2.2 m hm.1 (by have := h.2.1; omega)
  exact ⟨(ps_rng (c := c) (bo := bo) (k := bo m) b.1).1, ps_lt b.1 (by omega) ⟨m, hm, rfl⟩⟩
theorem LA_rng {c : Int} {bo mi be a : Int → Int} (h : MOK c bo mi be) (ha : ∀ j, 0 ≤ j → j < ps c bo 6 → 0 ≤ a j ∧ a j ≤ 20) {s m : Int} (hm : 0 ≤ m ∧ m < c) : -2000 ≤ LA c bo mi a s m ∧ LA c bo mi a s m ≤ 2000 := by
  have h2 := h.2.1
  have q := nd_rng (s := s) (m := m) h (by omega)
  have p := ps_bo h hm
  have d := ha _ p.1 p.2
  unfold LA
  omega
theorem VA_spec {c : Int} {bo mi be a : Int → Int} (h : MOK c bo mi be) (ha : ∀ j, 0 ≤ j → j < ps c bo 6 → 0 ≤ a j ∧ a j ≤ 20) : (0 ≤ VA c bo mi be a ∧ VA c bo mi be a ≤ 2000) ∧ IsP c (LA c bo mi a) be (VA c bo mi be a) := PV_spec h (fun s m _ _ h3 h4 => (LA_rng h ha ⟨h3, h4⟩).2)
theorem VA_anti {c : Int} {bo mi be a a' : Int → Int} (h : MOK c bo mi be) (ha : ∀ j, 0 ≤ j → j < ps c bo 6 → 0 ≤ a j ∧ a j ≤ 20) (ha' : ∀ j, 0 ≤ j → j < ps c bo 6 → 0 ≤ a' j ∧ a' j ≤ 20) (hle : ∀ j, 0 ≤ j → j < ps c bo 6 → a j ≤ a' j) : VA c bo mi be a' ≤ VA c bo mi be a := by
  obtain ⟨h1, h2⟩ := VA_spec (be := be) h ha
  obtain ⟨h3, h4⟩ := VA_spec (be := be) h ha'
  refine (h4 _ (by omega)).mpr ⟨h1.1, ?_⟩
  refine Can_mono (fun s m q1 q2 q3 => ?_) ((h2 _ (by omega)).mp (Int.le_refl _)).2
  have p := ps_bo h ⟨q1, q2⟩
  have := hle _ p.1 p.2
  unfold LA at q3 ⊢
  omega
/-- what a search that is held to a limit tells -/
theorem bnd {c R V best : Int} {L : Int → Int → Int} {be : Int → Int} (hV : IsP c L be V) (hV2 : V < 1000000) (hb : best ≤ 1000000) (hR : R ≤ best) (hx : ∀ x, x < best → (R ≤ x ↔ 0 ≤ x ∧ Can c L be x 0)) : (R < best ↔ V < best) ∧ (R < best → R = V) := by
  have a : R < best → V ≤ R := fun h => (hV R (by omega)).mpr ((hx R h).mp (Int.le_refl _))
  have b : V < best → R ≤ V := fun h => (hx V h).mpr ((hV V hV2).mp (Int.le_refl _))
  refine ⟨⟨fun h => by have := a h; omega, fun h => by have := b h; omega⟩, fun h => ?_⟩
  have h1 := a h
  have h2 := b (by omega)
  omega
abbrev St : Type := Int × (Int → Int)
def updF (a : Int → Int) (p g : Int) : Int → Int := fun j => if j = p then g else a j
noncomputable def evD (V : (Int → Int) → Int) (a : Int → Int) (st : St) : St := if V a < st.1 then (V a, a) else st
def eL {σ : Type} (f : Int → σ → σ) : Nat → Int → σ → σ
  | 0, _, st => st
  | n + 1, g, st => eL f n (g - 1) (f g st)
noncomputable def eD (V : (Int → Int) → Int) : Nat → Int → Int → (Int → Int) → St → St
  | 0, p, left, a, st => evD V (updF a p left) st
  | r + 1, p, left, a, st => eL (fun g st => eD V r (p + 1) (left - g) (updF a p g) st) (left + 1).toNat left st
theorem eL_skip {σ : Type} {f : Int → σ → σ} {st : σ} : ∀ (n : Nat) (g : Int), (∀ q, g - n < q → q ≤ g → f q st = st) → eL f n g st = st
  | 0, _, _ => rfl
  | n + 1, g, h => by
    show eL f n (g - 1) (f g st) = st
    rw [h g (by omega) (by omega)]
    exact eL_skip n (g - 1) (fun q h1 h2 => h q (by omega) (by omega))
theorem eD_skip {V : (Int → Int) → Int} {st : St} : ∀ (r : Nat) (p left : Int) (a : Int → Int), 0 ≤ left → (∀ b : Int → Int, (∀ j, j < p → b j = a j) → (∀ j, p ≤ j → j ≤ p + r → 0 ≤ b j ∧ b j ≤ left) → (∀ j, p + r < j → b j = a j) → ¬ V b < st.1) → eD V r p left a st = st
  | 0, p, left, a, h0, h => by
    refine if_neg (h _ (fun j hj => ?_) (fun j h1 h2 => ?_) (fun j hj => ?_))
    · unfold updF; rw [if_neg (by omega)]
    · have e : j = p := by omega
      unfold updF
      rw [if_pos e]
      omega
    · unfold updF; rw [if_neg (by omega)]
  | r + 1, p, left, a, h0, h => by
    refine eL_skip _ _ (fun g h1 h2 => ?_)
    refine eD_skip r (p + 1) (left - g) (updF a p g) (by omega) (fun b q1 q2 q3 => ?_)
    refine h b (fun j hj => ?_) (fun j h3 h4 => ?_) (fun j hj => ?_)
    · rw [q1 j (by omega)]; unfold updF; rw [if_neg (by omega)]
    · by_cases e : j = p
      · rw [q1 j (by omega)]; unfold updF; rw [if_pos e]; omega
      · have := q2 j (by omega) (by omega); omega
    · rw [q3 j (by omega)]; unfold updF; rw [if_neg (by omega)]
