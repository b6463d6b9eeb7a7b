/-! ===== sets of matters, and what a pause is enough for ===== -/
def so (s m : Int) : Int := iOr s (iShl 1 m)
def full (c : Int) : Int := iShl 1 c - 1
theorem pw_nat {k : Nat} (h : k < 31) : iShl 1 (k : Int) = ((2 ^ k : Nat) : Int) := iShl1 k h
theorem full_nat {c : Nat} (h : c < 31) : full (c : Int) = ((2 ^ c - 1 : Nat) : Int) := by
  unfold full
  rw [iShl1 c h]
  have : 0 < 2 ^ c := Nat.two_pow_pos c
  omega
theorem full_rng {c : Int} (h : 0 ≤ c ∧ c ≤ 8) : 0 ≤ full c ∧ full c ≤ 255 := by
  have := shl_rng h
  unfold full
  omega
theorem pow_lt256 {k : Nat} (h : k < 8) : 2 ^ k < 256 := Nat.pow_lt_pow_right (by decide) h
theorem so_nat {s m : Nat} (hs : s < 256) (hm : m < 8) : so (s : Int) (m : Int) = ((s ||| 2 ^ m : Nat) : Int) := by
  have := pow_lt256 hm
  unfold so
  rw [iShl1 m (by omega), iOr_nat (by omega) (by omega)]
theorem so_add {s m : Int} (hs : 0 ≤ s ∧ s ≤ 255) (hm : 0 ≤ m ∧ m < 8) (h : ¬ bt s m) : so s m = s + iShl 1 m := by
  obtain ⟨n, rfl⟩ := Int.eq_ofNat_of_zero_le hs.1
  obtain ⟨k, rfl⟩ := Int.eq_ofNat_of_zero_le hm.1
  have e := iOr_add (s := n) (i := k) (by omega) (by omega) h
  unfold so
  rw [e.1, e.2, iShl1 k (by omega)]
  omega
theorem so_gt {s m : Int} (hs : 0 ≤ s ∧ s ≤ 255) (hm : 0 ≤ m ∧ m < 8) (h : ¬ bt s m) : s < so s m := by
  have := shl_rng (c := m) (by omega)
  rw [so_add hs hm h]
  omega
theorem so_le {c s m : Int} (hc : 0 ≤ c ∧ c ≤ 8) (hs : 0 ≤ s ∧ s ≤ full c) (hm : 0 ≤ m ∧ m < c) : 0 ≤ so s m ∧ so s m ≤ full c := by
  have hf := full_rng hc
  obtain ⟨k, rfl⟩ := Int.eq_ofNat_of_zero_le hc.1
  obtain ⟨n, rfl⟩ := Int.eq_ofNat_of_zero_le hs.1
  obtain ⟨i, rfl⟩ := Int.eq_ofNat_of_zero_le hm.1
  rw [full_nat (by omega)] at hs hf ⊢
  rw [so_nat (by omega) (by omega)]
  have h1 : 0 < 2 ^ k := Nat.two_pow_pos k
  have : n ||| 2 ^ i < 2 ^ k := Nat.or_lt_two_pow (by omega) (Nat.pow_lt_pow_right (by decide) (by omega))
  omega
theorem bt_so {s m j : Int} (hs : 0 ≤ s ∧ s ≤ 255) (hm : 0 ≤ m ∧ m < 8) (hj : 0 ≤ j ∧ j < 8) : bt (so s m) j ↔ bt s j ∨ j = m := by
  obtain ⟨n, rfl⟩ := Int.eq_ofNat_of_zero_le hs.1
  obtain ⟨k, rfl⟩ := Int.eq_ofNat_of_zero_le hm.1
  obtain ⟨i, rfl⟩ := Int.eq_ofNat_of_zero_le hj.1
  have h2 := pow_lt256 (k := k) (by omega)
  have h3 : n ||| 2 ^ k < 2 ^ 8 := Nat.or_lt_two_pow (by omega) h2
  rw [so_nat (by omega) (by omega), bt_nat (by omega) (by omega), bt_nat (by omega) (by omega), tb_or]
  exact or_congr Iff.rfl (by omega)
theorem bt_full {c j : Int} (hc : 0 ≤ c ∧ c ≤ 8) (hj : 0 ≤ j ∧ j < 8) : bt (full c) j ↔ j < c := by
  have hf := full_rng hc
  obtain ⟨k, rfl⟩ := Int.eq_ofNat_of_zero_le hc.1
  obtain ⟨i, rfl⟩ := Int.eq_ofNat_of_zero_le hj.1
  rw [full_nat (by omega)] at hf ⊢
  rw [bt_nat (by omega) (by omega), Nat.testBit_two_pow_sub_one, decide_eq_true_iff]
  omega
theorem full_of {c s : Int} (hc : 0 ≤ c ∧ c ≤ 8) (hs : 0 ≤ s ∧ s ≤ full c) (h : ∀ j, 0 ≤ j → j < c → bt s j) : s = full c := by
  have hf := full_rng hc
  obtain ⟨k, rfl⟩ := Int.eq_ofNat_of_zero_le hc.1
  obtain ⟨n, rfl⟩ := Int.eq_ofNat_of_zero_le hs.1
  rw [full_nat (by omega)] at hs hf ⊢
  have h0 : 0 < 2 ^ k := Nat.two_pow_pos k
  congr 1
  apply Nat.eq_of_testBit_eq
  intro j
  rw [Nat.testBit_two_pow_sub_one]
  by_cases hj : j < k
  · have := h (j : Int) (by omega) (by omega)
    rw [bt_nat (by omega) (by omega)] at this
    simp [this, hj]
  · have h1 : n < 2 ^ j := Nat.lt_of_lt_of_le (show n < 2 ^ k by omega) (Nat.pow_le_pow_right (by decide) (by omega))
    rw [Nat.testBit_lt_two_pow h1]
    simp [hj]
def mayB (be : Int → Int) (s m : Int) : Prop := ¬ bt s m ∧ iAnd (be m) (iXor s (-1)) = 0
theorem may_low {b s m : Int} (hs : 0 ≤ s ∧ s ≤ 255) (hm : 0 ≤ m ∧ m < 8) (hb : 0 ≤ b ∧ b < iShl 1 m) (h : ∀ j, 0 ≤ j → j < m → bt s j) : iAnd b (iXor s (-1)) = 0 := by
  obtain ⟨n, rfl⟩ := Int.eq_ofNat_of_zero_le hs.1
  obtain ⟨k, rfl⟩ := Int.eq_ofNat_of_zero_le hm.1
  obtain ⟨q, rfl⟩ := Int.eq_ofNat_of_zero_le hb.1
  rw [iShl1 k (by omega)] at hb
  have h2 := pow_lt256 (k := k) (by omega)
  rw [iAndNot_nat (by omega) (by omega)]
  have : q &&& (n ^^^ 4294967295) = 0 := by
    apply Nat.eq_of_testBit_eq
    intro j
    rw [Nat.zero_testBit, Nat.testBit_and, Nat.testBit_xor, show (4294967295 : Nat) = 2 ^ 32 - 1 from rfl, Nat.testBit_two_pow_sub_one]
    by_cases hj : j < k
    · have := h (j : Int) (by omega) (by omega)
      rw [bt_nat (by omega) (by omega)] at this
      simp [this, show j < 32 by omega]
    · rw [Nat.testBit_lt_two_pow (show q < 2 ^ j from Nat.lt_of_lt_of_le (show q < 2 ^ k by omega) (Nat.pow_le_pow_right (by decide) (by omega)))]
      simp
  rw [this]
  rfl
/-- what is known of c matters -/
def MOK (c : Int) (bo mi be : Int → Int) : Prop := 0 ≤ c ∧ c ≤ 8 ∧ ∀ j, 0 ≤ j → j < 8 → 0 ≤ bo j ∧ bo j ≤ 5 ∧ 0 ≤ mi j ∧ mi j ≤ 60 ∧ 0 ≤ be j ∧ be j ≤ 255 ∧ (j < c → be j < iShl 1 j ∧ 1 ≤ mi j)
def tt (c : Int) (mi : Int → Int) (s : Int) : Int := sumN (fun j => sb s j * mi j) c.toNat
def nd (c : Int) (bo mi : Int → Int) (s m : Int) : Int := mi m + sumN (fun j => sb s j * (if bo j = bo m then mi j else - mi j)) c.toNat
def lk (c : Int) (bo mi sv : Int → Int) (s m : Int) : Int := nd c bo mi s m - sv (bo m)
def CanF (c : Int) (L : Int → Int → Int) (be : Int → Int) : Nat → Int → Int → Prop
  | 0, _, s => s = full c
  | n + 1, x, s => s = full c ∨ ∃ m, (0 ≤ m ∧ m < c) ∧ mayB be s m ∧ L s m ≤ x ∧ CanF c L be n x (so s m)
def Can (c : Int) (L : Int → Int → Int) (be : Int → Int) (x s : Int) : Prop := ∃ n, CanF c L be n x s
theorem Can_iff {c : Int} {L : Int → Int → Int} {be : Int → Int} {x s : Int} : Can c L be x s ↔ s = full c ∨ ∃ m, (0 ≤ m ∧ m < c) ∧ mayB be s m ∧ L s m ≤ x ∧ Can c L be x (so s m) := by
  constructor
  · rintro ⟨n, h⟩
    cases n with
    | zero => exact Or.inl h
    | succ n =>
      rcases h with h | ⟨m, h1, h2, h3, h4⟩
      · exact Or.inl h
      · exact Or.inr ⟨m, h1, h2, h3, n, h4⟩
  · rintro (h | ⟨m, h1, h2, h3, n, h4⟩)
    · exact ⟨0, h⟩
    · exact ⟨n + 1, Or.inr ⟨m, h1, h2, h3, h4⟩⟩
theorem Can_full {c : Int} {L : Int → Int → Int} {be : Int → Int} {x : Int} : Can c L be x (full c) := ⟨0, rfl⟩
/-- the next that may be said: the lowest that isn't -/
theorem may_ex {c s : Int} {bo mi be : Int → Int} (h : MOK c bo mi be) (hs : 0 ≤ s ∧ s < full c) : ∃ m, (0 ≤ m ∧ m < c) ∧ mayB be s m := by
  have hc : 0 ≤ c ∧ c ≤ 8 := ⟨h.1, h.2.1⟩
  have hf := full_rng hc
  have key : ∀ n : Nat, (n : Int) ≤ c → (∀ j : Int, 0 ≤ j → j < n → bt s j) ∨ ∃ m, (0 ≤ m ∧ m < c) ∧ mayB be s m := by
    intro n
    induction n with
    | zero => intro _; exact Or.inl (fun j h1 h2 => by omega)
    | succ n ih =>
      intro hn
      rcases ih (by omega) with a | a
      · by_cases b : bt s n
        · refine Or.inl (fun j h1 h2 => ?_)
          by_cases e : j = n
          · rw [e]; exact b
          · exact a j h1 (by omega)
        · have := h.2.2 n (by omega) (by omega)
          exact Or.inr ⟨n, ⟨by omega, by omega⟩, b, may_low ⟨hs.1, by omega⟩ ⟨by omega, by omega⟩ ⟨by omega, (this.2.2.2.2.2.2 (by omega)).1⟩ a⟩
      · exact Or.inr a
  rcases key c.toNat (by omega) with a | a
  · have := full_of hc ⟨hs.1, by omega⟩ (fun j h1 h2 => a j h1 (by omega))
    omega
  · exact a
theorem Can_big {c : Int} {bo mi be : Int → Int} (h : MOK c bo mi be) {L : Int → Int → Int} {x : Int} (hL : ∀ s m, 0 ≤ s → s ≤ full c → 0 ≤ m → m < c → L s m ≤ x) : ∀ (n : Nat) (s : Int), (full c - s).toNat ≤ n → 0 ≤ s → s ≤ full c → Can c L be x s := by
  intro n
  induction n with
  | zero =>
    intro s h1 h2 h3
    rw [show s = full c by omega]
    exact Can_full
  | succ n ih =>
    intro s h1 h2 h3
    by_cases e : s = full c
    · rw [e]; exact Can_full
    · obtain ⟨m, hm, hb⟩ := may_ex h (s := s) ⟨h2, by omega⟩
      have hc : 0 ≤ c ∧ c ≤ 8 := ⟨h.1, h.2.1⟩
      have hf := full_rng hc
      have h4 := so_le hc ⟨h2, h3⟩ hm
      have h5 := so_gt ⟨h2, by omega⟩ (by omega) hb.1
      exact Can_iff.mpr (Or.inr ⟨m, hm, hb, hL s m h2 h3 hm.1 hm.2, ih _ (by omega) h4.1 h4.2⟩)
/-- what the sets from s on can still do -/
def Uu (c : Int) (L : Int → Int → Int) (be : Int → Int) (F : Int → Int) (s x : Int) : Prop := ∃ t, s ≤ t ∧ t ≤ full c ∧ F t ≤ x ∧ Can c L be x t
theorem dp_step {c : Int} {L : Int → Int → Int} {be F F' : Int → Int} {s x : Int} (hc : 0 ≤ c ∧ c ≤ 8) (hs : 0 ≤ s ∧ s < full c)
    (h1 : ∀ t, s < t → t ≤ full c → F' t ≤ F t) (h2 : F s ≤ x → ∀ m, 0 ≤ m → m < c → mayB be s m → F' (so s m) ≤ max (F s) (L s m))
    (h3 : ∀ t, s < t → t ≤ full c → F' t ≤ x → F t ≤ x ∨ ∃ m, (0 ≤ m ∧ m < c) ∧ mayB be s m ∧ t = so s m ∧ F s ≤ x ∧ L s m ≤ x) : Uu c L be F s x ↔ Uu c L be F' (s + 1) x := by
  have hf := full_rng hc
  constructor
  · rintro ⟨t, a1, a2, a3, a4⟩
    by_cases e : t = s
    · subst e
      rcases Can_iff.mp a4 with q | ⟨m, q1, q2, q3, q4⟩
      · omega
      · have h5 := so_le hc ⟨hs.1, a2⟩ q1
        have h6 := so_gt ⟨hs.1, by omega⟩ (show 0 ≤ m ∧ m < 8 by omega) q2.1
        have h7 := h2 a3 m q1.1 q1.2 q2
        exact ⟨so t m, by omega, h5.2, by omega, q4⟩
    · have := h1 t (by omega) a2
      exact ⟨t, by omega, a2, by omega, a4⟩
  · rintro ⟨t, a1, a2, a3, a4⟩
    rcases h3 t (by omega) a2 a3 with q | ⟨m, q1, q2, q3, q4, q5⟩
    · exact ⟨t, by omega, a2, q, a4⟩
    · exact ⟨s, by omega, by omega, q4, Can_iff.mpr (Or.inr ⟨m, q1, q2, q5, by rw [← q3]; exact a4⟩)⟩
theorem Uu_full {c : Int} {L : Int → Int → Int} {be F : Int → Int} {x : Int} : Uu c L be F (full c) x ↔ F (full c) ≤ x := by
  constructor
  · rintro ⟨t, a1, a2, a3, a4⟩
    rw [show t = full c by omega] at a3
    exact a3
  · intro h
    exact ⟨full c, by omega, by omega, h, Can_full⟩
theorem sumN_add {f g h : Int → Int} : ∀ {n : Nat}, (∀ j : Int, 0 ≤ j → j < n → f j = g j + h j) → sumN f n = sumN g n + sumN h n
  | 0, _ => rfl
  | n + 1, q => by
    show sumN f n + f n = (sumN g n + g n) + (sumN h n + h n)
    rw [sumN_add (f := f) (g := g) (h := h) (fun j h1 h2 => q j h1 (by omega)), q n (by omega) (by omega)]
    omega
theorem sb_so {s m j : Int} (hs : 0 ≤ s ∧ s ≤ 255) (hm : 0 ≤ m ∧ m < 8) (hj : 0 ≤ j ∧ j < 8) (h : ¬ bt s m) : sb (so s m) j = sb s j + (if j = m then 1 else 0) := by
  have a := bt_so hs hm hj
  by_cases e : j = m
  · rw [if_pos e, e, sb_nbt.mpr h, sb_bt.mpr ((bt_so hs hm hm).mpr (Or.inr rfl))]
    rfl
  · rw [if_neg e]
    by_cases b : bt s j
    · rw [sb_bt.mpr b, sb_bt.mpr (a.mpr (Or.inl b))]
      rfl
    · rw [sb_nbt.mpr b, sb_nbt.mpr (fun q => (a.mp q).elim b e)]
      rfl
theorem sumN_one {f : Int → Int} {m : Int} : ∀ {n : Nat}, 0 ≤ m → m < n → sumN (fun j => (if j = m then 1 else 0) * f j) n = f m
  | 0, h1, h2 => by omega
  | n + 1, h1, h2 => by
    show sumN (fun j => (if j = m then 1 else 0) * f j) n + (if (n : Int) = m then 1 else 0) * f n = f m
    by_cases e : (n : Int) = m
    · have : sumN (fun j => (if j = m then 1 else 0) * f j) n = sumN (fun _ => 0) n := sumN_congr (fun j h3 h4 => by rw [if_neg (by omega)]; simp)
      have z : ∀ k : Nat, sumN (fun _ => 0) k = 0 := by
        intro k
        induction k with
        | zero => rfl
        | succ k ih => show sumN (fun _ => 0) k + 0 = 0; rw [ih]; rfl
      rw [this, z, if_pos e, e]
      simp
    · rw [sumN_one h1 (by omega), if_neg e]
      simp
theorem sum_so {c s m : Int} {f : Int → Int} (hc : 0 ≤ c ∧ c ≤ 8) (hs : 0 ≤ s ∧ s ≤ 255) (hm : 0 ≤ m ∧ m < c) (h : ¬ bt s m) : sumN (fun j => sb (so s m) j * f j) c.toNat = sumN (fun j => sb s j * f j) c.toNat + f m := by
  rw [sumN_add (g := fun j => sb s j * f j) (h := fun j => (if j = m then 1 else 0) * f j) (fun j h1 h2 => by
    rw [sb_so hs (by omega) (by omega) h, Int.add_mul]), sumN_one hm.1 (by omega)]
theorem tt_so {c s m : Int} {mi : Int → Int} (hc : 0 ≤ c ∧ c ≤ 8) (hs : 0 ≤ s ∧ s ≤ 255) (hm : 0 ≤ m ∧ m < c) (h : ¬ bt s m) : tt c mi (so s m) = tt c mi s + mi m := sum_so hc hs hm h
theorem nd_so {c s m k : Int} {bo mi : Int → Int} (hc : 0 ≤ c ∧ c ≤ 8) (hs : 0 ≤ s ∧ s ≤ 255) (hm : 0 ≤ m ∧ m < c) (h : ¬ bt s m) : nd c bo mi (so s m) k = nd c bo mi s k + (if bo m = bo k then mi m else - mi m) := by
  unfold nd
  rw [sum_so (f := fun j => if bo j = bo k then mi j else - mi j) hc hs hm h]
  omega
theorem sb0 (j : Int) : 0 ≤ j ∧ j < 8 → sb 0 j = 0 := by
  intro h
  have : j = 0 ∨ j = 1 ∨ j = 2 ∨ j = 3 ∨ j = 4 ∨ j = 5 ∨ j = 6 ∨ j = 7 := by omega
  rcases this with rfl | rfl | rfl | rfl | rfl | rfl | rfl | rfl <;> decide
theorem sumN_0 : ∀ n : Nat, sumN (fun _ => 0) n = 0
  | 0 => rfl
  | n + 1 => by show sumN (fun _ => 0) n + 0 = 0; rw [sumN_0 n]; rfl
theorem sum_empty {c : Int} {f : Int → Int} (hc : 0 ≤ c ∧ c ≤ 8) : sumN (fun j => sb 0 j * f j) c.toNat = 0 := by
  rw [sumN_congr (g' := fun _ => 0) (fun j h1 h2 => by rw [sb0 j (by omega)]; simp), sumN_0]
theorem tt_0 {c : Int} {mi : Int → Int} (hc : 0 ≤ c ∧ c ≤ 8) : tt c mi 0 = 0 := sum_empty hc
theorem nd_0 {c m : Int} {bo mi : Int → Int} (hc : 0 ≤ c ∧ c ≤ 8) : nd c bo mi 0 m = mi m := by
  unfold nd
  rw [sum_empty hc]
  omega
theorem tt_full {c : Int} {mi : Int → Int} (hc : 0 ≤ c ∧ c ≤ 8) : tt c mi (full c) = sumN mi c.toNat := by
  unfold tt
  exact sumN_congr (fun j h1 h2 => by rw [sb_bt.mpr ((bt_full hc (by omega)).mpr (by omega))]; simp)
theorem tt_rng {c s : Int} {bo mi be : Int → Int} (h : MOK c bo mi be) : 0 ≤ tt c mi s ∧ tt c mi s ≤ 480 := by
  have := sumN_rng (g := fun j => sb s j * mi j) (a := 0) (b := 60) (n := c.toNat) (fun j h1 h2 => by
    have a := h.2.2 j h1 (by have := h.2.1; omega)
    show 0 ≤ sb s j * mi j ∧ sb s j * mi j ≤ 60
    rw [sbm]
    split <;> omega)
  have a := h.1; have b := h.2.1
  unfold tt
  omega
theorem nd_rng {c s m : Int} {bo mi be : Int → Int} (h : MOK c bo mi be) (hm : 0 ≤ m ∧ m < 8) : -480 ≤ nd c bo mi s m ∧ nd c bo mi s m ≤ 540 := by
  have := sumN_rng (g := fun j => sb s j * (if bo j = bo m then mi j else - mi j)) (a := -60) (b := 60) (n := c.toNat) (fun j h1 h2 => by
    have a := h.2.2 j h1 (by have := h.2.1; omega)
    show -60 ≤ sb s j * (if bo j = bo m then mi j else - mi j) ∧ sb s j * (if bo j = bo m then mi j else - mi j) ≤ 60
    rw [sbm]
    split <;> (try split) <;> omega)
  have a := h.1; have b := h.2.1
  have q := h.2.2 m hm.1 hm.2
  unfold nd
  omega
/-- R is the least pause -/
def IsP (c : Int) (L : Int → Int → Int) (be : Int → Int) (R : Int) : Prop := ∀ x, x < 1000000 → (R ≤ x ↔ 0 ≤ x ∧ Can c L be x 0)
theorem IsP.uniq {c : Int} {L : Int → Int → Int} {be : Int → Int} {R R' : Int} (h : IsP c L be R) (h' : IsP c L be R') (a : R < 1000000) (b : R' < 1000000) : R = R' := by
  have h1 := (h' R a).mpr ((h R a).mp (Int.le_refl _))
  have h2 := (h R' b).mpr ((h' R' b).mp (Int.le_refl _))
  omega
