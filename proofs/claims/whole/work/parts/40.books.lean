/-! ===== books ===== -/
def lnS (s : Int) : Int := if s = 42 then 7 else if 97 ≤ s ∧ s < 103 then s - 97 else 6
def loS (s : Int) : Int := if s = 42 then 0 else lnS s
def wdS (s : Int) : Nat := if s = 42 then 7 else 1
def stepH (k : Int) (H : Int → Int) : Int → Int := fun j => H j + (if j = k then -1 else 1)
def okB (k : Int) (H : Int → Int) : Prop := 6 ≤ k ∨ 0 < H k
def nq (p : Int → Int) : Nat → Int → Nat
  | 0, _ => 1
  | r + 1, i => wdS (p i) * nq p r (i + 1)
noncomputable def HB (p : Int → Int) : Nat → Int → (Int → Int) → Int → Int
  | 0, _, _, _ => 1
  | r + 1, i, H, c => if b2 (okB (loS (p i) + c / nq p r (i + 1)) H) = 1 then HB p r (i + 1) (stepH (loS (p i) + c / nq p r (i + 1)) H) (c % nq p r (i + 1)) else 0
def fil (p : Int → Int) : Nat → Int → Int → Int → Int
  | 0, _, _, _ => 0
  | r + 1, i, c, j => if j = i then loS (p i) + c / nq p r (i + 1) else fil p r (i + 1) (c % nq p r (i + 1)) j
noncomputable def WB (p : Int → Int) (r : Nat) (i : Int) (H : Int → Int) : Int := sumN (HB p r i H) (nq p r i)
noncomputable def gW (p : Int → Int) (r : Nat) (i : Int) (H : Int → Int) (k : Int) : Int := if b2 (okB k H) = 1 then WB p r (i + 1) (stepH k H) else 0
theorem nq_pos (p : Int → Int) : ∀ (r : Nat) (i : Int), 0 < nq p r i
  | 0, _ => Nat.one_pos
  | r + 1, i => Nat.mul_pos (by unfold wdS; split <;> decide) (nq_pos p r (i + 1))
theorem sumN_split {f : Int → Int} {a : Nat} : ∀ b : Nat, sumN f (a + b) = sumN f a + sumN (fun j => f (a + j)) b
  | 0 => by show sumN f a = sumN f a + 0; omega
  | b + 1 => by
    show sumN f (a + b) + f ((a + b : Nat) : Int) = sumN f a + (sumN (fun j => f (a + j)) b + f (a + b))
    rw [sumN_split b, show ((a + b : Nat) : Int) = (a : Int) + b by omega]
    omega
theorem HB_01 (p : Int → Int) : ∀ (r : Nat) (i : Int) (H : Int → Int) (c : Int), HB p r i H c = 0 ∨ HB p r i H c = 1
  | 0, _, _, _ => Or.inr rfl
  | r + 1, i, H, c => by
    show (if b2 (okB (loS (p i) + c / nq p r (i + 1)) H) = 1 then HB p r (i + 1) (stepH (loS (p i) + c / nq p r (i + 1)) H) (c % nq p r (i + 1)) else 0) = 0 ∨ (if b2 (okB (loS (p i) + c / nq p r (i + 1)) H) = 1 then HB p r (i + 1) (stepH (loS (p i) + c / nq p r (i + 1)) H) (c % nq p r (i + 1)) else 0) = 1
    split
    · exact HB_01 p r _ _ _
    · exact Or.inl rfl
theorem HB_at {p : Int → Int} {r : Nat} {i : Int} {H : Int → Int} {d x : Int} (hx : 0 ≤ x ∧ x < nq p r (i + 1)) : HB p (r + 1) i H (d * nq p r (i + 1) + x) = if b2 (okB (loS (p i) + d) H) = 1 then HB p r (i + 1) (stepH (loS (p i) + d) H) x else 0 := by
  have q := nq_pos p r (i + 1)
  have e1 : (d * nq p r (i + 1) + x) / (nq p r (i + 1) : Int) = d := by
    rw [Int.mul_comm, Int.add_comm, Int.add_mul_ediv_left _ _ (by omega), Int.ediv_eq_zero_of_lt hx.1 hx.2]
    omega
  have e2 : (d * nq p r (i + 1) + x) % (nq p r (i + 1) : Int) = x := by
    rw [Int.mul_comm, Int.add_comm, Int.add_mul_emod_self_left]
    exact Int.emod_eq_of_lt hx.1 hx.2
  show (if b2 (okB (loS (p i) + (d * nq p r (i + 1) + x) / nq p r (i + 1)) H) = 1 then HB p r (i + 1) (stepH (loS (p i) + (d * nq p r (i + 1) + x) / nq p r (i + 1)) H) ((d * nq p r (i + 1) + x) % nq p r (i + 1)) else 0) = _
  rw [e1, e2]
theorem fil_at {p : Int → Int} {r : Nat} {i : Int} {d x j : Int} (hx : 0 ≤ x ∧ x < nq p r (i + 1)) : fil p (r + 1) i (d * nq p r (i + 1) + x) j = if j = i then loS (p i) + d else fil p r (i + 1) x j := by
  have q := nq_pos p r (i + 1)
  have e1 : (d * nq p r (i + 1) + x) / (nq p r (i + 1) : Int) = d := by
    rw [Int.mul_comm, Int.add_comm, Int.add_mul_ediv_left _ _ (by omega), Int.ediv_eq_zero_of_lt hx.1 hx.2]
    omega
  have e2 : (d * nq p r (i + 1) + x) % (nq p r (i + 1) : Int) = x := by
    rw [Int.mul_comm, Int.add_comm, Int.add_mul_emod_self_left]
    exact Int.emod_eq_of_lt hx.1 hx.2
  show (if j = i then loS (p i) + (d * nq p r (i + 1) + x) / nq p r (i + 1) else fil p r (i + 1) ((d * nq p r (i + 1) + x) % nq p r (i + 1)) j) = _
  rw [e1, e2]
theorem blk {p : Int → Int} {r : Nat} {i : Int} {H : Int → Int} {d : Int} : ∀ b : Nat, b ≤ nq p r (i + 1) → sumN (fun x => HB p (r + 1) i H (d * nq p r (i + 1) + x)) b = if b2 (okB (loS (p i) + d) H) = 1 then sumN (HB p r (i + 1) (stepH (loS (p i) + d) H)) b else 0 := fun b hb => by
  by_cases e : b2 (okB (loS (p i) + d) H) = 1
  · rw [if_pos e]
    exact sumN_congr (fun j h1 h2 => by rw [HB_at ⟨h1, by omega⟩, if_pos e])
  · rw [if_neg e]
    exact sumN_zero (fun j h1 h2 => by rw [HB_at ⟨h1, by omega⟩, if_neg e])
theorem cnt_dec {p : Int → Int} {r : Nat} {i : Int} {H : Int → Int} {b : Nat} (hb : b ≤ nq p r (i + 1)) : ∀ d : Nat, sumN (HB p (r + 1) i H) (d * nq p r (i + 1) + b) = sumN (fun k => gW p r i H (loS (p i) + k)) d + (if b2 (okB (loS (p i) + d) H) = 1 then sumN (HB p r (i + 1) (stepH (loS (p i) + d) H)) b else 0) := by
  have full : ∀ d : Nat, sumN (HB p (r + 1) i H) (d * nq p r (i + 1)) = sumN (fun k => gW p r i H (loS (p i) + k)) d := by
    intro d
    induction d with
    | zero => rw [Nat.zero_mul]; rfl
    | succ d ih =>
      rw [Nat.succ_mul, sumN_split, ih]
      have := blk (p := p) (r := r) (i := i) (H := H) (d := d) (nq p r (i + 1)) (Nat.le_refl _)
      rw [show (fun j => HB p (r + 1) i H (((d * nq p r (i + 1) : Nat) : Int) + j)) = fun x => HB p (r + 1) i H ((d : Int) * nq p r (i + 1) + x) by funext j; rw [Int.natCast_mul], this]
      rfl
  intro d
  rw [sumN_split, full d, show (fun j => HB p (r + 1) i H (((d * nq p r (i + 1) : Nat) : Int) + j)) = fun x => HB p (r + 1) i H ((d : Int) * nq p r (i + 1) + x) by funext j; rw [Int.natCast_mul], blk b hb]
theorem WB_dec {p : Int → Int} {r : Nat} {i : Int} {H : Int → Int} : WB p (r + 1) i H = sumN (fun k => gW p r i H (loS (p i) + k)) (wdS (p i)) := by
  have := cnt_dec (p := p) (r := r) (i := i) (H := H) (b := 0) (Nat.zero_le _) (wdS (p i))
  unfold WB
  show sumN (HB p (r + 1) i H) (wdS (p i) * nq p r (i + 1)) = _
  refine Eq.trans this ?_
  split
  · show _ + 0 = _; omega
  · omega
theorem WB_rng (p : Int → Int) (r : Nat) (i : Int) (H : Int → Int) : 0 ≤ WB p r i H ∧ WB p r i H ≤ nq p r i := by
  have := sumN_rng (g := HB p r i H) (a := 0) (b := 1) (n := nq p r i) (fun j _ _ => by have := HB_01 p r i H j; omega)
  unfold WB
  omega
/-- the first line that cannot be, or the end -/
noncomputable def FF (p : Int → Int) : Nat → Int → (Int → Int) → Int → Int
  | 0, i, _, _ => i
  | r + 1, i, H, c => if b2 (okB (loS (p i) + c / nq p r (i + 1)) H) = 1 then FF p r (i + 1) (stepH (loS (p i) + c / nq p r (i + 1)) H) (c % nq p r (i + 1)) else i
noncomputable def FD (p : Int → Int) : Nat → Int → (Int → Int) → Int
  | 0, i, _ => i
  | r + 1, i, H => if b2 (okB (lnS (p i)) H) = 1 then FD p r (i + 1) (stepH (lnS (p i)) H) else i
theorem FF_rng (p : Int → Int) : ∀ (r : Nat) (i : Int) (H : Int → Int) (c : Int), i ≤ FF p r i H c ∧ FF p r i H c ≤ i + r
  | 0, i, _, _ => ⟨Int.le_refl _, by show i ≤ i + 0; omega⟩
  | r + 1, i, H, c => by
    have := FF_rng p r (i + 1) (stepH (loS (p i) + c / nq p r (i + 1)) H) (c % nq p r (i + 1))
    unfold FF
    split <;> omega
theorem FF_HB (p : Int → Int) : ∀ (r : Nat) (i : Int) (H : Int → Int) (c : Int), FF p r i H c = i + r ↔ HB p r i H c = 1
  | 0, i, _, _ => ⟨fun _ => rfl, fun _ => by show i = i + 0; omega⟩
  | r + 1, i, H, c => by
    have ih := FF_HB p r (i + 1) (stepH (loS (p i) + c / nq p r (i + 1)) H) (c % nq p r (i + 1))
    unfold FF HB
    split
    · rw [← ih]
      omega
    · omega
theorem FD_rng (p : Int → Int) : ∀ (r : Nat) (i : Int) (H : Int → Int), i ≤ FD p r i H ∧ FD p r i H ≤ i + r
  | 0, i, _ => ⟨Int.le_refl _, by show i ≤ i + 0; omega⟩
  | r + 1, i, H => by
    have := FD_rng p r (i + 1) (stepH (lnS (p i)) H)
    unfold FD
    split <;> omega
theorem loS_ln {s : Int} (h : s ≠ 42) : loS s = lnS s := if_neg h
theorem lnS_hole {s : Int} (h : s = 42) : lnS s = 7 ∧ loS s = 0 ∧ wdS s = 7 := by
  subst h
  exact ⟨rfl, rfl, rfl⟩
theorem lnS_rng {s : Int} (h : s ≠ 42) : 0 ≤ lnS s ∧ lnS s ≤ 6 := by
  unfold lnS
  rw [if_neg h]
  split <;> omega
theorem nq_hole {p : Int → Int} {r : Nat} {i : Int} (h : p i = 42) : nq p (r + 1) i = 7 * nq p r (i + 1) := by
  show wdS (p i) * _ = _
  rw [(lnS_hole h).2.2]
theorem nq_line {p : Int → Int} {r : Nat} {i : Int} (h : p i ≠ 42) : nq p (r + 1) i = nq p r (i + 1) := by
  show wdS (p i) * _ = _
  rw [show wdS (p i) = 1 from if_neg h, Nat.one_mul]
theorem FF_FD (p : Int → Int) : ∀ (r : Nat) (i : Int) (H H' : Int → Int) (c : Int), 0 ≤ c → c < nq p r i → (∀ j, 0 ≤ j → j < 6 → H j ≤ H' j) → FF p r i H c ≤ FD p r i H'
  | 0, _, _, _, _, _, _, _ => Int.le_refl _
  | r + 1, i, H, H', c, h0, hc, hH => by
    have q := nq_pos p r (i + 1)
    have rg := FD_rng p (r + 1) i H'
    have m0 : 0 ≤ c % (nq p r (i + 1) : Int) := Int.emod_nonneg _ (by omega)
    have m1 : c % (nq p r (i + 1) : Int) < nq p r (i + 1) := Int.emod_lt_of_pos _ (by omega)
    have d0 : 0 ≤ c / (nq p r (i + 1) : Int) := Int.ediv_nonneg h0 (by omega)
    show (if b2 (okB (loS (p i) + c / nq p r (i + 1)) H) = 1 then FF p r (i + 1) (stepH (loS (p i) + c / nq p r (i + 1)) H) (c % nq p r (i + 1)) else i) ≤ _
    by_cases e : b2 (okB (loS (p i) + c / nq p r (i + 1)) H) = 1
    · rw [if_pos e]
      have ho := b2_eq1.mp e
      by_cases hp : p i = 42
      · have l := lnS_hole hp
        have g : FD p (r + 1) i H' = FD p r (i + 1) (stepH 7 H') := by
          show (if b2 (okB (lnS (p i)) H') = 1 then FD p r (i + 1) (stepH (lnS (p i)) H') else i) = _
          rw [l.1, if_pos (b2_pos (show okB 7 H' from Or.inl (by decide)))]
        rw [g]
        refine FF_FD p r (i + 1) _ _ _ m0 m1 (fun j h1 h2 => ?_)
        have := hH j h1 h2
        unfold stepH
        split <;> split <;> omega
      · have hc2 : c / (nq p r (i + 1) : Int) = 0 := Int.ediv_eq_zero_of_lt h0 (by rw [nq_line hp] at hc; exact hc)
        rw [hc2, Int.add_zero, loS_ln hp] at ho ⊢
        have l := lnS_rng hp
        have ho2 : okB (lnS (p i)) H' := by
          rcases ho with w | w
          · exact Or.inl w
          · by_cases e6 : 6 ≤ lnS (p i)
            · exact Or.inl e6
            · have := hH _ l.1 (by omega)
              exact Or.inr (by omega)
        have g : FD p (r + 1) i H' = FD p r (i + 1) (stepH (lnS (p i)) H') := by
          show (if b2 (okB (lnS (p i)) H') = 1 then FD p r (i + 1) (stepH (lnS (p i)) H') else i) = _
          rw [if_pos (b2_pos ho2)]
        rw [g]
        refine FF_FD p r (i + 1) _ _ _ m0 m1 (fun j h1 h2 => ?_)
        have := hH j h1 h2
        unfold stepH
        omega
    · rw [if_neg e]
      exact rg.1
theorem FF_dots (p : Int → Int) : ∀ (r : Nat) (i : Int) (H H' : Int → Int), (∀ j, 0 ≤ j → j < 6 → H j = H' j) → FF p r i H ((nq p r i : Int) - 1) = FD p r i H'
  | 0, _, _, _, _ => rfl
  | r + 1, i, H, H', hH => by
    have q := nq_pos p r (i + 1)
    have hd : ∃ d : Int, ((nq p (r + 1) i : Int) - 1) = d * nq p r (i + 1) + ((nq p r (i + 1) : Int) - 1) ∧ loS (p i) + d = if p i = 42 then 6 else lnS (p i) := by
      by_cases hp : p i = 42
      · refine ⟨6, ?_, by rw [if_pos hp, (lnS_hole hp).2.1]; rfl⟩
        rw [nq_hole hp]
        omega
      · refine ⟨0, ?_, by rw [if_neg hp, loS_ln hp]; omega⟩
        rw [nq_line hp]
        omega
    obtain ⟨d, hd1, hd2⟩ := hd
    have hx : 0 ≤ (nq p r (i + 1) : Int) - 1 ∧ (nq p r (i + 1) : Int) - 1 < nq p r (i + 1) := by omega
    have e1 : (d * nq p r (i + 1) + ((nq p r (i + 1) : Int) - 1)) / (nq p r (i + 1) : Int) = d := by
      rw [Int.mul_comm, Int.add_comm, Int.add_mul_ediv_left _ _ (by omega), Int.ediv_eq_zero_of_lt hx.1 hx.2]
      omega
    have e2 : (d * nq p r (i + 1) + ((nq p r (i + 1) : Int) - 1)) % (nq p r (i + 1) : Int) = (nq p r (i + 1) : Int) - 1 := by
      rw [Int.mul_comm, Int.add_comm, Int.add_mul_emod_self_left]
      exact Int.emod_eq_of_lt hx.1 hx.2
    rw [hd1]
    show (if b2 (okB (loS (p i) + (d * nq p r (i + 1) + ((nq p r (i + 1) : Int) - 1)) / nq p r (i + 1)) H) = 1 then FF p r (i + 1) (stepH (loS (p i) + (d * nq p r (i + 1) + ((nq p r (i + 1) : Int) - 1)) / nq p r (i + 1)) H) ((d * nq p r (i + 1) + ((nq p r (i + 1) : Int) - 1)) % nq p r (i + 1)) else i) = if b2 (okB (lnS (p i)) H') = 1 then FD p r (i + 1) (stepH (lnS (p i)) H') else i
    rw [e1, e2, hd2]
    by_cases hp : p i = 42
    · rw [if_pos hp, (lnS_hole hp).1, if_pos (b2_pos (show okB 6 H from Or.inl (by decide))), if_pos (b2_pos (show okB 7 H' from Or.inl (by decide)))]
      refine FF_dots p r (i + 1) _ _ (fun j h1 h2 => ?_)
      unfold stepH
      rw [if_neg (by omega), if_neg (by omega), hH j h1 h2]
    · rw [if_neg hp]
      have l := lnS_rng hp
      have ho : okB (lnS (p i)) H ↔ okB (lnS (p i)) H' := by
        unfold okB
        by_cases e6 : 6 ≤ lnS (p i)
        · exact ⟨fun _ => Or.inl e6, fun _ => Or.inl e6⟩
        · rw [hH _ l.1 (by omega)]
      rw [b2_congr ho]
      split
      · refine FF_dots p r (i + 1) _ _ (fun j h1 h2 => ?_)
        unfold stepH
        rw [hH j h1 h2]
      · rfl
