/-! ===== gifts ===== -/
def mi (s m : Int) : Int := iAnd s (iXor (iShl 1 m) (-1))
/-- the sets below 64, by cases of what is in them -/
theorem mi_nat {s m : Nat} (hs : s < 64) (hm : m < 6) : mi (s : Int) (m : Int) = ((s &&& (2 ^ m ^^^ 4294967295) : Nat) : Int) := by
  have h2 : 2 ^ m < 256 := pow_lt256 (by omega)
  unfold mi
  rw [iShl1 m (by omega), iAndNot_nat (by omega) (by omega)]
theorem mi_tb : ∀ s : Nat, s < 64 → ∀ m : Nat, m < 6 → s &&& (2 ^ m ^^^ 4294967295) = if s.testBit m then s - 2 ^ m else s := by decide +kernel
theorem mi_tb2 : ∀ s : Nat, s < 64 → ∀ m : Nat, m < 6 → ∀ j : Nat, j < 6 → s.testBit m = true → (s - 2 ^ m).testBit j = (s.testBit j && (m != j)) := by decide +kernel
theorem tb_ge : ∀ s : Nat, s < 64 → ∀ m : Nat, m < 6 → s.testBit m = true → 2 ^ m ≤ s := by decide +kernel
theorem mi_lt {s m : Int} (hs : 0 ≤ s ∧ s < 64) (hm : 0 ≤ m ∧ m < 6) (h : bt s m) : 0 ≤ mi s m ∧ mi s m < s := by
  obtain ⟨n, rfl⟩ := Int.eq_ofNat_of_zero_le hs.1
  obtain ⟨k, rfl⟩ := Int.eq_ofNat_of_zero_le hm.1
  rw [bt_nat (by omega) (by omega)] at h
  rw [mi_nat (by omega) (by omega), mi_tb n (by omega) k (by omega), if_pos h]
  have := tb_ge n (by omega) k (by omega) h
  have := Nat.two_pow_pos k
  omega
theorem bt_mi {s m j : Int} (hs : 0 ≤ s ∧ s < 64) (hm : 0 ≤ m ∧ m < 6) (hj : 0 ≤ j ∧ j < 6) (h : bt s m) : bt (mi s m) j ↔ bt s j ∧ j ≠ m := by
  obtain ⟨n, rfl⟩ := Int.eq_ofNat_of_zero_le hs.1
  obtain ⟨k, rfl⟩ := Int.eq_ofNat_of_zero_le hm.1
  obtain ⟨i, rfl⟩ := Int.eq_ofNat_of_zero_le hj.1
  rw [bt_nat (by omega) (by omega)] at h
  rw [mi_nat (by omega) (by omega), mi_tb n (by omega) k (by omega), if_pos h, bt_nat (by omega) (by omega), bt_nat (by omega) (by omega), mi_tb2 n (by omega) k (by omega) i (by omega) h, Bool.and_eq_true, bne_iff_ne]
  exact and_congr Iff.rfl (by omega)
theorem set_ext64 : ∀ s : Nat, s < 64 → ∀ t : Nat, t < 64 → (∀ j : Nat, j < 6 → s.testBit j = t.testBit j) → s = t := by decide +kernel
theorem set_ext {s t : Int} (hs : 0 ≤ s ∧ s < 64) (ht : 0 ≤ t ∧ t < 64) (h : ∀ j, 0 ≤ j → j < 6 → (bt s j ↔ bt t j)) : s = t := by
  obtain ⟨n, rfl⟩ := Int.eq_ofNat_of_zero_le hs.1
  obtain ⟨k, rfl⟩ := Int.eq_ofNat_of_zero_le ht.1
  rw [set_ext64 n (by omega) k (by omega) (fun j hj => ?_)]
  have := h j (by omega) (by omega)
  rw [bt_nat (by omega) (by omega), bt_nat (by omega) (by omega)] at this
  exact Bool.eq_iff_iff.mpr this
noncomputable def mx (T : Int → Int) (s : Int) : Nat → Int
  | 0 => 0
  | n + 1 => if sb s n = 1 then max (mx T s n) (T (mi s n)) else mx T s n
noncomputable def vG (f : Int → Int) (T : Int → Int) (s : Int) : Int := mx T s 6 + b2 (0 < s ∧ sumS f s = 0)
noncomputable def Gt (f : Int → Int) : Nat → (Int → Int)
  | 0 => fun _ => 0
  | n + 1 => fun s => if s = n then vG f (Gt f n) s else Gt f n s
noncomputable def GG (f : Int → Int) (s : Int) : Int := Gt f 64 s
theorem mx_congr {T T' : Int → Int} {s : Int} : ∀ {n : Nat}, (∀ j : Int, 0 ≤ j → j < n → bt s j → T (mi s j) = T' (mi s j)) → mx T s n = mx T' s n
  | 0, _ => rfl
  | n + 1, h => by
    show (if sb s n = 1 then max (mx T s n) (T (mi s n)) else mx T s n) = if sb s n = 1 then max (mx T' s n) (T' (mi s n)) else mx T' s n
    rw [mx_congr (T := T) (T' := T') (n := n) (fun j h1 h2 h3 => h j h1 (by omega) h3)]
    by_cases e : sb s n = 1
    · rw [if_pos e, if_pos e, h n (by omega) (by omega) e]
    · rw [if_neg e, if_neg e]
theorem mx_up {T : Int → Int} {s : Int} : ∀ {n : Nat} {j : Int}, 0 ≤ j → j < n → bt s j → T (mi s j) ≤ mx T s n
  | 0, _, _, _, _ => by omega
  | n + 1, j, h1, h2, h3 => by
    show T (mi s j) ≤ if sb s n = 1 then max (mx T s n) (T (mi s n)) else mx T s n
    by_cases e : j = n
    · subst e
      rw [if_pos h3]
      omega
    · have := mx_up (T := T) (s := s) (n := n) h1 (by omega) h3
      split <;> omega
theorem mx_at {T : Int → Int} {s : Int} : ∀ (n : Nat), mx T s n = 0 ∨ ∃ j : Int, (0 ≤ j ∧ j < n) ∧ bt s j ∧ mx T s n = T (mi s j)
  | 0 => Or.inl rfl
  | n + 1 => by
    show (if sb s n = 1 then max (mx T s n) (T (mi s n)) else mx T s n) = 0 ∨ ∃ j : Int, (0 ≤ j ∧ j < (n + 1 : Nat)) ∧ bt s j ∧ (if sb s n = 1 then max (mx T s n) (T (mi s n)) else mx T s n) = T (mi s j)
    have ih := mx_at (T := T) (s := s) n
    by_cases e : sb s n = 1
    · rw [if_pos e]
      by_cases h : mx T s n ≤ T (mi s n)
      · exact Or.inr ⟨n, by omega, e, by omega⟩
      · rw [show max (mx T s n) (T (mi s n)) = mx T s n by omega]
        rcases ih with q | ⟨j, q1, q2, q3⟩
        · exact Or.inl q
        · exact Or.inr ⟨j, by omega, q2, q3⟩
    · rw [if_neg e]
      rcases ih with q | ⟨j, q1, q2, q3⟩
      · exact Or.inl q
      · exact Or.inr ⟨j, by omega, q2, q3⟩
theorem mx_nn {T : Int → Int} {s : Int} : ∀ (n : Nat), 0 ≤ mx T s n
  | 0 => Int.le_refl _
  | n + 1 => by
    show 0 ≤ if sb s n = 1 then max (mx T s n) (T (mi s n)) else mx T s n
    have := mx_nn (T := T) (s := s) n
    split <;> omega
theorem Gt_stay {f : Int → Int} {s : Int} {n : Nat} (h : s < n) : ∀ d : Nat, Gt f (n + d) s = Gt f n s
  | 0 => rfl
  | d + 1 => by
    show (if s = ((n + d : Nat) : Int) then vG f (Gt f (n + d)) s else Gt f (n + d) s) = _
    rw [if_neg (by omega)]
    exact Gt_stay h d
theorem Gt_GG {f : Int → Int} {s : Int} {n : Nat} (h : s < n) (hn : n ≤ 64) : Gt f n s = GG f s := by
  have := Gt_stay (f := f) h (64 - n)
  unfold GG
  rw [← this, show n + (64 - n) = 64 by omega]
theorem GG_eq {f : Int → Int} {s : Int} (hs : 0 ≤ s ∧ s < 64) : GG f s = vG f (GG f) s := by
  obtain ⟨n, rfl⟩ := Int.eq_ofNat_of_zero_le hs.1
  rw [← Gt_GG (n := n + 1) (by omega) (by omega)]
  show (if (n : Int) = n then vG f (Gt f n) n else Gt f n n) = _
  rw [if_pos rfl]
  unfold vG
  rw [mx_congr (T := Gt f n) (T' := GG f) (fun j h1 h2 h3 => Gt_GG (by have := mi_lt (s := n) (m := j) (by omega) (by omega) h3; omega) (by omega))]
theorem GG_nn {f : Int → Int} {s : Int} (hs : 0 ≤ s ∧ s < 64) : 0 ≤ GG f s := by
  have := mx_nn (T := GG f) (s := s) 6
  have := b2_01 (0 < s ∧ sumS f s = 0)
  rw [GG_eq hs]
  unfold vG
  omega
theorem sumS_mi {f : Int → Int} {s z : Int} (hs : 0 ≤ s ∧ s < 64) (hz : 0 ≤ z ∧ z < 6) (h : bt s z) (h0 : f z = 0) : sumS f (mi s z) = sumS f s := by
  unfold sumS
  refine sumN_congr (fun j h1 h2 => ?_)
  have e := bt_mi (j := j) hs hz (by omega) h
  by_cases ej : j = z
  · rw [ej, h0, Int.mul_zero, Int.mul_zero]
  · rw [sbm, sbm]
    by_cases q : sb s j = 1
    · rw [if_pos q, if_pos (e.mpr ⟨q, ej⟩)]
    · rw [if_neg q, if_neg (fun w => q (e.mp w).1)]
theorem nz_bt {s : Int} (hs : 0 ≤ s ∧ s < 64) (h : 0 < s) : ∃ j, (0 ≤ j ∧ j < 6) ∧ bt s j := by
  refine Classical.byContradiction (fun hn => ?_)
  have : s = 0 := set_ext hs (by decide) (fun j h1 h2 => ⟨fun w => absurd ⟨j, ⟨h1, h2⟩, w⟩ hn, fun w => absurd w (by
    have : ∀ j : Nat, j < 6 → ¬ (0 : Nat).testBit j = true := by decide
    obtain ⟨k, rfl⟩ := Int.eq_ofNat_of_zero_le h1
    rw [show (0 : Int) = ((0 : Nat) : Int) from rfl, bt_nat (by decide) (by omega)]
    exact this k (by omega))⟩)
  omega
theorem mi_mi {s i z : Int} (hs : 0 ≤ s ∧ s < 64) (hi : 0 ≤ i ∧ i < 6) (hz : 0 ≤ z ∧ z < 6) (h : bt s i) (h2 : bt s z) (hne : i ≠ z) : mi (mi s i) z = mi (mi s z) i := by
  have a := mi_lt hs hi h
  have b := mi_lt hs hz h2
  have ha : bt (mi s i) z := (bt_mi hs hi hz h).mpr ⟨h2, fun e => hne e.symm⟩
  have hb : bt (mi s z) i := (bt_mi hs hz hi h2).mpr ⟨h, hne⟩
  have a2 := mi_lt (by omega) hz ha
  have b2' := mi_lt (by omega) hi hb
  refine set_ext (by omega) (by omega) (fun j h3 h4 => ?_)
  rw [bt_mi (by omega) hz ⟨h3, h4⟩ ha, bt_mi hs hi ⟨h3, h4⟩ h, bt_mi (by omega) hi ⟨h3, h4⟩ hb, bt_mi hs hz ⟨h3, h4⟩ h2]
  exact ⟨fun w => ⟨⟨w.1.1, w.2⟩, w.1.2⟩, fun w => ⟨⟨w.1.1, w.2⟩, w.1.2⟩⟩
theorem GG_z {f : Int → Int} : ∀ (n : Nat) (s z : Int), s < n → 0 ≤ s ∧ s < 64 → 0 ≤ z ∧ z < 6 → bt s z → f z = 0 → GG f s = GG f (mi s z) + 1
  | 0, _, _, h, hs, _, _, _ => by omega
  | n + 1, s, z, h, hs, hz, hb, h0 => by
    have m := mi_lt hs hz hb
    have m2 : 0 ≤ mi s z ∧ mi s z < 64 := by omega
    have eS := sumS_mi hs hz hb h0
    have hrec : ∀ i, 0 ≤ i → i < 6 → bt (mi s z) i → GG f (mi s i) = GG f (mi (mi s z) i) + 1 := fun i h1 h2 h3 => by
      have q := (bt_mi hs hz ⟨h1, h2⟩ hb).mp h3
      have mm := mi_lt hs ⟨h1, h2⟩ q.1
      rw [GG_z n (mi s i) z (by omega) (by omega) hz ((bt_mi hs ⟨h1, h2⟩ hz q.1).mpr ⟨hb, fun e => q.2 e.symm⟩) h0, mi_mi hs ⟨h1, h2⟩ hz q.1 hb q.2]
    have up1 : ∀ i, 0 ≤ i → i < 6 → bt s i → GG f (mi s i) ≤ mx (GG f) s 6 := fun i h1 h2 h3 => mx_up h1 h2 h3
    have at1 := mx_at (T := GG f) (s := s) 6
    have up2 : ∀ i, 0 ≤ i → i < 6 → bt (mi s z) i → GG f (mi (mi s z) i) ≤ mx (GG f) (mi s z) 6 := fun i h1 h2 h3 => mx_up h1 h2 h3
    have at2 := mx_at (T := GG f) (s := mi s z) 6
    have n2 := mx_nn (T := GG f) (s := mi s z) 6
    have uz := up1 z hz.1 hz.2 hb
    have gz := GG_nn (f := f) m2
    have e1 := GG_eq (f := f) hs
    have e2 := GG_eq (f := f) m2
    unfold vG at e1 e2
    rw [eS] at e2
    have hkey : 0 < mi s z → mx (GG f) s 6 = mx (GG f) (mi s z) 6 + 1 := fun hp => by
      obtain ⟨i, hi, hbi⟩ := nz_bt m2 hp
      have q := (bt_mi hs hz hi hb).mp hbi
      have r1 := hrec i hi.1 hi.2 hbi
      have r2 := up1 i hi.1 hi.2 q.1
      have r3 := mi_lt m2 hi hbi
      have r4 := GG_nn (f := f) (s := mi (mi s z) i) (by omega)
      have le : mx (GG f) (mi s z) 6 + 1 ≤ mx (GG f) s 6 := by
        rcases at2 with w | ⟨j, w1, w2, w3⟩
        · omega
        · have := hrec j w1.1 w1.2 w2
          have := up1 j w1.1 w1.2 ((bt_mi hs hz w1 hb).mp w2).1
          omega
      have ge : mx (GG f) s 6 ≤ mx (GG f) (mi s z) 6 + 1 := by
        rcases at1 with w | ⟨j, w1, w2, w3⟩
        · omega
        · by_cases e : j = z
          · rw [w3, e, e2]
            have := b2_01 (0 < mi s z ∧ sumS f s = 0)
            omega
          · have hj := (bt_mi hs hz w1 hb).mpr ⟨w2, e⟩
            have := hrec j w1.1 w1.2 hj
            have := up2 j w1.1 w1.2 hj
            omega
      omega
    by_cases hp : 0 < mi s z
    · have := hkey hp
      rw [e1, e2, this]
      by_cases hq : sumS f s = 0
      · rw [b2_pos ⟨by omega, hq⟩, b2_pos ⟨hp, hq⟩]; omega
      · rw [b2_neg (fun w => hq w.2), b2_neg (fun w => hq w.2)]; omega
    · have hz0 : mi s z = 0 := by omega
      have hno : ∀ i, 0 ≤ i → i < 6 → bt s i → i = z := fun i h1 h2 h3 => Classical.byContradiction (fun e => by
        have w := (bt_mi hs hz ⟨h1, h2⟩ hb).mpr ⟨h3, e⟩
        have := mi_lt m2 ⟨h1, h2⟩ w
        omega)
      have hS0 : sumS f s = 0 := by
        unfold sumS
        refine sumN_zero (fun j h1 h2 => ?_)
        rw [sbm]
        by_cases q : sb s j = 1
        · rw [if_pos q, hno j h1 h2 q, h0]
        · rw [if_neg q]
      have g0 : GG f (mi s z) = 0 := by
        rw [e2, b2_neg (fun w => hp w.1)]
        rcases at2 with w | ⟨j, w1, w2, w3⟩
        · omega
        · have := mi_lt m2 w1 w2
          omega
      have x0 : mx (GG f) s 6 = 0 := by
        rcases at1 with w | ⟨j, w1, w2, w3⟩
        · exact w
        · rw [w3, hno j w1.1 w1.2 w2, g0]
      rw [e1, x0, b2_pos ⟨by omega, hS0⟩, g0]
