/-! ===== gifts ===== -/
def mi (s m : Int) : Int := iAnd s (iXor (iShl 1 m) (-1))
/-- the sets below 64, by cases of what is in them -/
theorem mi_nat {s m : Nat} (hs : s < 64) (hm : m < 6) : mi (s : Int) (m : Int) = ((s &&& (2 ^ m ^^^ 4294967295) : Nat) : Int) := by
  have h2 : 2 ^ m < 256 := pow_lt256 (by omega)
  unfold mi
  rw [iShl1 m (by omega), iAndNot_nat (by omega) (by omega)]
theorem mi_tb : ∀ s : Nat, s < 64 → ∀ m : Nat, m < 6 → s &&& (2 ^ m ^^^ 4294967295) = if s.testBit m then s - 2 ^ m else s := by decide +kernel
theorem mi_tb2 : ∀ s : Nat, s < 64 → ∀ m : Nat, m < 6 → ∀ j : Nat, j < 6 → s.testBit m = true → (s - 2 ^ m).testBit j = (s.testBit j && (m != j)) := by decide +kernel
theorem tb_ge : ∀ s : Nat, s < 64 → ∀ m : Nat, m < 6 → s.testBit m = true → 2 ^ m ≤ s := by decide +kernel
theorem mi_lt {s m : Int} (hs : 0 ≤ s ∧ s < 64) (hm : 0 ≤ m ∧ m < 6) (h : bt s m) : 0 ≤ mi s m ∧ mi s m < s := by
  obtain ⟨n, rfl⟩ := Int.eq_ofNat_of_zero_le hs.1
  obtain ⟨k, rfl⟩ := Int.eq_ofNat_of_zero_le hm.1
  rw [bt_nat (by omega) (by omega)] at h
  rw [mi_nat (by omega) (by omega), mi_tb n (by omega) k (by omega), if_pos h]
  have := tb_ge n (by omega) k (by omega) h
  have := Nat.two_pow_pos k
  omega
theorem bt_mi {s m j : Int} (hs : 0 ≤ s ∧ s < 64) (hm : 0 ≤ m ∧ m < 6) (hj : 0 ≤ j ∧ j < 6) (h : bt s m) : bt (mi s m) j ↔ bt s j ∧ j ≠ m := by
  obtain ⟨n, rfl⟩ := Int.eq_ofNat_of_zero_le hs.1
  obtain ⟨k, rfl⟩ := Int.eq_ofNat_of_zero_le hm.1
  obtain ⟨i, rfl⟩ := Int.eq_ofNat_of_zero_le hj.1
  rw [bt_nat (by omega) (by omega)] at h
  rw [mi_nat (by omega) (by omega), mi_tb n (by omega) k (by omega), if_pos h, bt_nat (by have := Nat.sub_le n (2 ^ k); omega) (by omega), bt_nat (by omega) (by omega), mi_tb2 n (by omega) k (by omega) i (by omega) h, Bool.and_eq_true, bne_iff_ne]
  exact and_congr Iff.rfl (by omega)
theorem set_ext64 : ∀ s : Nat, s < 64 → ∀ t : Nat, t < 64 → (∀ j : Nat, j < 6 → s.testBit j = t.testBit j) → s = t := by decide +kernel
theorem set_ext {s t : Int} (hs : 0 ≤ s ∧ s < 64) (ht : 0 ≤ t ∧ t < 64) (h : ∀ j, 0 ≤ j → j < 6 → (bt s j ↔ bt t j)) : s = t := by
  obtain ⟨n, rfl⟩ := Int.eq_ofNat_of_zero_le hs.1
  obtain ⟨k, rfl⟩ := Int.eq_ofNat_of_zero_le ht.1
  rw [set_ext64 n (by omega) k (by omega) (fun j hj => ?_)]
  have := h j (by omega) (by omega)
  rw [bt_nat (by omega) (by omega), bt_nat (by omega) (by omega)] at this
  exact Bool.eq_iff_iff.mpr this
noncomputable def mx (T : Int → Int) (s : Int) : Nat → Int
  | 0 => 0
  | n + 1 => if sb s n = 1 then max (mx T s n) (T (mi s n)) else mx T s n
noncomputable def vG (f : Int → Int) (T : Int → Int) (s : Int) : Int := mx T s 6 + b2 (0 < s ∧ sumS f s = 0)
noncomputable def Gt (f : Int → Int) : Nat → (Int → Int)
  | 0 => fun _ => 0
  | n + 1 => fun s => if s = n then vG f (Gt f n) s else Gt f n s
noncomputable def GG (f : Int → Int) (s : Int) : Int := Gt f 64 s
theorem mx_congr {T T' : Int → Int} {s : Int} : ∀ {n : Nat}, (∀ j : Int, 0 ≤ j → j < n → bt s j → T (mi s j) = T' (mi s j)) → mx T s n = mx T' s n
  | 0, _ => rfl
  | n + 1, h => by
    show (if sb s n = 1 then max (mx T s n) (T (mi s n)) else mx T s n) = if sb s n = 1 then max (mx T' s n) (T' (mi s n)) else mx T' s n
    rw [mx_congr (T := T) (T' := T') (n := n) (fun j h1 h2 h3 => h j h1 (by omega) h3)]
    by_cases e : sb s n = 1
    · rw [if_pos e, if_pos e, h n (by omega) (by omega) e]
    · rw [if_neg e, if_neg e]
theorem mx_up {T : Int → Int} {s : Int} : ∀ {n : Nat} {j : Int}, 0 ≤ j → j < n → bt s j → T (mi s j) ≤ mx T s n
  | 0, _, _, _, _ => by omega
  | n + 1, j, h1, h2, h3 => by
    show T (mi s j) ≤ if sb s n = 1 then max (mx T s n) (T (mi s n)) else mx T s n
    by_cases e : j = n
    · subst e
      rw [if_pos (show sb s n = 1 from h3)]
      omega
    · have := mx_up (T := T) (s := s) (n := n) h1 (by omega) h3
      split <;> omega
theorem mx_at {T : Int → Int} {s : Int} : ∀ (n : Nat), mx T s n = 0 ∨ ∃ j : Int, (0 ≤ j ∧ j < n) ∧ bt s j ∧ mx T s n = T (mi s j)
  | 0 => Or.inl rfl
  | n + 1 => by
    show (if sb s n = 1 then max (mx T s n) (T (mi s n)) else mx T s n) = 0 ∨ ∃ j : Int, (0 ≤ j ∧ j < (n + 1 : Nat)) ∧ bt s j ∧ (if sb s n = 1 then max (mx T s n) (T (mi s n)) else mx T s n) = T (mi s j)
    have ih := mx_at (T := T) (s := s) n
    by_cases e : sb s n = 1
    · rw [if_pos e]
      by_cases h : mx T s n ≤ T (mi s n)
      · exact Or.inr ⟨n, by omega, e, by omega⟩
      · rw [show max (mx T s n) (T (mi s n)) = mx T s n by omega]
        rcases ih with q | ⟨j, q1, q2, q3⟩
        · exact Or.inl q
        · exact Or.inr ⟨j, by omega, q2, q3⟩
    · rw [if_neg e]
      rcases ih with q | ⟨j, q1, q2, q3⟩
      · exact Or.inl q
      · exact Or.inr ⟨j, by omega, q2, q3⟩
theorem mx_nn {T : Int → Int} {s : Int} : ∀ (n : Nat), 0 ≤ mx T s n
  | 0 => Int.le_refl _
  | n + 1 => by
    show 0 ≤ if sb s n = 1 then max (mx T s n) (T (mi s n)) else mx T s n
    have := mx_nn (T := T) (s := s) n
    split <;> omega
theorem Gt_stay {f : Int → Int} {s : Int} {n : Nat} (h : s < n) : ∀ d : Nat, Gt f (n + d) s = Gt f n s
  | 0 => rfl
  | d + 1 => by
    show (if s = ((n + d : Nat) : Int) then vG f (Gt f (n + d)) s else Gt f (n + d) s) = _
    rw [if_neg (by omega)]
    exact Gt_stay h d
theorem Gt_GG {f : Int → Int} {s : Int} {n : Nat} (h : s < n) (hn : n ≤ 64) : Gt f n s = GG f s := by
  have := Gt_stay (f := f) h (64 - n)
  unfold GG
  rw [← this, show n + (64 - n) = 64 by omega]
theorem GG_eq {f : Int → Int} {s : Int} (hs : 0 ≤ s ∧ s < 64) : GG f s = vG f (GG f) s := by
  obtain ⟨n, rfl⟩ := Int.eq_ofNat_of_zero_le hs.1
  rw [← Gt_GG (n := n + 1) (by omega) (by omega)]
  show (if (n : Int) = n then vG f (Gt f n) n else Gt f n n) = _
  rw [if_pos rfl]
  unfold vG
  rw [mx_congr (T := Gt f n) (T' := GG f) (fun j h1 h2 h3 => Gt_GG (by have := mi_lt (s := n) (m := j) (by omega) (by omega) h3; omega) (by omega))]
theorem GG_nn {f : Int → Int} {s : Int} (hs : 0 ≤ s ∧ s < 64) : 0 ≤ GG f s := by
  have := mx_nn (T := GG f) (s := s) 6
  have := b2_01 (0 < s ∧ sumS f s = 0)
  rw [GG_eq hs]
  unfold vG
  omega
theorem sumS_mi {f : Int → Int} {s z : Int} (hs : 0 ≤ s ∧ s < 64) (hz : 0 ≤ z ∧ z < 6) (h : bt s z) (h0 : f z = 0) : sumS f (mi s z) = sumS f s := by
  unfold sumS
  refine sumN_congr (fun j h1 h2 => ?_)
  have e := bt_mi (j := j) hs hz (by omega) h
  by_cases ej : j = z
  · rw [ej, h0, Int.mul_zero, Int.mul_zero]
  · rw [sbm, sbm]
    by_cases q : sb s j = 1
    · rw [if_pos q, if_pos (show sb (mi s z) j = 1 from e.mpr ⟨q, ej⟩)]
    · rw [if_neg q, if_neg (show ¬ sb (mi s z) j = 1 from fun w => q (e.mp w).1)]
theorem nz_bt {s : Int} (hs : 0 ≤ s ∧ s < 64) (h : 0 < s) : ∃ j, (0 ≤ j ∧ j < 6) ∧ bt s j := by
  refine Classical.byContradiction (fun hn => ?_)
  have : s = 0 := set_ext hs (by decide) (fun j h1 h2 => ⟨fun w => absurd ⟨j, ⟨h1, h2⟩, w⟩ hn, fun w => absurd w (by
    have : ∀ j : Nat, j < 6 → ¬ (0 : Nat).testBit j = true := by decide
    obtain ⟨k, rfl⟩ := Int.eq_ofNat_of_zero_le h1
    rw [show (0 : Int) = ((0 : Nat) : Int) from rfl, bt_nat (by decide) (by omega)]
    exact this k (by omega))⟩)
  omega
theorem mi_mi {s i z : Int} (hs : 0 ≤ s ∧ s < 64) (hi : 0 ≤ i ∧ i < 6) (hz : 0 ≤ z ∧ z < 6) (h : bt s i) (h2 : bt s z) (hne : i ≠ z) : mi (mi s i) z = mi (mi s z) i := by
  have a := mi_lt hs hi h
  have b := mi_lt hs hz h2
  have ha : bt (mi s i) z := (bt_mi hs hi hz h).mpr ⟨h2, fun e => hne e.symm⟩
  have hb : bt (mi s z) i := (bt_mi hs hz hi h2).mpr ⟨h, hne⟩
  have a2 := mi_lt (by omega) hz ha
  have b2' := mi_lt (by omega) hi hb
  refine set_ext (by omega) (by omega) (fun j h3 h4 => ?_)
  rw [bt_mi (by omega) hz ⟨h3, h4⟩ ha, bt_mi hs hi ⟨h3, h4⟩ h, bt_mi (by omega) hi ⟨h3, h4⟩ hb, bt_mi hs hz ⟨h3, h4⟩ h2]
  exact ⟨fun w => ⟨⟨w.1.1, w.2⟩, w.1.2⟩, fun w => ⟨⟨w.1.1, w.2⟩, w.1.2⟩⟩
theorem GG_z {f : Int → Int} : ∀ (n : Nat) (s z : Int), s < n → 0 ≤ s ∧ s < 64 → 0 ≤ z ∧ z < 6 → bt s z → f z = 0 → GG f s = GG f (mi s z) + 1
  | 0, _, _, h, hs, _, _, _ => by omega
  | n + 1, s, z, h, hs, hz, hb, h0 => by
    have m := mi_lt hs hz hb
    have m2 : 0 ≤ mi s z ∧ mi s z < 64 := by omega
    have eS := sumS_mi hs hz hb h0
    have hrec : ∀ i, 0 ≤ i → i < 6 → bt (mi s z) i → GG f (mi s i) = GG f (mi (mi s z) i) + 1 := fun i h1 h2 h3 => by
      have q := (bt_mi hs hz ⟨h1, h2⟩ hb).mp h3
      have mm := mi_lt hs ⟨h1, h2⟩ q.1
      rw [GG_z n (mi s i) z (by omega) (by omega) hz ((bt_mi hs ⟨h1, h2⟩ hz q.1).mpr ⟨hb, fun e => q.2 e.symm⟩) h0, mi_mi hs ⟨h1, h2⟩ hz q.1 hb q.2]
    have up1 : ∀ i, 0 ≤ i → i < 6 → bt s i → GG f (mi s i) ≤ mx (GG f) s 6 := fun i h1 h2 h3 => mx_up h1 h2 h3
    have at1 := mx_at (T := GG f) (s := s) 6
    have up2 : ∀ i, 0 ≤ i → i < 6 → bt (mi s z) i → GG f (mi (mi s z) i) ≤ mx (GG f) (mi s z) 6 := fun i h1 h2 h3 => mx_up h1 h2 h3
    have at2 := mx_at (T := GG f) (s := mi s z) 6
    have n2 := mx_nn (T := GG f) (s := mi s z) 6
    have uz := up1 z hz.1 hz.2 hb
    have gz := GG_nn (f := f) m2
    have e1 := GG_eq (f := f) hs
    have e2 := GG_eq (f := f) m2
    unfold vG at e1 e2
    rw [eS] at e2
    have hkey : 0 < mi s z → mx (GG f) s 6 = mx (GG f) (mi s z) 6 + 1 := fun hp => by
      obtain ⟨i, hi, hbi⟩ := nz_bt m2 hp
      have q := (bt_mi hs hz hi hb).mp hbi
      have r1 := hrec i hi.1 hi.2 hbi
      have r2 := up1 i hi.1 hi.2 q.1
      have r3 := mi_lt m2 hi hbi
      have r4 := GG_nn (f := f) (s := mi (mi s z) i) (by omega)
      have le : mx (GG f) (mi s z) 6 + 1 ≤ mx (GG f) s 6 := by
        rcases at2 with w | ⟨j, w1, w2, w3⟩
        · omega
        · have := hrec j w1.1 w1.2 w2
          have := up1 j w1.1 w1.2 ((bt_mi hs hz w1 hb).mp w2).1
          omega
      have ge : mx (GG f) s 6 ≤ mx (GG f) (mi s z) 6 + 1 := by
        rcases at1 with w | ⟨j, w1, w2, w3⟩
        · omega
        · by_cases e : j = z
          · rw [w3, e, e2]
            have := b2_01 (0 < mi s z ∧ sumS f s = 0)
            omega
          · have hj := (bt_mi hs hz w1 hb).mpr ⟨w2, e⟩
            have := hrec j w1.1 w1.2 hj
            have := up2 j w1.1 w1.2 hj
            omega
      omega
    by_cases hp : 0 < mi s z
    · have := hkey hp
      rw [e1, e2, this]
      by_cases hq : sumS f s = 0
      · rw [b2_pos ⟨by omega, hq⟩, b2_pos ⟨hp, hq⟩]
      · rw [b2_neg (fun w => hq w.2), b2_neg (fun w => hq w.2)]; omega
    · have hz0 : mi s z = 0 := by omega
      have hno : ∀ i, 0 ≤ i → i < 6 → bt s i → i = z := fun i h1 h2 h3 => Classical.byContradiction (fun e => by
        have w := (bt_mi hs hz ⟨h1, h2⟩ hb).mpr ⟨h3, e⟩
        have := mi_lt m2 ⟨h1, h2⟩ w
        omega)
      have hS0 : sumS f s = 0 := by
        unfold sumS
        refine sumN_zero (fun j h1 h2 => ?_)
        rw [sbm]
        by_cases q : sb s j = 1
        · rw [if_pos q, hno j h1 h2 q, h0]
        · rw [if_neg q]
      have g0 : GG f (mi s z) = 0 := by
        rw [e2, b2_neg (fun w => hp w.1)]
        rcases at2 with w | ⟨j, w1, w2, w3⟩
        · omega
        · have := mi_lt m2 w1 w2
          omega
      have x0 : mx (GG f) s 6 = 0 := by
        rcases at1 with w | ⟨j, w1, w2, w3⟩
        · exact w
        · rw [w3, hno j w1.1 w1.2 w2, g0]
      rw [e1, x0, b2_pos ⟨by omega, hS0⟩, g0]

theorem GG_le {f : Int → Int} : ∀ (n : Nat) (s : Int), s < n → 0 ≤ s ∧ s < 64 → GG f s ≤ s
  | 0, _, h, hs => by omega
  | n + 1, s, h, hs => by
    rw [GG_eq hs]
    unfold vG
    have b := b2_01 (0 < s ∧ sumS f s = 0)
    rcases mx_at (T := GG f) (s := s) 6 with w | ⟨j, w1, w2, w3⟩
    · by_cases e : 0 < s
      · omega
      · rw [b2_neg (fun q => e q.1)]; omega
    · have q := mi_lt hs w1 w2
      have := GG_le (f := f) n (mi s j) (by omega) (by omega)
      omega
theorem GG_rng {f : Int → Int} {s : Int} (hs : 0 ≤ s ∧ s < 64) : 0 ≤ GG f s ∧ GG f s ≤ 63 := by
  have := GG_le (f := f) 64 s (by omega) hs
  have := GG_nn (f := f) hs
  omega
theorem mx_step {T : Int → Int} {s i : Int} (h : 0 ≤ i) : mx T s (i + 1).toNat = if sb s i = 1 then max (mx T s i.toNat) (T (mi s i)) else mx T s i.toNat := by
  obtain ⟨n, rfl⟩ := Int.eq_ofNat_of_zero_le h
  rw [show ((n : Int) + 1).toNat = n + 1 by omega, Int.toNat_natCast]
  rfl
theorem mx_le {T : Int → Int} {s : Int} (n : Nat) {B : Int} (hB : 0 ≤ B) (h : ∀ j : Int, 0 ≤ j → j < n → bt s j → T (mi s j) ≤ B) : mx T s n ≤ B := by
  rcases mx_at (T := T) (s := s) n with w | ⟨j, w1, w2, w3⟩
  · omega
  · have := h j w1.1 w1.2 w2
    omega
theorem sumS_bd {f : Int → Int} (s : Int) (h : ∀ k, 0 ≤ k → k < 6 → -1000 ≤ f k ∧ f k ≤ 1000) {n : Nat} (hn : (n : Int) ≤ 6) : -6000 ≤ sumN (fun k => sb s k * f k) n ∧ sumN (fun k => sb s k * f k) n ≤ 6000 := by
  have := sumN_rng (g := fun k => sb s k * f k) (a := -1000) (b := 1000) (n := n) (fun j h1 h2 => by
    have h3 := h j h1 (by omega)
    show -1000 ≤ sb s j * f j ∧ sb s j * f j ≤ 1000
    rw [sbm]
    split <;> omega)
  omega
theorem sumS_so {f : Int → Int} {s m : Int} (hs : 0 ≤ s ∧ s ≤ 255) (hm : 0 ≤ m ∧ m < 6) (h : ¬ bt s m) : sumS f (so s m) = sumS f s + f m := sum_so (c := 6) (by decide) hs hm h
theorem nbt_0 {j : Int} (hj : 0 ≤ j ∧ j < 8) : ¬ bt 0 j := nbt_small hj (by have := shl_rng (c := j) (by omega); omega)
theorem sumS_0 {f : Int → Int} : sumS f 0 = 0 := by
  unfold sumS
  refine sumN_zero (fun j h1 h2 => ?_)
  rw [sbm, if_neg (show ¬ sb 0 j = 1 from nbt_0 (j := j) (by omega))]
theorem GG_0 {f : Int → Int} : GG f 0 = 0 := by
  have := GG_rng (f := f) (s := 0) (by decide)
  have := GG_le (f := f) 64 0 (by decide) (by decide)
  omega
set_option maxRecDepth 100000 in
set_option maxHeartbeats 4000000 in
theorem lp_X3_mg {v : Ev} {as : List Nat} (M : Mm) (s : Int) (hs : 0 ≤ s ∧ s < 64) (hT : ∀ q, 0 ≤ q → q < s → 0 ≤ M 39 q ∧ M 39 q ≤ 63) (E : Cx v cX3_mostGroups 4 yX3_mostGroups.cls 2) (hret : RetI v as cX3_mostGroups .int (fun r M' => r = mx (M 39) s 6 ∧ M' = M)) : ∀ (N : Nat) (t i : Int), (6 - i).toNat < N → (0 ≤ i ∧ i ≤ 6) → (t = mx (M 39) s i.toNat) → Ws v as SH 0 0 4 [some (rv 37), some (iv s), some (iv t), some (iv i)] [] M := by
  intro N
  induction N with
  | zero =>
    intro t i hN
    exact absurd hN (Nat.not_lt_zero _)
  | succ N ih =>
    intro t i hN g0 g1
    refine s_iload_n E dX3_mostGroups_4 rfl ?_
    refine s_bipush E dX3_mostGroups_5 rfl ?_
    refine s_icmp_ge E 41 dX3_mostGroups_7 (by decide) (by omega) (by omega) (fun h7 => ?_) (fun h7 => ?_)
    · refine s_iload_n E dX3_mostGroups_41 rfl ?_
      refine hret _ _ ?_ (fun q => by cases q) _ _ dX3_mostGroups_42
      exact ⟨by rw [g1, show i = 6 by omega]; rfl, rfl⟩
    · refine s_iload_n E dX3_mostGroups_10 rfl ?_
      refine s_iload_n E dX3_mostGroups_11 rfl ?_
      refine s_callSNi E (c_X7_holds _ _ _ ) dX3_mostGroups_12 mf_X7_holds ml_X3_26 rfl (Nat.le_of_ble_eq_true rfl) (Nat.le_of_ble_eq_true rfl) rfl (fun r12 M12 h12 => ?_)
      obtain ⟨e12, f12⟩ := h12; subst r12; subst M12
      refine s_ifeqB E 35 dX3_mostGroups_15 (by decide) (fun h15 => ?_) (fun h15 => ?_)
      · refine s_iinc (ls' := [_, _, _, _]) E dX3_mostGroups_35 rfl rfl ?_
        refine s_goto E 4 dX3_mostGroups_38 (by decide) ?_
        refine ih _ _ (by omega) (by omega) ?_
        rw [mx_step (by omega), ← g1, if_neg (show ¬ sb s i = 1 from h15)]
      · have q := mi_lt hs (m := i) (by omega) h15
        have hq := hT _ q.1 q.2
        have hmx := mx_nn (T := M 39) (s := s) i.toNat
        have hmx2 := mx_le (T := M 39) (s := s) (B := 63) i.toNat (by decide) (fun j h1 h2 h3 => by
          have w := mi_lt hs (m := j) (by omega) h3
          exact (hT _ w.1 w.2).2)
        refine s_iload_n E dX3_mostGroups_18 rfl ?_
        refine s_aload_n E dX3_mostGroups_19 rfl ?_
        refine s_getR (kf := 1) E dX3_mostGroups_20 rfl inb_X3 (Nat.le_of_ble_eq_true rfl) fl_X3_15 (by decide) sh37 rfl ?_
        refine s_iload_n E dX3_mostGroups_23 rfl ?_
        refine s_iconst E dX3_mostGroups_24 ?_
        refine s_iload_n E dX3_mostGroups_25 rfl ?_
        refine s_ishl E dX3_mostGroups_26 ?_
        refine s_iconst E dX3_mostGroups_27 ?_
        refine s_ixor E dX3_mostGroups_28 ?_
        refine s_iand E dX3_mostGroups_29 ?_
        rw [show iAnd s (iXor (iShl 1 i) (-1)) = mi s i from rfl]
        refine s_iald E dX3_mostGroups_30 (by decide) sh39 (Nat.le_of_ble_eq_true rfl) (by omega) ?_
        refine s_mmax E dX3_mostGroups_31 ml_X3_30 mw_max (Nat.le_of_ble_eq_true rfl) (Nat.le_of_ble_eq_true rfl) (by omega) (by omega) ?_
        refine s_istore_n (ls' := [_, _, _, _]) E dX3_mostGroups_34 (Nat.le_of_ble_eq_true rfl) rfl ?_
        refine s_iinc (ls' := [_, _, _, _]) E dX3_mostGroups_35 rfl rfl ?_
        refine s_goto E 4 dX3_mostGroups_38 (by decide) ?_
        refine ih _ _ (by omega) (by omega) ?_
        rw [mx_step (by omega), ← g1, if_pos (show sb s i = 1 from h15)]

set_option maxRecDepth 100000 in
set_option maxHeartbeats 4000000 in
theorem c_X3_mostGroups (M : Mm) (s : Int) (hs : 0 ≤ s ∧ s < 64) (hT : ∀ q, 0 ≤ q → q < s → 0 ≤ M 39 q ∧ M 39 q ≤ 63) : CtI yX3_mostGroups cX3_mostGroups 4 .int 2 SH [rv 37, iv s] M (fun r M' => r = mx (M 39) s 6 ∧ M' = M) := by
  refine CtI.of rfl (Nat.le_of_ble_eq_true rfl) (Or.inl rfl) (fun v as E hret => ?_)
  show Ws v as SH 0 0 0 [some (rv 37), some (iv s), none, none] [] M
  refine s_iconst E dX3_mostGroups_0 ?_
  refine s_istore_n (ls' := [_, _, _, _]) E dX3_mostGroups_1 (Nat.le_of_ble_eq_true rfl) rfl ?_
  refine s_iconst E dX3_mostGroups_2 ?_
  refine s_istore_n (ls' := [_, _, _, _]) E dX3_mostGroups_3 (Nat.le_of_ble_eq_true rfl) rfl ?_
  exact lp_X3_mg M s hs hT E hret 7 0 0 (by decide) (by decide) rfl

set_option maxRecDepth 100000 in
set_option maxHeartbeats 4000000 in
theorem lp_X3_fg_in {v : Ev} {as : List Nat} (M0 : Mm) (hf : ∀ k, 0 ≤ k → k < 6 → -1000 ≤ (netF (fun x y => M0 (8 + x) y)) k ∧ (netF (fun x y => M0 (8 + x) y)) k ≤ 1000) (h0 : M0 38 0 = 0 ∧ M0 39 0 = 0) (k : Int) (hk : 0 ≤ k ∧ k < 6) (E : Cx v cX3_fewestGifts 6 yX3_fewestGifts.cls 3) (hret : ∀ (M : Mm) (x j : Int) (o5 : Option Vv), (∀ q, 0 ≤ q → q < iShl 1 (k + 1) → M 38 q = sumS (netF (fun x y => M0 (8 + x) y)) q ∧ M 39 q = GG (netF (fun x y => M0 (8 + x) y)) q) → Fr [38, 39] M0 M → Ws v as SH 0 0 84 [some (rv 37), some (rv 7), some (iv k), some (iv x), some (iv j), o5] [] M) : ∀ (N : Nat) (M : Mm) (j : Int) (o5 : Option Vv), (iShl 1 k - j).toNat < N → (0 ≤ j ∧ j ≤ iShl 1 k) → (∀ q, 0 ≤ q → q < iShl 1 k + j → M 38 q = sumS (netF (fun x y => M0 (8 + x) y)) q ∧ M 39 q = GG (netF (fun x y => M0 (8 + x) y)) q) → (Fr [38, 39] M0 M) → Ws v as SH 0 0 17 [some (rv 37), some (rv 7), some (iv k), some (iv ((netF (fun x y => M0 (8 + x) y)) k)), some (iv j), o5] [] M := by
  intro N
  induction N with
  | zero =>
    intro M j o5 hN
    exact absurd hN (Nat.not_lt_zero _)
  | succ N ih =>
    intro M j o5 hN g0 g1 g2
    have hsh := shl_rng (c := k) (by omega)
    have hsx := shl_succ (m := k) (by omega)
    have hmo := shl_mono (m := k + 1) (c := 6) (by omega)
    have h64 : iShl 1 6 = 64 := by decide
    refine s_iload E dX3_fewestGifts_17 rfl ?_
    refine s_iconst E dX3_fewestGifts_19 ?_
    refine s_iload_n E dX3_fewestGifts_20 rfl ?_
    refine s_ishl E dX3_fewestGifts_21 ?_
    refine s_icmp_ge E 84 dX3_fewestGifts_22 (by decide) (by omega) (by omega) (fun h22 => ?_) (fun h22 => ?_)
    · exact hret M _ _ _ (fun q h1 h2 => g1 q h1 (by omega)) g2
    · have hnb := nbt_small (s := j) (m := k) (by omega) (by omega)
      have hsa := so_add (s := j) (m := k) (by omega) (by omega) hnb
      have hss := sumS_so (f := (netF (fun x y => M0 (8 + x) y))) (s := j) (m := k) (by omega) (by omega) hnb
      have hgj := g1 j (by omega) (by omega)
      have hbd := sumS_bd (f := (netF (fun x y => M0 (8 + x) y))) (so j k) hf (n := 6) (by decide)
      have hbd2 : -6000 ≤ sumS (netF (fun x y => M0 (8 + x) y)) (so j k) ∧ sumS (netF (fun x y => M0 (8 + x) y)) (so j k) ≤ 6000 := hbd
      refine s_iload E dX3_fewestGifts_25 rfl ?_
      refine s_iconst E dX3_fewestGifts_27 ?_
      refine s_iload_n E dX3_fewestGifts_28 rfl ?_
      refine s_ishl E dX3_fewestGifts_29 ?_
      refine s_ior E dX3_fewestGifts_30 ?_
      rw [show iOr j (iShl 1 k) = so j k from rfl]
      refine s_istore (ls' := [_, _, _, _, _, _]) E dX3_fewestGifts_31 (Nat.le_of_ble_eq_true rfl) rfl ?_
      refine s_aload_n E dX3_fewestGifts_33 rfl ?_
      refine s_getR (kf := 0) E dX3_fewestGifts_34 rfl inb_X3 (Nat.le_of_ble_eq_true rfl) fl_X3_9 (by decide) sh37 rfl ?_
      refine s_iload E dX3_fewestGifts_37 rfl ?_
      refine s_aload_n E dX3_fewestGifts_39 rfl ?_
      refine s_getR (kf := 0) E dX3_fewestGifts_40 rfl inb_X3 (Nat.le_of_ble_eq_true rfl) fl_X3_9 (by decide) sh37 rfl ?_
      refine s_iload E dX3_fewestGifts_43 rfl ?_
      refine s_iald E dX3_fewestGifts_45 (by decide) sh38 (Nat.le_of_ble_eq_true rfl) (by omega) ?_
      rw [hgj.1]
      refine s_iload_n E dX3_fewestGifts_46 rfl ?_
      refine s_iadd E dX3_fewestGifts_47 ?_
      rw [← hss]
      refine s_iast E dX3_fewestGifts_48 (by decide) sh38 (Nat.le_of_ble_eq_true rfl) (by omega) ?_
      refine s_aload_n E dX3_fewestGifts_49 rfl ?_
      refine s_getR (kf := 1) E dX3_fewestGifts_50 rfl inb_X3 (Nat.le_of_ble_eq_true rfl) fl_X3_15 (by decide) sh37 rfl ?_
      refine s_iload E dX3_fewestGifts_53 rfl ?_
      refine s_aload_n E dX3_fewestGifts_55 rfl ?_
      refine s_iload E dX3_fewestGifts_56 rfl ?_
      refine s_callVi E (c_X3_mostGroups _ (so j k) (by omega) (fun q h1 h2 => by rw [upm_row (by decide), (g1 q h1 (by omega)).2]; exact GG_rng (by omega))) dX3_fewestGifts_58 mf_X3_mostGroups ml_X3_22 rfl (Nat.le_of_ble_eq_true rfl) (Nat.le_of_ble_eq_true rfl) (by decide) sh37 rfl rfl (fun r58 M58 h58 => ?_)
      obtain ⟨e58, f58⟩ := h58; subst r58; subst M58
      rw [upm_row (show (39 : Int) ≠ 38 by decide), mx_congr (T := M 39) (T' := GG (netF (fun x y => M0 (8 + x) y))) (fun i h1 h2 h3 => (g1 _ (mi_lt (by omega) (by omega) h3).1 (by have := mi_lt (s := so j k) (m := i) (by omega) (by omega) h3; omega)).2)]
      refine s_aload_n E dX3_fewestGifts_61 rfl ?_
      refine s_getR (kf := 0) E dX3_fewestGifts_62 rfl inb_X3 (Nat.le_of_ble_eq_true rfl) fl_X3_9 (by decide) sh37 rfl ?_
      refine s_iload E dX3_fewestGifts_65 rfl ?_
      refine s_iald E dX3_fewestGifts_67 (by decide) sh38 (Nat.le_of_ble_eq_true rfl) (by omega) ?_
      rw [upm_eq]
      refine s_if_ne E 75 dX3_fewestGifts_68 (by decide) (by omega) (fun h68 => ?_) (fun h68 => ?_)
      · refine s_iconst E dX3_fewestGifts_75 ?_
        refine s_iadd E dX3_fewestGifts_76 ?_
        refine s_iast E dX3_fewestGifts_77 (by decide) sh39 (Nat.le_of_ble_eq_true rfl) (by omega) ?_
        refine s_iinc (ls' := [_, _, _, _, _, _]) E dX3_fewestGifts_78 rfl rfl ?_
        refine s_goto E 17 dX3_fewestGifts_81 (by decide) ?_
        refine ih _ _ _ (by omega) (by omega) (fun q h1 h2 => ?_) ((g2.up (by decide)).up (by decide))
        by_cases e : q = so j k
        · rw [e, upm_ne (Or.inl (by decide)), upm_eq, upm_eq]
          refine ⟨rfl, ?_⟩
          rw [GG_eq (by omega)]
          unfold vG
          rw [b2_neg (fun w => h68 w.2)]
        · rw [upm_ne (Or.inl (by decide)), upm_ne (Or.inr e), upm_ne (Or.inr e), upm_row (by decide)]
          exact g1 q h1 (by omega)
      · refine s_iconst E dX3_fewestGifts_71 ?_
        refine s_goto E 76 dX3_fewestGifts_72 (by decide) ?_
        refine s_iadd E dX3_fewestGifts_76 ?_
        refine s_iast E dX3_fewestGifts_77 (by decide) sh39 (Nat.le_of_ble_eq_true rfl) (by omega) ?_
        refine s_iinc (ls' := [_, _, _, _, _, _]) E dX3_fewestGifts_78 rfl rfl ?_
        refine s_goto E 17 dX3_fewestGifts_81 (by decide) ?_
        refine ih _ _ _ (by omega) (by omega) (fun q h1 h2 => ?_) ((g2.up (by decide)).up (by decide))
        by_cases e : q = so j k
        · rw [e, upm_ne (Or.inl (by decide)), upm_eq, upm_eq]
          refine ⟨rfl, ?_⟩
          rw [GG_eq (by omega)]
          unfold vG
          rw [b2_pos ⟨by omega, Classical.byContradiction h68⟩]
        · rw [upm_ne (Or.inl (by decide)), upm_ne (Or.inr e), upm_ne (Or.inr e), upm_row (by decide)]
          exact g1 q h1 (by omega)

set_option maxRecDepth 100000 in
set_option maxHeartbeats 4000000 in
theorem lp_X3_fg {v : Ev} {as : List Nat} (M0 : Mm) (hf : ∀ k, 0 ≤ k → k < 6 → -1000 ≤ (netF (fun x y => M0 (8 + x) y)) k ∧ (netF (fun x y => M0 (8 + x) y)) k ≤ 1000) (h0 : M0 38 0 = 0 ∧ M0 39 0 = 0) (E : Cx v cX3_fewestGifts 6 yX3_fewestGifts.cls 3) (hret : RetI v as cX3_fewestGifts .int (fun r M' => r = 6 - GG (netF (fun x y => M0 (8 + x) y)) 63 ∧ Kp M0 M')) : ∀ (N : Nat) (M : Mm) (k : Int) (o3 o4 o5 : Option Vv), (6 - k).toNat < N → (0 ≤ k ∧ k ≤ 6) → (∀ q, 0 ≤ q → q < iShl 1 k → M 38 q = sumS (netF (fun x y => M0 (8 + x) y)) q ∧ M 39 q = GG (netF (fun x y => M0 (8 + x) y)) q) → (Fr [38, 39] M0 M) → Ws v as SH 0 0 2 [some (rv 37), some (rv 7), some (iv k), o3, o4, o5] [] M := by
  intro N
  induction N with
  | zero =>
    intro M k o3 o4 o5 hN
    exact absurd hN (Nat.not_lt_zero _)
  | succ N ih =>
    intro M k o3 o4 o5 hN g0 g1 g2
    have hsh := shl_rng (c := k) (by omega)
    have h64 : iShl 1 6 = 64 := by decide
    refine s_iload_n E dX3_fewestGifts_2 rfl ?_
    refine s_bipush E dX3_fewestGifts_3 rfl ?_
    refine s_icmp_ge E 90 dX3_fewestGifts_5 (by decide) (by omega) (by omega) (fun h5 => ?_) (fun h5 => ?_)
    · refine s_bipush E dX3_fewestGifts_90 rfl ?_
      refine s_aload_n E dX3_fewestGifts_92 rfl ?_
      refine s_getR (kf := 1) E dX3_fewestGifts_93 rfl inb_X3 (Nat.le_of_ble_eq_true rfl) fl_X3_15 (by decide) sh37 rfl ?_
      refine s_bipush E dX3_fewestGifts_96 rfl ?_
      refine s_iald E dX3_fewestGifts_98 (by decide) sh39 (Nat.le_of_ble_eq_true rfl) (by omega) ?_
      refine s_isub E dX3_fewestGifts_99 ?_
      refine hret _ _ ?_ (fun q => by cases q) _ _ dX3_fewestGifts_100
      have e : k = 6 := by omega
      rw [e, h64] at g1
      refine ⟨by rw [(g1 63 (by decide) (by decide)).2], fun a b q => ?_⟩
      by_cases e38 : a = 38
      · have eb : b = 0 := Classical.byContradiction (fun w => q (Or.inr (Or.inr ⟨Or.inl e38, w⟩)))
        rw [e38, eb, (g1 0 (by decide) (by decide)).1, h0.1, sumS_0]
      · by_cases e39 : a = 39
        · have eb : b = 0 := Classical.byContradiction (fun w => q (Or.inr (Or.inr ⟨Or.inr e39, w⟩)))
          rw [e39, eb, (g1 0 (by decide) (by decide)).2, h0.2, GG_0]
        · rw [g2 a (fun w => by simp at w; omega)]
    · refine s_aload_n E dX3_fewestGifts_8 rfl ?_
      refine s_iload_n E dX3_fewestGifts_9 rfl ?_
      refine s_callSNi E (c_X7_netOf _ _ (by omega)) dX3_fewestGifts_10 mf_X7_netOf ml_X3_18 rfl (Nat.le_of_ble_eq_true rfl) (Nat.le_of_ble_eq_true rfl) rfl (fun r10 M10 h10 => ?_)
      obtain ⟨e10, f10⟩ := h10; subst r10; subst M10
      rw [show netF (fun x y => M (8 + x) y) k = (netF (fun x y => M0 (8 + x) y)) k by
        unfold netF
        exact sumN_congr (fun j h1 h2 => by
          show M (8 + k) j - M (8 + j) k = M0 (8 + k) j - M0 (8 + j) k
          rw [g2 (8 + k) (fun w => by simp at w; omega), g2 (8 + j) (fun w => by simp at w; omega)])]
      refine s_istore_n (ls' := [_, _, _, _, _, _]) E dX3_fewestGifts_13 (Nat.le_of_ble_eq_true rfl) rfl ?_
      refine s_iconst E dX3_fewestGifts_14 ?_
      refine s_istore (ls' := [_, _, _, _, _, _]) E dX3_fewestGifts_15 (Nat.le_of_ble_eq_true rfl) rfl ?_
      refine lp_X3_fg_in M0 hf h0 k (by omega) E (fun M2 x j o5 a2 b2 => ?_) ((iShl 1 k).toNat + 1) M 0 _ (by omega) (by omega) (fun q h1 h2 => g1 q h1 (by omega)) g2
      refine s_iinc (ls' := [_, _, _, _, _, _]) E dX3_fewestGifts_84 rfl rfl ?_
      refine s_goto E 2 dX3_fewestGifts_87 (by decide) ?_
      exact ih _ _ _ _ _ (by omega) (by omega) a2 b2

set_option maxRecDepth 100000 in
set_option maxHeartbeats 4000000 in
theorem c_X3_fewestGifts (M0 : Mm) (hf : ∀ k, 0 ≤ k → k < 6 → -1000 ≤ (netF (fun x y => M0 (8 + x) y)) k ∧ (netF (fun x y => M0 (8 + x) y)) k ≤ 1000) (h0 : M0 38 0 = 0 ∧ M0 39 0 = 0) : CtI yX3_fewestGifts cX3_fewestGifts 6 .int 3 SH [rv 37, rv 7] M0 (fun r M' => r = 6 - GG (netF (fun x y => M0 (8 + x) y)) 63 ∧ Kp M0 M') := by
  refine CtI.of rfl (Nat.le_of_ble_eq_true rfl) (Or.inl rfl) (fun v as E hret => ?_)
  show Ws v as SH 0 0 0 [some (rv 37), some (rv 7), none, none, none, none] [] M0
  refine s_iconst E dX3_fewestGifts_0 ?_
  refine s_istore_n (ls' := [_, _, _, _, _, _]) E dX3_fewestGifts_1 (Nat.le_of_ble_eq_true rfl) rfl ?_
  exact lp_X3_fg M0 hf h0 E hret 7 M0 0 _ _ _ (by decide) (by decide) (fun q h1 h2 => by
    have h20 : iShl 1 0 = 1 := by decide
    have e : q = 0 := by omega
    rw [e, h0.1, h0.2, sumS_0, GG_0]
    exact ⟨rfl, rfl⟩) (Fr.rf _ M0)

set_option maxRecDepth 100000 in
set_option maxHeartbeats 4000000 in
theorem c_X7_gifts (M0 : Mm) (hf : ∀ k, 0 ≤ k → k < 6 → -1000 ≤ (netF (fun x y => M0 (8 + x) y)) k ∧ (netF (fun x y => M0 (8 + x) y)) k ≤ 1000) (h0 : M0 38 0 = 0 ∧ M0 39 0 = 0) : CtI yX7_gifts cX7_gifts 1 .int 4 SH [rv 0] M0 (fun r M' => r = 6 - GG (netF (fun x y => M0 (8 + x) y)) 63 ∧ Kp M0 M') := by
  refine CtI.of rfl (Nat.le_of_ble_eq_true rfl) (Or.inl rfl) (fun v as E hret => ?_)
  show Ws v as SH 0 0 0 [some (rv 0)] [] M0
  refine s_aload_n E dX7_gifts_0 rfl ?_
  refine s_getR (kf := 6) E dX7_gifts_1 rfl inb_X7 (Nat.le_of_ble_eq_true rfl) fl_X7_48 (by decide) sh0 rfl ?_
  refine s_aload_n E dX7_gifts_4 rfl ?_
  refine s_getR (kf := 0) E dX7_gifts_5 rfl inb_X7 (Nat.le_of_ble_eq_true rfl) fl_X7_10 (by decide) sh0 rfl ?_
  refine s_getR (kf := 1) E dX7_gifts_8 rfl inb_X2 (Nat.le_of_ble_eq_true rfl) fl_X7_173 (by decide) sh1 rfl ?_
  refine s_callVi E (c_X3_fewestGifts M0 hf h0) dX7_gifts_11 mf_X3_fewestGifts ml_X7_180 rfl (Nat.le_of_ble_eq_true rfl) (Nat.le_of_ble_eq_true rfl) (by decide) sh37 rfl rfl (fun r11 M11 h11 => ?_)
  refine hret _ _ ?_ (fun q => by cases q) _ _ dX7_gifts_14
  exact h11

theorem t_step {f : Int → Int} {t i m : Int} (ht : 0 ≤ t ∧ t < 64) (hi : 0 ≤ i ∧ i < 6) (hb : ∀ j, 0 ≤ j → j < 6 → (bt t j ↔ (j < i → f j ≠ 0))) (hg : GG f 63 = GG f t + (i - m)) (h0 : f i = 0) : ∃ t', (0 ≤ t' ∧ t' < 64) ∧ (∀ j, 0 ≤ j → j < 6 → (bt t' j ↔ (j < i + 1 → f j ≠ 0))) ∧ GG f 63 = GG f t' + (i + 1 - m) := by
  have bi : bt t i := (hb i hi.1 hi.2).mpr (fun w => by omega)
  have q := mi_lt ht hi bi
  refine ⟨mi t i, by omega, fun j h1 h2 => ?_, by rw [hg, GG_z 64 t i (by omega) ht hi bi h0]; omega⟩
  rw [bt_mi ht hi ⟨h1, h2⟩ bi, hb j h1 h2]
  exact ⟨fun w h3 => w.1 (by omega), fun w => ⟨fun h3 => w (by omega), fun e => w (by omega) (e ▸ h0)⟩⟩
theorem t_stay {f : Int → Int} {t i : Int} (hi : 0 ≤ i ∧ i < 6) (hb : ∀ j, 0 ≤ j → j < 6 → (bt t j ↔ (j < i → f j ≠ 0))) (h0 : f i ≠ 0) (j : Int) (h1 : 0 ≤ j) (h2 : j < 6) : bt t j ↔ (j < i + 1 → f j ≠ 0) := by
  rw [hb j h1 h2]
  refine ⟨fun w h3 => ?_, fun w h3 => w (by omega)⟩
  by_cases e : j = i
  · exact e ▸ h0
  · exact w (by omega)
theorem bt_63 {j : Int} (hj : 0 ≤ j ∧ j < 6) : bt 63 j := by
  have q := (bt_full (c := 6) (j := j) (by decide) (by omega)).mpr (by omega)
  rwa [show full 6 = 63 by decide] at q
set_option maxRecDepth 100000 in
set_option maxHeartbeats 4000000 in
theorem lp_X8_gi_in {v : Ev} {as : List Nat} (M0 : Mm) (hf : ∀ k, 0 ≤ k → k < 6 → -1000 ≤ (netF (fun x y => M0 83 (6 * x + y))) k ∧ (netF (fun x y => M0 83 (6 * x + y))) k ≤ 1000) (a b s : Int) (hs : 0 ≤ s ∧ s < 64) (M : Mm) (hF : Fr [90] M0 M) (hT : ∀ q, 0 ≤ q → q < s → M 90 q = GG (netF (fun x y => M0 83 (6 * x + y))) q) (E : Cx v cX8_gifts 8 yX8_gifts.cls 3) (hret : ∀ (o6 o7 : Option Vv), Ws v as SH 0 0 145 [some (rv 79), some (iv a), some (iv b), some (iv s), some (iv (sumS (netF (fun x y => M0 83 (6 * x + y))) s)), some (iv (mx (GG (netF (fun x y => M0 83 (6 * x + y)))) s 6)), o6, o7] [] M) : ∀ (N : Nat) (x p i : Int) (o7 : Option Vv), (6 - i).toNat < N → (0 ≤ i ∧ i ≤ 6) → (x = sumN (fun k => sb s k * (netF (fun x y => M0 83 (6 * x + y))) k) i.toNat) → (p = mx (GG (netF (fun x y => M0 83 (6 * x + y)))) s i.toNat) → Ws v as SH 0 0 52 [some (rv 79), some (iv a), some (iv b), some (iv s), some (iv x), some (iv p), some (iv i), o7] [] M := by
  intro N
  induction N with
  | zero =>
    intro x p i o7 hN
    exact absurd hN (Nat.not_lt_zero _)
  | succ N ih =>
    intro x p i o7 hN g0 g1 g2
    refine s_iload E dX8_gifts_52 rfl ?_
    refine s_bipush E dX8_gifts_54 rfl ?_
    refine s_icmp_ge E 145 dX8_gifts_56 (by decide) (by omega) (by omega) (fun h56 => ?_) (fun h56 => ?_)
    · have e : i = 6 := by omega
      rw [g1, g2, e]
      exact hret _ _
    · refine s_iload_n E dX8_gifts_59 rfl ?_
      refine s_iload E dX8_gifts_60 rfl ?_
      refine s_ishr E dX8_gifts_62 ?_
      refine s_iconst E dX8_gifts_63 ?_
      refine s_iand E dX8_gifts_64 ?_
      refine s_iconst E dX8_gifts_65 ?_
      refine s_icmp_ne E 73 dX8_gifts_66 (by decide) (inI_and _ _) (by decide) (fun h66 => ?_) (fun h66 => ?_)
      · refine s_iconst E dX8_gifts_73 ?_
        refine s_istore (ls' := [_, _, _, _, _, _, _, _]) E dX8_gifts_74 (Nat.le_of_ble_eq_true rfl) rfl ?_
        refine s_iload E dX8_gifts_76 rfl ?_
        refine s_iload E dX8_gifts_78 rfl ?_
        refine s_if_eq E 92 dX8_gifts_80 (by decide) (by omega) (fun h80 => ?_) (fun h80 => ?_)
        · refine s_iconst E dX8_gifts_92 ?_
          refine s_iadd E dX8_gifts_93 ?_
          refine s_istore (ls' := [_, _, _, _, _, _, _, _]) E dX8_gifts_94 (Nat.le_of_ble_eq_true rfl) rfl ?_
          refine s_iload E dX8_gifts_96 rfl ?_
          refine s_if_eq E 135 dX8_gifts_98 (by decide) (by omega) (fun h98 => ?_) (fun h98 => ?_)
          · refine s_iload E dX8_gifts_135 rfl ?_
            refine s_istore (ls' := [_, _, _, _, _, _, _, _]) E dX8_gifts_137 (Nat.le_of_ble_eq_true rfl) rfl ?_
            refine s_iinc (ls' := [_, _, _, _, _, _, _, _]) E dX8_gifts_139 rfl rfl ?_
            refine s_goto E 52 dX8_gifts_142 (by decide) ?_
            refine ih _ _ _ _ (by omega) (by omega) ?_ ?_
            · rw [sumN_step (by omega), ← g1, sbm, if_neg (show ¬ sb s i = 1 from h66)]
            · rw [mx_step (by omega), ← g2, if_neg (show ¬ sb s i = 1 from h66)]
          · exact absurd h98 (by decide)
        · exact absurd h80 (by decide)
      · refine s_iconst E dX8_gifts_69 ?_
        refine s_goto E 74 dX8_gifts_70 (by decide) ?_
        refine s_istore (ls' := [_, _, _, _, _, _, _, _]) E dX8_gifts_74 (Nat.le_of_ble_eq_true rfl) rfl ?_
        refine s_iload E dX8_gifts_76 rfl ?_
        refine s_iload E dX8_gifts_78 rfl ?_
        refine s_if_eq E 92 dX8_gifts_80 (by decide) (by omega) (fun h80 => ?_) (fun h80 => ?_)
        · exact absurd h80 (by decide)
        · refine s_aload_n E dX8_gifts_83 rfl ?_
          refine s_iload E dX8_gifts_84 rfl ?_
          refine s_callVi E (c_X8_netOf _ _ (by omega)) dX8_gifts_86 mf_X8_netOf ml_X8_139 rfl (Nat.le_of_ble_eq_true rfl) (Nat.le_of_ble_eq_true rfl) (by decide) sh79 rfl rfl (fun r86 M86 h86 => ?_)
          obtain ⟨e86, f86⟩ := h86; subst r86; subst M86
          rw [show netF (fun x y => M 83 (6 * x + y)) = (netF (fun x y => M0 83 (6 * x + y))) by rw [hF 83 (by decide)]]
          refine s_goto E 93 dX8_gifts_89 (by decide) ?_
          refine s_iadd E dX8_gifts_93 ?_
          refine s_istore (ls' := [_, _, _, _, _, _, _, _]) E dX8_gifts_94 (Nat.le_of_ble_eq_true rfl) rfl ?_
          refine s_iload E dX8_gifts_96 rfl ?_
          refine s_if_eq E 135 dX8_gifts_98 (by decide) (by omega) (fun h98 => ?_) (fun h98 => ?_)
          · exact absurd h98 (by decide)
          · have hb1 : sb s i = 1 := Classical.byContradiction h66
            have q := mi_lt hs (m := i) (by omega) hb1
            have hq := GG_rng (f := (netF (fun x y => M0 83 (6 * x + y)))) (s := mi s i) (by omega)
            have hmx := mx_nn (T := GG (netF (fun x y => M0 83 (6 * x + y)))) (s := s) i.toNat
            have hmx2 := mx_le (T := GG (netF (fun x y => M0 83 (6 * x + y)))) (s := s) (B := 63) i.toNat (by decide) (fun j h1 h2 h3 => by
              have w := mi_lt hs (m := j) (by omega) h3
              exact (GG_rng (by omega)).2)
            refine s_aload_n E dX8_gifts_101 rfl ?_
            refine s_getR (kf := 17) E dX8_gifts_102 rfl inb_X8 (Nat.le_of_ble_eq_true rfl) fl_X8_47 (by decide) sh79 rfl ?_
            refine s_iload_n E dX8_gifts_105 rfl ?_
            refine s_iconst E dX8_gifts_106 ?_
            refine s_iload E dX8_gifts_107 rfl ?_
            refine s_ishl E dX8_gifts_109 ?_
            refine s_iconst E dX8_gifts_110 ?_
            refine s_ixor E dX8_gifts_111 ?_
            refine s_iand E dX8_gifts_112 ?_
            rw [show iAnd s (iXor (iShl 1 i) (-1)) = mi s i from rfl]
            refine s_iald E dX8_gifts_113 (by decide) sh90 (Nat.le_of_ble_eq_true rfl) (by omega) ?_
            rw [hT _ q.1 q.2]
            refine s_iload E dX8_gifts_114 rfl ?_
            refine s_icmp_le E 135 dX8_gifts_116 (by decide) (by omega) (by omega) (fun h116 => ?_) (fun h116 => ?_)
            · refine s_iload E dX8_gifts_135 rfl ?_
              refine s_istore (ls' := [_, _, _, _, _, _, _, _]) E dX8_gifts_137 (Nat.le_of_ble_eq_true rfl) rfl ?_
              refine s_iinc (ls' := [_, _, _, _, _, _, _, _]) E dX8_gifts_139 rfl rfl ?_
              refine s_goto E 52 dX8_gifts_142 (by decide) ?_
              refine ih _ _ _ _ (by omega) (by omega) ?_ ?_
              · rw [sumN_step (by omega), ← g1, sbm, if_pos (show sb s i = 1 from hb1)]
              · rw [mx_step (by omega), ← g2, if_pos hb1]
                omega
            · refine s_aload_n E dX8_gifts_119 rfl ?_
              refine s_getR (kf := 17) E dX8_gifts_120 rfl inb_X8 (Nat.le_of_ble_eq_true rfl) fl_X8_47 (by decide) sh79 rfl ?_
              refine s_iload_n E dX8_gifts_123 rfl ?_
              refine s_iconst E dX8_gifts_124 ?_
              refine s_iload E dX8_gifts_125 rfl ?_
              refine s_ishl E dX8_gifts_127 ?_
              refine s_iconst E dX8_gifts_128 ?_
              refine s_ixor E dX8_gifts_129 ?_
              refine s_iand E dX8_gifts_130 ?_
              rw [show iAnd s (iXor (iShl 1 i) (-1)) = mi s i from rfl]
              refine s_iald E dX8_gifts_131 (by decide) sh90 (Nat.le_of_ble_eq_true rfl) (by omega) ?_
              rw [hT _ q.1 q.2]
              refine s_goto E 137 dX8_gifts_132 (by decide) ?_
              refine s_istore (ls' := [_, _, _, _, _, _, _, _]) E dX8_gifts_137 (Nat.le_of_ble_eq_true rfl) rfl ?_
              refine s_iinc (ls' := [_, _, _, _, _, _, _, _]) E dX8_gifts_139 rfl rfl ?_
              refine s_goto E 52 dX8_gifts_142 (by decide) ?_
              refine ih _ _ _ _ (by omega) (by omega) ?_ ?_
              · rw [sumN_step (by omega), ← g1, sbm, if_pos (show sb s i = 1 from hb1)]
              · rw [mx_step (by omega), ← g2, if_pos hb1]
                omega

set_option maxRecDepth 100000 in
set_option maxHeartbeats 4000000 in
theorem lp_X8_gi2 {v : Ev} {as : List Nat} (M0 : Mm) (hf : ∀ k, 0 ≤ k → k < 6 → -1000 ≤ (netF (fun x y => M0 83 (6 * x + y))) k ∧ (netF (fun x y => M0 83 (6 * x + y))) k ≤ 1000) (a b : Int) (hab : 0 ≤ a ∧ a < 64) (hG : GG (netF (fun x y => M0 83 (6 * x + y))) 63 = GG (netF (fun x y => M0 83 (6 * x + y))) a + (6 - b)) (E : Cx v cX8_gifts 8 yX8_gifts.cls 3) (hret : RetI v as cX8_gifts .int (fun r M' => r = 6 - GG (netF (fun x y => M0 83 (6 * x + y))) 63 ∧ KpM M0 M')) : ∀ (N : Nat) (M : Mm) (s : Int) (o4 o5 o6 o7 : Option Vv), (64 - s).toNat < N → (0 ≤ s ∧ s ≤ 64) → (∀ q, 0 ≤ q → q < s → M 90 q = GG (netF (fun x y => M0 83 (6 * x + y))) q) → (Fr [90] M0 M) → Ws v as SH 0 0 37 [some (rv 79), some (iv a), some (iv b), some (iv s), o4, o5, o6, o7] [] M := by
  intro N
  induction N with
  | zero =>
    intro M s o4 o5 o6 o7 hN
    exact absurd hN (Nat.not_lt_zero _)
  | succ N ih =>
    intro M s o4 o5 o6 o7 hN g0 g1 g2
    refine s_iload_n E dX8_gifts_37 rfl ?_
    refine s_bipush E dX8_gifts_38 rfl ?_
    refine s_icmp_ge E 175 dX8_gifts_40 (by decide) (by omega) (by omega) (fun h40 => ?_) (fun h40 => ?_)
    · refine s_iload_n E dX8_gifts_175 rfl ?_
      refine s_aload_n E dX8_gifts_176 rfl ?_
      refine s_getR (kf := 17) E dX8_gifts_177 rfl inb_X8 (Nat.le_of_ble_eq_true rfl) fl_X8_47 (by decide) sh79 rfl ?_
      refine s_iload_n E dX8_gifts_180 rfl ?_
      have e : s = 64 := by omega
      rw [e] at g1
      refine s_iald E dX8_gifts_181 (by decide) sh90 (Nat.le_of_ble_eq_true rfl) (by omega) ?_
      refine s_isub E dX8_gifts_182 ?_
      refine hret _ _ ?_ (fun q => by cases q) _ _ dX8_gifts_183
      have e : s = 64 := by omega
      refine ⟨?_, g2.kpM (by decide)⟩
      rw [g1 a hab.1 (by omega), hG]
      omega
    · refine s_iconst E dX8_gifts_43 ?_
      refine s_istore (ls' := [_, _, _, _, _, _, _, _]) E dX8_gifts_44 (Nat.le_of_ble_eq_true rfl) rfl ?_
      refine s_iconst E dX8_gifts_46 ?_
      refine s_istore (ls' := [_, _, _, _, _, _, _, _]) E dX8_gifts_47 (Nat.le_of_ble_eq_true rfl) rfl ?_
      refine s_iconst E dX8_gifts_49 ?_
      refine s_istore (ls' := [_, _, _, _, _, _, _, _]) E dX8_gifts_50 (Nat.le_of_ble_eq_true rfl) rfl ?_
      refine lp_X8_gi_in M0 hf a b s (by omega) M g2 g1 E (fun o6 o7 => ?_) 7 0 0 0 _ (by decide) (by decide) rfl rfl
      have hbd : -6000 ≤ sumS (netF (fun x y => M0 83 (6 * x + y))) s ∧ sumS (netF (fun x y => M0 83 (6 * x + y))) s ≤ 6000 := sumS_bd s hf (n := 6) (by decide)
      have hGe := GG_eq (f := (netF (fun x y => M0 83 (6 * x + y)))) (s := s) (by omega)
      unfold vG at hGe
      refine s_aload_n E dX8_gifts_145 rfl ?_
      refine s_getR (kf := 17) E dX8_gifts_146 rfl inb_X8 (Nat.le_of_ble_eq_true rfl) fl_X8_47 (by decide) sh79 rfl ?_
      refine s_iload_n E dX8_gifts_149 rfl ?_
      refine s_iload_n E dX8_gifts_150 rfl ?_
      refine s_if_le E 166 dX8_gifts_151 (by decide) (by omega) (fun h151 => ?_) (fun h151 => ?_)
      · refine s_iload E dX8_gifts_166 rfl ?_
        refine s_iast E dX8_gifts_168 (by decide) sh90 (Nat.le_of_ble_eq_true rfl) (by omega) ?_
        refine s_iinc (ls' := [_, _, _, _, _, _, _, _]) E dX8_gifts_169 rfl rfl ?_
        refine s_goto E 37 dX8_gifts_172 (by decide) ?_
        refine ih _ _ _ _ _ _ (by omega) (by omega) (fun q h1 h2 => ?_) (g2.up (by decide))
        by_cases e : q = s
        · rw [e, upm_eq, hGe, b2_neg (fun w => by omega)]
          omega
        · rw [upm_ne (Or.inr e)]
          exact g1 q h1 (by omega)
      · refine s_iload E dX8_gifts_154 rfl ?_
        refine s_if_ne E 166 dX8_gifts_156 (by decide) (by omega) (fun h156 => ?_) (fun h156 => ?_)
        · refine s_iload E dX8_gifts_166 rfl ?_
          refine s_iast E dX8_gifts_168 (by decide) sh90 (Nat.le_of_ble_eq_true rfl) (by omega) ?_
          refine s_iinc (ls' := [_, _, _, _, _, _, _, _]) E dX8_gifts_169 rfl rfl ?_
          refine s_goto E 37 dX8_gifts_172 (by decide) ?_
          refine ih _ _ _ _ _ _ (by omega) (by omega) (fun q h1 h2 => ?_) (g2.up (by decide))
          by_cases e : q = s
          · rw [e, upm_eq, hGe, b2_neg (fun w => by omega)]
            omega
          · rw [upm_ne (Or.inr e)]
            exact g1 q h1 (by omega)
        · refine s_iload E dX8_gifts_159 rfl ?_
          refine s_iconst E dX8_gifts_161 ?_
          refine s_iadd E dX8_gifts_162 ?_
          refine s_goto E 168 dX8_gifts_163 (by decide) ?_
          refine s_iast E dX8_gifts_168 (by decide) sh90 (Nat.le_of_ble_eq_true rfl) (by omega) ?_
          refine s_iinc (ls' := [_, _, _, _, _, _, _, _]) E dX8_gifts_169 rfl rfl ?_
          refine s_goto E 37 dX8_gifts_172 (by decide) ?_
          refine ih _ _ _ _ _ _ (by omega) (by omega) (fun q h1 h2 => ?_) (g2.up (by decide))
          by_cases e : q = s
          · rw [e, upm_eq, hGe, b2_pos ⟨by omega, by omega⟩]
          · rw [upm_ne (Or.inr e)]
            exact g1 q h1 (by omega)

set_option maxRecDepth 100000 in
set_option maxHeartbeats 4000000 in
theorem lp_X8_gi1 {v : Ev} {as : List Nat} (M0 : Mm) (hf : ∀ k, 0 ≤ k → k < 6 → -1000 ≤ (netF (fun x y => M0 83 (6 * x + y))) k ∧ (netF (fun x y => M0 83 (6 * x + y))) k ≤ 1000) (E : Cx v cX8_gifts 8 yX8_gifts.cls 3) (hret : RetI v as cX8_gifts .int (fun r M' => r = 6 - GG (netF (fun x y => M0 83 (6 * x + y))) 63 ∧ KpM M0 M')) : ∀ (N : Nat) (a b i t : Int), (6 - i).toNat < N → (0 ≤ i ∧ i ≤ 6) → (0 ≤ a ∧ a < 64) → (∀ j, 0 ≤ j → j < 6 → (bt a j ↔ j < i ∧ (netF (fun x y => M0 83 (6 * x + y))) j ≠ 0)) → (0 ≤ t ∧ t < 64) → (∀ j, 0 ≤ j → j < 6 → (bt t j ↔ (j < i → (netF (fun x y => M0 83 (6 * x + y))) j ≠ 0))) → (GG (netF (fun x y => M0 83 (6 * x + y))) 63 = GG (netF (fun x y => M0 83 (6 * x + y))) t + (i - b)) → Ws v as SH 0 0 6 [some (rv 79), some (iv a), some (iv b), some (iv i), none, none, none, none] [] M0 := by
  intro N
  induction N with
  | zero =>
    intro a b i t hN
    exact absurd hN (Nat.not_lt_zero _)
  | succ N ih =>
    intro a b i t hN g0 g1 g2 g3 g4 g5
    refine s_iload_n E dX8_gifts_6 rfl ?_
    refine s_bipush E dX8_gifts_7 rfl ?_
    refine s_icmp_ge E 35 dX8_gifts_9 (by decide) (by omega) (by omega) (fun h9 => ?_) (fun h9 => ?_)
    · refine s_iconst E dX8_gifts_35 ?_
      refine s_istore_n (ls' := [_, _, _, _, _, _, _, _]) E dX8_gifts_36 (Nat.le_of_ble_eq_true rfl) rfl ?_
      have e : i = 6 := by omega
      have eq : a = t := set_ext g1 g3 (fun j h1 h2 => by
        rw [g2 j h1 h2, g4 j h1 h2]
        exact ⟨fun w _ => w.2, fun w => ⟨by omega, w (by omega)⟩⟩)
      subst eq
      exact lp_X8_gi2 M0 hf a b g1 (by rw [g5, e]) E hret 65 M0 0 _ _ _ _ (by decide) (by decide) (fun q h1 h2 => by omega) (Fr.rf _ M0)
    · refine s_aload_n E dX8_gifts_12 rfl ?_
      refine s_iload_n E dX8_gifts_13 rfl ?_
      refine s_callVi E (c_X8_netOf _ _ (by omega)) dX8_gifts_14 mf_X8_netOf ml_X8_139 rfl (Nat.le_of_ble_eq_true rfl) (Nat.le_of_ble_eq_true rfl) (by decide) sh79 rfl rfl (fun r14 M14 h14 => ?_)
      obtain ⟨e14, f14⟩ := h14; subst r14; subst M14
      have hfi := hf i (by omega) (by omega)
      refine s_if_eq E 29 dX8_gifts_17 (by decide) (by omega) (fun h17 => ?_) (fun h17 => ?_)
      · refine s_iinc (ls' := [_, _, _, _, _, _, _, _]) E dX8_gifts_29 rfl rfl ?_
        refine s_goto E 6 dX8_gifts_32 (by decide) ?_
        obtain ⟨t2, w1, w2, w3⟩ := t_step g3 (i := i) (by omega) g4 g5 (Classical.byContradiction (fun w => by omega))
        refine ih _ _ _ t2 (by omega) (by omega) g1 (fun j h1 h2 => ?_) w1 w2 w3
        rw [g2 j h1 h2]
        refine ⟨fun w => ⟨by omega, w.2⟩, fun w => ⟨?_, w.2⟩⟩
        by_cases e : j = i
        · exact absurd (e ▸ h17) w.2
        · omega
      · refine s_iload_n E dX8_gifts_20 rfl ?_
        refine s_iconst E dX8_gifts_21 ?_
        refine s_iload_n E dX8_gifts_22 rfl ?_
        refine s_ishl E dX8_gifts_23 ?_
        refine s_ior E dX8_gifts_24 ?_
        refine s_istore_n (ls' := [_, _, _, _, _, _, _, _]) E dX8_gifts_25 (Nat.le_of_ble_eq_true rfl) rfl ?_
        refine s_iinc (ls' := [_, _, _, _, _, _, _, _]) E dX8_gifts_26 rfl rfl ?_
        refine s_iinc (ls' := [_, _, _, _, _, _, _, _]) E dX8_gifts_29 rfl rfl ?_
        refine s_goto E 6 dX8_gifts_32 (by decide) ?_
        have hnb : ¬ bt a i := fun w => by have := (g2 i (by omega) (by omega)).mp w; omega
        have h63 : full 6 = 63 := by decide
        have hso := so_le (c := 6) (s := a) (m := i) (by decide) (by omega) (by omega)
        refine ih (so a i) _ _ t (by omega) (by omega) (by omega) (fun j h1 h2 => ?_) g3 (t_stay (i := i) (by omega) g4 h17) (by omega)
        rw [bt_so (by omega) (by omega) (by omega), g2 j h1 h2]
        constructor
        · rintro (w | w)
          · exact ⟨by omega, w.2⟩
          · exact ⟨by omega, w ▸ h17⟩
        · intro w
          by_cases e : j = i
          · exact Or.inr e
          · exact Or.inl ⟨by omega, w.2⟩

set_option maxRecDepth 100000 in
set_option maxHeartbeats 4000000 in
theorem c_X8_gifts (M0 : Mm) (hf : ∀ k, 0 ≤ k → k < 6 → -1000 ≤ (netF (fun x y => M0 83 (6 * x + y))) k ∧ (netF (fun x y => M0 83 (6 * x + y))) k ≤ 1000) : CtI yX8_gifts cX8_gifts 8 .int 3 SH [rv 79] M0 (fun r M' => r = 6 - GG (netF (fun x y => M0 83 (6 * x + y))) 63 ∧ KpM M0 M') := by
  refine CtI.of rfl (Nat.le_of_ble_eq_true rfl) (Or.inl rfl) (fun v as E hret => ?_)
  show Ws v as SH 0 0 0 [some (rv 79), none, none, none, none, none, none, none] [] M0
  refine s_iconst E dX8_gifts_0 ?_
  refine s_istore_n (ls' := [_, _, _, _, _, _, _, _]) E dX8_gifts_1 (Nat.le_of_ble_eq_true rfl) rfl ?_
  refine s_iconst E dX8_gifts_2 ?_
  refine s_istore_n (ls' := [_, _, _, _, _, _, _, _]) E dX8_gifts_3 (Nat.le_of_ble_eq_true rfl) rfl ?_
  refine s_iconst E dX8_gifts_4 ?_
  refine s_istore_n (ls' := [_, _, _, _, _, _, _, _]) E dX8_gifts_5 (Nat.le_of_ble_eq_true rfl) rfl ?_
  exact lp_X8_gi1 M0 hf E hret 7 0 0 0 63 (by decide) (by decide) (by decide) (fun j h1 h2 => ⟨fun w => absurd w (nbt_0 (by omega)), fun w => by omega⟩) (by decide) (fun j h1 h2 => ⟨fun _ w => by omega, fun _ => bt_63 ⟨h1, h2⟩⟩) (by omega)
