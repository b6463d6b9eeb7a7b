/-! ===== nets, the floor, friends ===== -/
def sumN (g : Int → Int) : Nat → Int
  | 0 => 0
  | n + 1 => sumN g n + g n
theorem sumN_step {g : Int → Int} {k : Int} (h : 0 ≤ k) : sumN g (k + 1).toNat = sumN g k.toNat + g k := by
  rw [show (k + 1).toNat = k.toNat + 1 by omega]
  show sumN g k.toNat + g ((k.toNat : Nat) : Int) = _
  rw [Int.toNat_of_nonneg h]
theorem sumN_congr {g g' : Int → Int} : ∀ {n : Nat}, (∀ j : Int, 0 ≤ j → j < n → g j = g' j) → sumN g n = sumN g' n
  | 0, _ => rfl
  | n + 1, h => by
    show sumN g n + g n = sumN g' n + g' n
    rw [sumN_congr (fun j h1 h2 => h j h1 (by omega)), h n (by omega) (by omega)]
theorem sumN_rng {g : Int → Int} {a b : Int} : ∀ {n : Nat}, (∀ j : Int, 0 ≤ j → j < n → a ≤ g j ∧ g j ≤ b) → a * n ≤ sumN g n ∧ sumN g n ≤ b * n
  | 0, _ => by simp [sumN]
  | n + 1, h => by
    have h1 := sumN_rng (n := n) (fun j h1 h2 => h j h1 (by omega))
    have h2 := h n (by omega) (by omega)
    show a * ((n + 1 : Nat) : Int) ≤ sumN g n + g n ∧ sumN g n + g n ≤ b * ((n + 1 : Nat) : Int)
    have e1 : a * ((n + 1 : Nat) : Int) = a * n + a := by rw [Int.natCast_add, Int.mul_add]; simp
    have e2 : b * ((n + 1 : Nat) : Int) = b * n + b := by rw [Int.natCast_add, Int.mul_add]; simp
    omega
def netF (f : Int → Int → Int) (k : Int) : Int := sumN (fun j => f k j - f j k) 6
def sb (s i : Int) : Int := iAnd (iShr s i) 1
theorem sb_01 (s i : Int) : sb s i = 0 ∨ sb s i = 1 := iAnd1 _
theorem sb_bt {s i : Int} : sb s i = 1 ↔ bt s i := Iff.rfl
theorem sb_nbt {s i : Int} : sb s i = 0 ↔ ¬ bt s i := ⟨fun h q => by have : sb s i = 1 := q; omega, fun h => nbt0 h⟩
def popc (s : Int) : Int := sumN (fun k => sb s k) 6
def sumS (sv : Int → Int) (s : Int) : Int := sumN (fun k => sb s k * sv k) 6
def flr (sv : Int → Int) (s : Int) : Int := if popc s > 1 ∧ sumS sv s > 0 then 1000000 else sumS sv s
theorem popc_rng (s : Int) : 0 ≤ popc s ∧ popc s ≤ 6 := by
  have := sumN_rng (g := fun k => sb s k) (a := 0) (b := 1) (n := 6) (fun j _ _ => by have := sb_01 s j; omega)
  unfold popc
  omega
theorem sbm (s k x : Int) : sb s k * x = if sb s k = 1 then x else 0 := by
  rcases sb_01 s k with h | h <;> rw [h] <;> simp
theorem sumS_rng {sv : Int → Int} (s : Int) (h : ∀ k, 0 ≤ k → k < 6 → 0 ≤ sv k ∧ sv k ≤ 999) {k : Int} (hk : 0 ≤ k ∧ k ≤ 6) : 0 ≤ sumN (fun k => sb s k * sv k) k.toNat ∧ sumN (fun k => sb s k * sv k) k.toNat ≤ 5994 := by
  have := sumN_rng (g := fun k => sb s k * sv k) (a := 0) (b := 999) (n := k.toNat) (fun j h1 h2 => by
    have h3 := h j h1 (by omega)
    show 0 ≤ sb s j * sv j ∧ sb s j * sv j ≤ 999
    rw [sbm]
    split <;> omega)
  omega
theorem sumN_sum0 {g sv : Int → Int} : ∀ {n : Nat}, (∀ j : Int, 0 ≤ j → j < n → g j = 0 ∨ g j = 1) → sumN g n = 0 → sumN (fun k => g k * sv k) n = 0
  | 0, _, _ => rfl
  | n + 1, h, hs => by
    have hr := sumN_rng (g := g) (a := 0) (b := 1) (n := n) (fun j h1 h2 => by have := h j h1 (by omega); omega)
    have h2 := h n (by omega) (by omega)
    have hs' : sumN g n + g n = 0 := hs
    show sumN (fun k => g k * sv k) n + g n * sv n = 0
    rw [sumN_sum0 (fun j h1 h2 => h j h1 (by omega)) (by omega), show g n = 0 by omega]
    simp
theorem flr_eq {sv : Int → Int} {s : Int} (h : ∀ k, 0 ≤ k → k < 6 → 0 ≤ sv k ∧ sv k ≤ 999) : flr sv s = if sumS sv s = 0 ∨ popc s = 1 then sumS sv s else 1000000 := by
  have h0 : popc s = 0 → sumS sv s = 0 := fun q => sumN_sum0 (g := fun k => sb s k) (fun j _ _ => sb_01 s j) q
  have hr := sumS_rng s h (k := 6) (by omega)
  have hp := popc_rng s
  have hr2 : 0 ≤ sumS sv s ∧ sumS sv s ≤ 5994 := hr
  unfold flr
  split <;> split <;> omega
/-- the friends' search -/
def frl (fl : Int → Int) (w z : Int) : Nat → Int → Int → Int
  | 0, _, b => b
  | n + 1, s, b => frl fl w z n (s + 1) (if sb s w = 1 ∧ (b < 0 ∨ popc s < popc b) ∧ fl s ≥ z then s else b)
theorem frl_end {fl : Int → Int} {w z s b : Int} (h : 64 ≤ s) : frl fl w z (64 - s).toNat s b = b := by
  rw [show (64 - s).toNat = 0 by omega]
  rfl
theorem frl_go {fl : Int → Int} {w z s b c : Int} (h : s < 64) (e : (if sb s w = 1 ∧ (b < 0 ∨ popc s < popc b) ∧ fl s ≥ z then s else b) = c) : frl fl w z (64 - s).toNat s b = frl fl w z (64 - (s + 1)).toNat (s + 1) c := by
  rw [show (64 - s).toNat = (64 - (s + 1)).toNat + 1 by omega, ← e]
  rfl
theorem frl_congr {fl fl' : Int → Int} {w z : Int} (h : ∀ s, 0 ≤ s → s < 64 → fl s = fl' s) : ∀ (n : Nat) (s b : Int), 0 ≤ s → s + n ≤ 64 → frl fl w z n s b = frl fl' w z n s b
  | 0, _, _, _, _ => rfl
  | n + 1, s, b, h0, h1 => by
    show frl fl w z n (s + 1) (if sb s w = 1 ∧ (b < 0 ∨ popc s < popc b) ∧ fl s ≥ z then s else b) = frl fl' w z n (s + 1) (if sb s w = 1 ∧ (b < 0 ∨ popc s < popc b) ∧ fl' s ≥ z then s else b)
    rw [h s h0 (by omega)]
    exact frl_congr h n (s + 1) _ (by omega) (by omega)

set_option maxRecDepth 100000 in
set_option maxHeartbeats 4000000 in
theorem lp_X7_net {v : Ev} {as : List Nat} (M : Mm) (a : Int) (ha : 0 ≤ a ∧ a < 6) (E : Cx v cX7_netOf 4 yX7_netOf.cls 1) (hret : RetI v as cX7_netOf .int (fun r M' => r = netF (fun x y => M (8 + x) y) a ∧ M' = M)) : ∀ (N : Nat) (t k : Int), (6 - k).toNat < N → (0 ≤ k ∧ k ≤ 6) → (t = sumN (fun j => M (8 + a) j - M (8 + j) a) k.toNat) → Ws v as SH 0 0 4 [some (rv 7), some (iv a), some (iv t), some (iv k)] [] M := by
  intro N
  induction N with
  | zero =>
    intro t k hN
    exact absurd hN (Nat.not_lt_zero _)
  | succ N ih =>
    intro t k hN g0 g1
    refine s_iload_n E dX7_netOf_4 rfl ?_
    refine s_bipush E dX7_netOf_5 rfl ?_
    refine s_icmp_ge E 30 dX7_netOf_7 (by decide) (by omega) (by omega) (fun h7 => ?_) (fun h7 => ?_)
    · refine s_iload_n E dX7_netOf_30 rfl ?_
      refine hret _ _ ?_ (fun q => by cases q) _ _ dX7_netOf_31
      exact ⟨by rw [g1, show k = 6 by omega]; rfl, rfl⟩
    · refine s_iload_n E dX7_netOf_10 rfl ?_
      refine s_aload_n E dX7_netOf_11 rfl ?_
      refine s_iload_n E dX7_netOf_12 rfl ?_
      refine s_aaldR (r0 := 8) (n := 6) E dX7_netOf_13 (by decide) sh7 (Nat.le_of_ble_eq_true rfl) (by omega) ?_
      refine s_iload_n E dX7_netOf_14 rfl ?_
      refine s_iald E dX7_netOf_15 (by omega) (shr7 (by omega)) (Nat.le_of_ble_eq_true rfl) (by omega) ?_
      refine s_aload_n E dX7_netOf_16 rfl ?_
      refine s_iload_n E dX7_netOf_17 rfl ?_
      refine s_aaldR (r0 := 8) (n := 6) E dX7_netOf_18 (by decide) sh7 (Nat.le_of_ble_eq_true rfl) (by omega) ?_
      refine s_iload_n E dX7_netOf_19 rfl ?_
      refine s_iald E dX7_netOf_20 (by omega) (shr7 (by omega)) (Nat.le_of_ble_eq_true rfl) (by omega) ?_
      refine s_isub E dX7_netOf_21 ?_
      refine s_iadd E dX7_netOf_22 ?_
      refine s_istore_n (ls' := [_, _, _, _]) E dX7_netOf_23 (Nat.le_of_ble_eq_true rfl) rfl ?_
      refine s_iinc (ls' := [_, _, _, _]) E dX7_netOf_24 rfl rfl ?_
      refine s_goto E 4 dX7_netOf_27 (by decide) ?_
      exact ih _ _ (by omega) (by omega) (by rw [sumN_step (by omega), ← g1])

set_option maxRecDepth 100000 in
set_option maxHeartbeats 4000000 in
theorem c_X7_netOf (M : Mm) (a : Int) (ha : 0 ≤ a ∧ a < 6) : CtI yX7_netOf cX7_netOf 4 .int 1 SH [rv 7, iv a] M (fun r M' => r = netF (fun x y => M (8 + x) y) a ∧ M' = M) := by
  refine CtI.of rfl (Nat.le_of_ble_eq_true rfl) (Or.inl rfl) (fun v as E hret => ?_)
  show Ws v as SH 0 0 0 [some (rv 7), some (iv a), none, none] [] M
  refine s_iconst E dX7_netOf_0 ?_
  refine s_istore_n (ls' := [_, _, _, _]) E dX7_netOf_1 (Nat.le_of_ble_eq_true rfl) rfl ?_
  refine s_iconst E dX7_netOf_2 ?_
  refine s_istore_n (ls' := [_, _, _, _]) E dX7_netOf_3 (Nat.le_of_ble_eq_true rfl) rfl ?_
  exact lp_X7_net M a ha E hret 7 0 0 (by decide) (by decide) rfl

set_option maxRecDepth 100000 in
set_option maxHeartbeats 4000000 in
theorem lp_X8_net {v : Ev} {as : List Nat} (M : Mm) (a : Int) (ha : 0 ≤ a ∧ a < 6) (E : Cx v cX8_netOf 4 yX8_netOf.cls 1) (hret : RetI v as cX8_netOf .int (fun r M' => r = netF (fun x y => M 83 (6 * x + y)) a ∧ M' = M)) : ∀ (N : Nat) (t k : Int), (6 - k).toNat < N → (0 ≤ k ∧ k ≤ 6) → (t = sumN (fun j => M 83 (6 * a + j) - M 83 (6 * j + a)) k.toNat) → Ws v as SH 0 0 4 [some (rv 79), some (iv a), some (iv t), some (iv k)] [] M := by
  intro N
  induction N with
  | zero =>
    intro t k hN
    exact absurd hN (Nat.not_lt_zero _)
  | succ N ih =>
    intro t k hN g0 g1
    refine s_iload_n E dX8_netOf_4 rfl ?_
    refine s_bipush E dX8_netOf_5 rfl ?_
    refine s_icmp_ge E 42 dX8_netOf_7 (by decide) (by omega) (by omega) (fun h7 => ?_) (fun h7 => ?_)
    · refine s_iload_n E dX8_netOf_42 rfl ?_
      refine hret _ _ ?_ (fun q => by cases q) _ _ dX8_netOf_43
      exact ⟨by rw [g1, show k = 6 by omega]; rfl, rfl⟩
    · refine s_iload_n E dX8_netOf_10 rfl ?_
      refine s_aload_n E dX8_netOf_11 rfl ?_
      refine s_getR (kf := 7) E dX8_netOf_12 rfl inb_X8 (Nat.le_of_ble_eq_true rfl) fl_X8_26 (by decide) sh79 rfl ?_
      refine s_bipush E dX8_netOf_15 rfl ?_
      refine s_iload_n E dX8_netOf_17 rfl ?_
      refine s_imul E dX8_netOf_18 ?_
      refine s_iload_n E dX8_netOf_19 rfl ?_
      refine s_iadd E dX8_netOf_20 ?_
      refine s_iald E dX8_netOf_21 (by decide) sh83 (Nat.le_of_ble_eq_true rfl) (by omega) ?_
      refine s_aload_n E dX8_netOf_22 rfl ?_
      refine s_getR (kf := 7) E dX8_netOf_23 rfl inb_X8 (Nat.le_of_ble_eq_true rfl) fl_X8_26 (by decide) sh79 rfl ?_
      refine s_bipush E dX8_netOf_26 rfl ?_
      refine s_iload_n E dX8_netOf_28 rfl ?_
      refine s_imul E dX8_netOf_29 ?_
      refine s_iload_n E dX8_netOf_30 rfl ?_
      refine s_iadd E dX8_netOf_31 ?_
      refine s_iald E dX8_netOf_32 (by decide) sh83 (Nat.le_of_ble_eq_true rfl) (by omega) ?_
      refine s_isub E dX8_netOf_33 ?_
      refine s_iadd E dX8_netOf_34 ?_
      refine s_istore_n (ls' := [_, _, _, _]) E dX8_netOf_35 (Nat.le_of_ble_eq_true rfl) rfl ?_
      refine s_iinc (ls' := [_, _, _, _]) E dX8_netOf_36 rfl rfl ?_
      refine s_goto E 4 dX8_netOf_39 (by decide) ?_
      exact ih _ _ (by omega) (by omega) (by rw [sumN_step (by omega), ← g1])

set_option maxRecDepth 100000 in
set_option maxHeartbeats 4000000 in
theorem c_X8_netOf (M : Mm) (a : Int) (ha : 0 ≤ a ∧ a < 6) : CtI yX8_netOf cX8_netOf 4 .int 1 SH [rv 79, iv a] M (fun r M' => r = netF (fun x y => M 83 (6 * x + y)) a ∧ M' = M) := by
  refine CtI.of rfl (Nat.le_of_ble_eq_true rfl) (Or.inl rfl) (fun v as E hret => ?_)
  show Ws v as SH 0 0 0 [some (rv 79), some (iv a), none, none] [] M
  refine s_iconst E dX8_netOf_0 ?_
  refine s_istore_n (ls' := [_, _, _, _]) E dX8_netOf_1 (Nat.le_of_ble_eq_true rfl) rfl ?_
  refine s_iconst E dX8_netOf_2 ?_
  refine s_istore_n (ls' := [_, _, _, _]) E dX8_netOf_3 (Nat.le_of_ble_eq_true rfl) rfl ?_
  exact lp_X8_net M a ha E hret 7 0 0 (by decide) (by decide) rfl

set_option maxRecDepth 100000 in
set_option maxHeartbeats 4000000 in
theorem c_X7_net (M : Mm) (a : Int) (ha : inI a) : CtI yX7_net cX7_net 2 .int 2 SH [rv 0, iv a] M (fun r M' => r = (if 0 ≤ a ∧ a < 6 then netF (fun x y => M (8 + x) y) a + 1000 else -1) ∧ M' = M) := by
  refine CtI.of rfl (Nat.le_of_ble_eq_true rfl) (Or.inl rfl) (fun v as E hret => ?_)
  show Ws v as SH 0 0 0 [some (rv 0), some (iv a)] [] M
  refine s_iload_n E dX7_net_0 rfl ?_
  refine s_callSi E (c_X7_isOne _ _ (by omega)) dX7_net_1 mf_X7_isOne ml_X7_59 rfl (Nat.le_of_ble_eq_true rfl) (Nat.le_of_ble_eq_true rfl) rfl (fun r1 M1 h1 => ?_)
  obtain ⟨e1, f1⟩ := h1; subst r1; subst M1
  refine s_ifeqB E 25 dX7_net_4 (by decide) (fun h4 => ?_) (fun h4 => ?_)
  · refine s_iconst E dX7_net_25 ?_
    refine hret _ _ ?_ (fun q => by cases q) _ _ dX7_net_26
    exact ⟨by (repeat' split) <;> first | rfl | omega, rfl⟩
  · refine s_aload_n E dX7_net_7 rfl ?_
    refine s_getR (kf := 0) E dX7_net_8 rfl inb_X7 (Nat.le_of_ble_eq_true rfl) fl_X7_10 (by decide) sh0 rfl ?_
    refine s_getR (kf := 1) E dX7_net_11 rfl inb_X2 (Nat.le_of_ble_eq_true rfl) fl_X7_173 (by decide) sh1 rfl ?_
    refine s_iload_n E dX7_net_14 rfl ?_
    refine s_callSi E (c_X7_netOf _ _ (by omega)) dX7_net_15 mf_X7_netOf ml_X7_176 rfl (Nat.le_of_ble_eq_true rfl) (Nat.le_of_ble_eq_true rfl) rfl (fun r15 M15 h15 => ?_)
    obtain ⟨e15, f15⟩ := h15; subst r15; subst M15
    refine s_sipush E dX7_net_18 rfl ?_
    refine s_iadd E dX7_net_21 ?_
    refine s_goto E 26 dX7_net_22 (by decide) ?_
    refine hret _ _ ?_ (fun q => by cases q) _ _ dX7_net_26
    exact ⟨by (repeat' split) <;> first | rfl | omega, rfl⟩

set_option maxRecDepth 100000 in
set_option maxHeartbeats 4000000 in
theorem c_X8_net (M : Mm) (a : Int) (ha : inI a) : CtI yX8_net cX8_net 2 .int 3 SH [rv 79, iv a] M (fun r M' => r = (if 0 ≤ a ∧ a < 6 then netF (fun x y => M 83 (6 * x + y)) a + 1000 else -1) ∧ M' = M) := by
  refine CtI.of rfl (Nat.le_of_ble_eq_true rfl) (Or.inl rfl) (fun v as E hret => ?_)
  show Ws v as SH 0 0 0 [some (rv 79), some (iv a)] [] M
  refine s_iload_n E dX8_net_0 rfl ?_
  refine s_callSi E (c_X8_isOne _ _ (by omega)) dX8_net_1 mf_X8_isOne ml_X8_67 rfl (Nat.le_of_ble_eq_true rfl) (Nat.le_of_ble_eq_true rfl) rfl (fun r1 M1 h1 => ?_)
  obtain ⟨e1, f1⟩ := h1; subst r1; subst M1
  refine s_ifeqB E 19 dX8_net_4 (by decide) (fun h4 => ?_) (fun h4 => ?_)
  · refine s_iconst E dX8_net_19 ?_
    refine hret _ _ ?_ (fun q => by cases q) _ _ dX8_net_20
    exact ⟨by (repeat' split) <;> first | rfl | omega, rfl⟩
  · refine s_aload_n E dX8_net_7 rfl ?_
    refine s_iload_n E dX8_net_8 rfl ?_
    refine s_callVi E (c_X8_netOf _ _ (by omega)) dX8_net_9 mf_X8_netOf ml_X8_139 rfl (Nat.le_of_ble_eq_true rfl) (Nat.le_of_ble_eq_true rfl) (by decide) sh79 rfl rfl (fun r9 M9 h9 => ?_)
    obtain ⟨e9, f9⟩ := h9; subst r9; subst M9
    refine s_sipush E dX8_net_12 rfl ?_
    refine s_iadd E dX8_net_15 ?_
    refine s_goto E 20 dX8_net_16 (by decide) ?_
    refine hret _ _ ?_ (fun q => by cases q) _ _ dX8_net_20
    exact ⟨by (repeat' split) <;> first | rfl | omega, rfl⟩

set_option maxRecDepth 100000 in
set_option maxHeartbeats 4000000 in
theorem lp_X8_bits {v : Ev} {as : List Nat} (M : Mm) (s : Int) (E : Cx v cX8_bits 3 yX8_bits.cls 1) (hret : RetI v as cX8_bits .int (fun r M' => r = popc s ∧ M' = M)) : ∀ (N : Nat) (t k : Int), (6 - k).toNat < N → (0 ≤ k ∧ k ≤ 6) → (t = sumN (fun k => sb s k) k.toNat) → Ws v as SH 0 0 4 [some (iv s), some (iv t), some (iv k)] [] M := by
  intro N
  induction N with
  | zero =>
    intro t k hN
    exact absurd hN (Nat.not_lt_zero _)
  | succ N ih =>
    intro t k hN g0 g1
    refine s_iload_n E dX8_bits_4 rfl ?_
    refine s_bipush E dX8_bits_5 rfl ?_
    refine s_icmp_ge E 24 dX8_bits_7 (by decide) (by omega) (by omega) (fun h7 => ?_) (fun h7 => ?_)
    · refine s_iload_n E dX8_bits_24 rfl ?_
      refine hret _ _ ?_ (fun q => by cases q) _ _ dX8_bits_25
      exact ⟨by rw [g1, show k = 6 by omega]; rfl, rfl⟩
    · refine s_iload_n E dX8_bits_10 rfl ?_
      refine s_iload_n E dX8_bits_11 rfl ?_
      refine s_iload_n E dX8_bits_12 rfl ?_
      refine s_ishr E dX8_bits_13 ?_
      refine s_iconst E dX8_bits_14 ?_
      refine s_iand E dX8_bits_15 ?_
      refine s_iadd E dX8_bits_16 ?_
      refine s_istore_n (ls' := [_, _, _]) E dX8_bits_17 (Nat.le_of_ble_eq_true rfl) rfl ?_
      refine s_iinc (ls' := [_, _, _]) E dX8_bits_18 rfl rfl ?_
      refine s_goto E 4 dX8_bits_21 (by decide) ?_
      exact ih _ _ (by omega) (by omega) (by rw [sumN_step (by omega), ← g1]; rfl)

set_option maxRecDepth 100000 in
set_option maxHeartbeats 4000000 in
theorem c_X8_bits (M : Mm) (s : Int) : CtI yX8_bits cX8_bits 3 .int 1 SH [iv s] M (fun r M' => r = popc s ∧ M' = M) := by
  refine CtI.of rfl (Nat.le_of_ble_eq_true rfl) (Or.inl rfl) (fun v as E hret => ?_)
  show Ws v as SH 0 0 0 [some (iv s), none, none] [] M
  refine s_iconst E dX8_bits_0 ?_
  refine s_istore_n (ls' := [_, _, _]) E dX8_bits_1 (Nat.le_of_ble_eq_true rfl) rfl ?_
  refine s_iconst E dX8_bits_2 ?_
  refine s_istore_n (ls' := [_, _, _]) E dX8_bits_3 (Nat.le_of_ble_eq_true rfl) rfl ?_
  exact lp_X8_bits M s E hret 7 0 0 (by decide) (by decide) rfl

def bc1 (s : Int) : Int := iAnd (s - iAnd (iUshr s 1) 1431655765) 858993459 + iAnd (iUshr (s - iAnd (iUshr s 1) 1431655765) 2) 858993459
def bc2 (s : Int) : Int := iAnd (bc1 s + iUshr (bc1 s) 4) 252645135
def bc3 (s : Int) : Int := bc2 s + iUshr (bc2 s) 8
def bc4 (s : Int) : Int := iAnd (bc3 s + iUshr (bc3 s) 16) 63
theorem bc_all : ∀ n : Nat, n < 64 → bc4 (n : Int) = popc (n : Int) := by decide +kernel
theorem bc_ok {s : Int} (h : 0 ≤ s ∧ s < 64) : bc4 s = popc s := by
  have := bc_all s.toNat (by omega)
  rwa [Int.toNat_of_nonneg h.1] at this

set_option maxRecDepth 100000 in
set_option maxHeartbeats 4000000 in
theorem c_J6_bitCount_0f7a4 (M : Mm) (s : Int) (h : 0 ≤ s ∧ s < 64) : CtI yJ6_bitCount_0f7a4 cJ6_bitCount_0f7a4 1 .int 1 SH [iv s] M (fun r M' => r = popc s ∧ M' = M) := by
  refine CtI.of rfl (Nat.le_of_ble_eq_true rfl) (Or.inl rfl) (fun v as E hret => ?_)
  show Ws v as SH 0 0 0 [some (iv s)] [] M
  refine s_iload_n E dJ6_bitCount_0f7a4_0 rfl ?_
  refine s_iload_n E dJ6_bitCount_0f7a4_1 rfl ?_
  refine s_iconst E dJ6_bitCount_0f7a4_2 ?_
  refine s_iushr E dJ6_bitCount_0f7a4_3 ?_
  refine s_ldcw E dJ6_bitCount_0f7a4_4 cst_J6_265 ?_
  refine s_iand E dJ6_bitCount_0f7a4_7 ?_
  refine s_isub E dJ6_bitCount_0f7a4_8 ?_
  refine s_istore_n (ls' := [_]) E dJ6_bitCount_0f7a4_9 (Nat.le_of_ble_eq_true rfl) rfl ?_
  refine s_iload_n E dJ6_bitCount_0f7a4_10 rfl ?_
  refine s_ldcw E dJ6_bitCount_0f7a4_11 cst_J6_266 ?_
  refine s_iand E dJ6_bitCount_0f7a4_14 ?_
  refine s_iload_n E dJ6_bitCount_0f7a4_15 rfl ?_
  refine s_iconst E dJ6_bitCount_0f7a4_16 ?_
  refine s_iushr E dJ6_bitCount_0f7a4_17 ?_
  refine s_ldcw E dJ6_bitCount_0f7a4_18 cst_J6_266 ?_
  refine s_iand E dJ6_bitCount_0f7a4_21 ?_
  refine s_iadd E dJ6_bitCount_0f7a4_22 ?_
  refine s_istore_n (ls' := [_]) E dJ6_bitCount_0f7a4_23 (Nat.le_of_ble_eq_true rfl) rfl ?_
  refine s_iload_n E dJ6_bitCount_0f7a4_24 rfl ?_
  refine s_iload_n E dJ6_bitCount_0f7a4_25 rfl ?_
  refine s_iconst E dJ6_bitCount_0f7a4_26 ?_
  refine s_iushr E dJ6_bitCount_0f7a4_27 ?_
  refine s_iadd E dJ6_bitCount_0f7a4_28 ?_
  refine s_ldcw E dJ6_bitCount_0f7a4_29 cst_J6_267 ?_
  refine s_iand E dJ6_bitCount_0f7a4_32 ?_
  refine s_istore_n (ls' := [_]) E dJ6_bitCount_0f7a4_33 (Nat.le_of_ble_eq_true rfl) rfl ?_
  refine s_iload_n E dJ6_bitCount_0f7a4_34 rfl ?_
  refine s_iload_n E dJ6_bitCount_0f7a4_35 rfl ?_
  refine s_bipush E dJ6_bitCount_0f7a4_36 rfl ?_
  refine s_iushr E dJ6_bitCount_0f7a4_38 ?_
  refine s_iadd E dJ6_bitCount_0f7a4_39 ?_
  refine s_istore_n (ls' := [_]) E dJ6_bitCount_0f7a4_40 (Nat.le_of_ble_eq_true rfl) rfl ?_
  refine s_iload_n E dJ6_bitCount_0f7a4_41 rfl ?_
  refine s_iload_n E dJ6_bitCount_0f7a4_42 rfl ?_
  refine s_bipush E dJ6_bitCount_0f7a4_43 rfl ?_
  refine s_iushr E dJ6_bitCount_0f7a4_45 ?_
  refine s_iadd E dJ6_bitCount_0f7a4_46 ?_
  refine s_istore_n (ls' := [_]) E dJ6_bitCount_0f7a4_47 (Nat.le_of_ble_eq_true rfl) rfl ?_
  refine s_iload_n E dJ6_bitCount_0f7a4_48 rfl ?_
  refine s_bipush E dJ6_bitCount_0f7a4_49 rfl ?_
  refine s_iand E dJ6_bitCount_0f7a4_51 ?_
  refine hret _ _ ?_ (fun q => by cases q) _ _ dJ6_bitCount_0f7a4_52
  exact ⟨bc_ok h, rfl⟩

set_option maxRecDepth 100000 in
set_option maxHeartbeats 4000000 in
theorem lp_X7_floor {v : Ev} {as : List Nat} (M : Mm) (s : Int) (h : 0 ≤ s ∧ s < 64) (hs : ∀ k, 0 ≤ k → k < 6 → 0 ≤ M 3 k ∧ M 3 k ≤ 999) (E : Cx v cX7_floorOf 4 yX7_floorOf.cls 2) (hret : RetI v as cX7_floorOf .int (fun r M' => r = flr (M 3) s ∧ M' = M)) : ∀ (N : Nat) (t k : Int), (6 - k).toNat < N → (0 ≤ k ∧ k ≤ 6) → (t = sumN (fun k => sb s k * M 3 k) k.toNat) → Ws v as SH 0 0 4 [some (rv 0), some (iv s), some (iv t), some (iv k)] [] M := by
  intro N
  induction N with
  | zero =>
    intro t k hN
    exact absurd hN (Nat.not_lt_zero _)
  | succ N ih =>
    intro t k hN g0 g1
    refine s_iload_n E dX7_floorOf_4 rfl ?_
    refine s_bipush E dX7_floorOf_5 rfl ?_
    refine s_icmp_ge E 38 dX7_floorOf_7 (by decide) (by omega) (by omega) (fun h7 => ?_) (fun h7 => ?_)
    · have b38 := sumS_rng (sv := M 3) s hs (k := k) (by omega)
      have e38 : t = sumS (M 3) s := by rw [g1, show k = 6 by omega]; rfl
      refine s_iload_n E dX7_floorOf_38 rfl ?_
      refine s_if_eq E 50 dX7_floorOf_39 (by decide) (by omega) (fun h39 => ?_) (fun h39 => ?_)
      · refine s_iload_n E dX7_floorOf_50 rfl ?_
        refine s_goto E 56 dX7_floorOf_51 (by decide) ?_
        refine hret _ _ ?_ (fun q => by cases q) _ _ dX7_floorOf_56
        exact ⟨by rw [flr_eq hs]; split <;> omega, rfl⟩
      · refine s_iload_n E dX7_floorOf_42 rfl ?_
        refine s_callSi E (c_J6_bitCount_0f7a4 _ _ (by omega)) dX7_floorOf_43 mf_J6_bitCount_0f7a4 ml_X7_204 rfl (Nat.le_of_ble_eq_true rfl) (Nat.le_of_ble_eq_true rfl) rfl (fun r43 M43 h43 => ?_)
        obtain ⟨e43, f43⟩ := h43; subst r43; subst M43
        have b46 := popc_rng s
        refine s_iconst E dX7_floorOf_46 ?_
        refine s_icmp_ne E 54 dX7_floorOf_47 (by decide) (by omega) (by omega) (fun h47 => ?_) (fun h47 => ?_)
        · refine s_ldc E dX7_floorOf_54 cst_X7_140 ?_
          refine hret _ _ ?_ (fun q => by cases q) _ _ dX7_floorOf_56
          exact ⟨by rw [flr_eq hs]; split <;> omega, rfl⟩
        · refine s_iload_n E dX7_floorOf_50 rfl ?_
          refine s_goto E 56 dX7_floorOf_51 (by decide) ?_
          refine hret _ _ ?_ (fun q => by cases q) _ _ dX7_floorOf_56
          exact ⟨by rw [flr_eq hs]; split <;> omega, rfl⟩
    · refine s_iload_n E dX7_floorOf_10 rfl ?_
      refine s_iload_n E dX7_floorOf_11 rfl ?_
      refine s_callSi E (c_X7_holds _ _ _ ) dX7_floorOf_12 mf_X7_holds ml_X7_209 rfl (Nat.le_of_ble_eq_true rfl) (Nat.le_of_ble_eq_true rfl) rfl (fun r12 M12 h12 => ?_)
      obtain ⟨e12, f12⟩ := h12; subst r12; subst M12
      refine s_ifeqB E 32 dX7_floorOf_15 (by decide) (fun h15 => ?_) (fun h15 => ?_)
      · refine s_iinc (ls' := [_, _, _, _]) E dX7_floorOf_32 rfl rfl ?_
        refine s_goto E 4 dX7_floorOf_35 (by decide) ?_
        exact ih _ _ (by omega) (by omega) (by rw [sumN_step (by omega), ← g1, sbm, if_neg (fun q => h15 (sb_bt.mp q))]; simp)
      · refine s_iload_n E dX7_floorOf_18 rfl ?_
        refine s_aload_n E dX7_floorOf_19 rfl ?_
        refine s_getR (kf := 0) E dX7_floorOf_20 rfl inb_X7 (Nat.le_of_ble_eq_true rfl) fl_X7_10 (by decide) sh0 rfl ?_
        refine s_getR (kf := 0) E dX7_floorOf_23 rfl inb_X2 (Nat.le_of_ble_eq_true rfl) fl_X7_67 (by decide) sh1 rfl ?_
        refine s_iconst E dX7_floorOf_26 ?_
        refine s_aald (kd := 0) (r := 3) E dX7_floorOf_27 (by decide) sh2 (Nat.le_of_ble_eq_true rfl) (by decide) rfl ?_
        refine s_iload_n E dX7_floorOf_28 rfl ?_
        refine s_iald E dX7_floorOf_29 (by decide) sh3 (Nat.le_of_ble_eq_true rfl) (by omega) ?_
        refine s_iadd E dX7_floorOf_30 ?_
        refine s_istore_n (ls' := [_, _, _, _]) E dX7_floorOf_31 (Nat.le_of_ble_eq_true rfl) rfl ?_
        refine s_iinc (ls' := [_, _, _, _]) E dX7_floorOf_32 rfl rfl ?_
        refine s_goto E 4 dX7_floorOf_35 (by decide) ?_
        exact ih _ _ (by omega) (by omega) (by rw [sumN_step (by omega), ← g1, sbm, if_pos (sb_bt.mpr h15)])

set_option maxRecDepth 100000 in
set_option maxHeartbeats 4000000 in
theorem c_X7_floorOf (M : Mm) (s : Int) (h : 0 ≤ s ∧ s < 64) (hs : ∀ k, 0 ≤ k → k < 6 → 0 ≤ M 3 k ∧ M 3 k ≤ 999) : CtI yX7_floorOf cX7_floorOf 4 .int 2 SH [rv 0, iv s] M (fun r M' => r = flr (M 3) s ∧ M' = M) := by
  refine CtI.of rfl (Nat.le_of_ble_eq_true rfl) (Or.inl rfl) (fun v as E hret => ?_)
  show Ws v as SH 0 0 0 [some (rv 0), some (iv s), none, none] [] M
  refine s_iconst E dX7_floorOf_0 ?_
  refine s_istore_n (ls' := [_, _, _, _]) E dX7_floorOf_1 (Nat.le_of_ble_eq_true rfl) rfl ?_
  refine s_iconst E dX7_floorOf_2 ?_
  refine s_istore_n (ls' := [_, _, _, _]) E dX7_floorOf_3 (Nat.le_of_ble_eq_true rfl) rfl ?_
  exact lp_X7_floor M s h hs E hret 7 0 0 (by decide) (by decide) rfl

set_option maxRecDepth 100000 in
set_option maxHeartbeats 4000000 in
theorem lp_X8_floor {v : Ev} {as : List Nat} (M : Mm) (s : Int) (hs : ∀ k, 0 ≤ k → k < 6 → 0 ≤ M 80 (4 * k) ∧ M 80 (4 * k) ≤ 999) (E : Cx v cX8_floorOf 6 yX8_floorOf.cls 1) (hret : RetI v as cX8_floorOf .int (fun r M' => r = flr (fun k => M 80 (4 * k)) s ∧ M' = M)) : ∀ (N : Nat) (n t k : Int) (o5 : Option Vv), (6 - k).toNat < N → (0 ≤ k ∧ k ≤ 6) → (n = sumN (fun k => sb s k) k.toNat) → (t = sumN (fun k => sb s k * M 80 (4 * k)) k.toNat) → Ws v as SH 0 0 7 [some (rv 79), some (iv s), some (iv n), some (iv t), some (iv k), o5] [] M := by
  intro N
  induction N with
  | zero =>
    intro n t k o5 hN
    exact absurd hN (Nat.not_lt_zero _)
  | succ N ih =>
    intro n t k o5 hN g0 g1 g2
    refine s_iload E dX8_floorOf_7 rfl ?_
    refine s_bipush E dX8_floorOf_9 rfl ?_
    refine s_icmp_ge E 71 dX8_floorOf_11 (by decide) (by omega) (by omega) (fun h11 => ?_) (fun h11 => ?_)
    · have b71 := sumS_rng (sv := fun k => M 80 (4 * k)) s hs (k := k) (by omega)
      have e71 : t = sumS (fun k => M 80 (4 * k)) s := by rw [g2, show k = 6 by omega]; rfl
      have f71 : n = popc s := by rw [g1, show k = 6 by omega]; rfl
      have r71 := popc_rng s
      refine s_iload_n E dX8_floorOf_71 rfl ?_
      refine s_iconst E dX8_floorOf_72 ?_
      refine s_icmp_le E 85 dX8_floorOf_73 (by decide) (by omega) (by omega) (fun h73 => ?_) (fun h73 => ?_)
      · refine s_iload_n E dX8_floorOf_85 rfl ?_
        refine hret _ _ ?_ (fun q => by cases q) _ _ dX8_floorOf_86
        exact ⟨by unfold flr; split <;> omega, rfl⟩
      · refine s_iload_n E dX8_floorOf_76 rfl ?_
        refine s_if_le E 85 dX8_floorOf_77 (by decide) (by omega) (fun h77 => ?_) (fun h77 => ?_)
        · refine s_iload_n E dX8_floorOf_85 rfl ?_
          refine hret _ _ ?_ (fun q => by cases q) _ _ dX8_floorOf_86
          exact ⟨by unfold flr; split <;> omega, rfl⟩
        · refine s_ldc E dX8_floorOf_80 cst_X8_148 ?_
          refine s_goto E 86 dX8_floorOf_82 (by decide) ?_
          refine hret _ _ ?_ (fun q => by cases q) _ _ dX8_floorOf_86
          exact ⟨by unfold flr; split <;> omega, rfl⟩
    · refine s_iload_n E dX8_floorOf_14 rfl ?_
      refine s_iload E dX8_floorOf_15 rfl ?_
      refine s_ishr E dX8_floorOf_17 ?_
      refine s_iconst E dX8_floorOf_18 ?_
      refine s_iand E dX8_floorOf_19 ?_
      refine s_iconst E dX8_floorOf_20 ?_
      refine s_icmp_ne E 28 dX8_floorOf_21 (by decide) (inI_and _ _) (by decide) (fun h21 => ?_) (fun h21 => ?_)
      · refine s_iconst E dX8_floorOf_28 ?_
        refine s_istore (ls' := [_, _, _, _, _, _]) E dX8_floorOf_29 (Nat.le_of_ble_eq_true rfl) rfl ?_
        refine s_iload_n E dX8_floorOf_31 rfl ?_
        refine s_iload E dX8_floorOf_32 rfl ?_
        refine s_if_eq E 41 dX8_floorOf_34 (by decide) (by omega) (fun h34 => ?_) (fun h34 => ?_)
        · refine s_iconst E dX8_floorOf_41 ?_
          refine s_iadd E dX8_floorOf_42 ?_
          refine s_istore_n (ls' := [_, _, _, _, _, _]) E dX8_floorOf_43 (Nat.le_of_ble_eq_true rfl) rfl ?_
          refine s_iload_n E dX8_floorOf_44 rfl ?_
          refine s_iload E dX8_floorOf_45 rfl ?_
          refine s_if_eq E 62 dX8_floorOf_47 (by decide) (by omega) (fun h47 => ?_) (fun h47 => ?_)
          · refine s_iconst E dX8_floorOf_62 ?_
            refine s_iadd E dX8_floorOf_63 ?_
            refine s_istore_n (ls' := [_, _, _, _, _, _]) E dX8_floorOf_64 (Nat.le_of_ble_eq_true rfl) rfl ?_
            refine s_iinc (ls' := [_, _, _, _, _, _]) E dX8_floorOf_65 rfl rfl ?_
            refine s_goto E 7 dX8_floorOf_68 (by decide) ?_
            exact ih _ _ _ _ (by omega) (by omega) (by rw [sumN_step (by omega), ← g1, sb_nbt.mpr h21]) (by rw [sumN_step (by omega), ← g2, sbm, if_neg (fun q => h21 (sb_bt.mp q))])
          · exact absurd h47 (by decide)
        · exact absurd h34 (by decide)
      · refine s_iconst E dX8_floorOf_24 ?_
        refine s_goto E 29 dX8_floorOf_25 (by decide) ?_
        refine s_istore (ls' := [_, _, _, _, _, _]) E dX8_floorOf_29 (Nat.le_of_ble_eq_true rfl) rfl ?_
        refine s_iload_n E dX8_floorOf_31 rfl ?_
        refine s_iload E dX8_floorOf_32 rfl ?_
        refine s_if_eq E 41 dX8_floorOf_34 (by decide) (by omega) (fun h34 => ?_) (fun h34 => ?_)
        · exact absurd h34 (by decide)
        · refine s_iconst E dX8_floorOf_37 ?_
          refine s_goto E 42 dX8_floorOf_38 (by decide) ?_
          refine s_iadd E dX8_floorOf_42 ?_
          refine s_istore_n (ls' := [_, _, _, _, _, _]) E dX8_floorOf_43 (Nat.le_of_ble_eq_true rfl) rfl ?_
          refine s_iload_n E dX8_floorOf_44 rfl ?_
          refine s_iload E dX8_floorOf_45 rfl ?_
          refine s_if_eq E 62 dX8_floorOf_47 (by decide) (by omega) (fun h47 => ?_) (fun h47 => ?_)
          · exact absurd h47 (by decide)
          · refine s_aload_n E dX8_floorOf_50 rfl ?_
            refine s_getR (kf := 0) E dX8_floorOf_51 rfl inb_X8 (Nat.le_of_ble_eq_true rfl) fl_X8_7 (by decide) sh79 rfl ?_
            refine s_iconst E dX8_floorOf_54 ?_
            refine s_iload E dX8_floorOf_55 rfl ?_
            refine s_imul E dX8_floorOf_57 ?_
            refine s_iald E dX8_floorOf_58 (by decide) sh80 (Nat.le_of_ble_eq_true rfl) (by omega) ?_
            refine s_goto E 63 dX8_floorOf_59 (by decide) ?_
            refine s_iadd E dX8_floorOf_63 ?_
            refine s_istore_n (ls' := [_, _, _, _, _, _]) E dX8_floorOf_64 (Nat.le_of_ble_eq_true rfl) rfl ?_
            refine s_iinc (ls' := [_, _, _, _, _, _]) E dX8_floorOf_65 rfl rfl ?_
            refine s_goto E 7 dX8_floorOf_68 (by decide) ?_
            exact ih _ _ _ _ (by omega) (by omega) (by rw [sumN_step (by omega), ← g1, show sb s k = 1 from Classical.byContradiction h21]) (by rw [sumN_step (by omega), ← g2, sbm, if_pos (show sb s k = 1 from Classical.byContradiction h21)])

set_option maxRecDepth 100000 in
set_option maxHeartbeats 4000000 in
theorem c_X8_floorOf (M : Mm) (s : Int) (hs : ∀ k, 0 ≤ k → k < 6 → 0 ≤ M 80 (4 * k) ∧ M 80 (4 * k) ≤ 999) : CtI yX8_floorOf cX8_floorOf 6 .int 1 SH [rv 79, iv s] M (fun r M' => r = flr (fun k => M 80 (4 * k)) s ∧ M' = M) := by
  refine CtI.of rfl (Nat.le_of_ble_eq_true rfl) (Or.inl rfl) (fun v as E hret => ?_)
  show Ws v as SH 0 0 0 [some (rv 79), some (iv s), none, none, none, none] [] M
  refine s_iconst E dX8_floorOf_0 ?_
  refine s_istore_n (ls' := [_, _, _, _, _, _]) E dX8_floorOf_1 (Nat.le_of_ble_eq_true rfl) rfl ?_
  refine s_iconst E dX8_floorOf_2 ?_
  refine s_istore_n (ls' := [_, _, _, _, _, _]) E dX8_floorOf_3 (Nat.le_of_ble_eq_true rfl) rfl ?_
  refine s_iconst E dX8_floorOf_4 ?_
  refine s_istore (ls' := [_, _, _, _, _, _]) E dX8_floorOf_5 (Nat.le_of_ble_eq_true rfl) rfl ?_
  exact lp_X8_floor M s hs E hret 7 0 0 0 _ (by decide) (by decide) rfl rfl

set_option maxRecDepth 100000 in
set_option maxHeartbeats 4000000 in
theorem c_X7_floor (M : Mm) (s : Int) (h : inI s) (hs : ∀ k, 0 ≤ k → k < 6 → 0 ≤ M 3 k ∧ M 3 k ≤ 999) : CtI yX7_floor cX7_floor 2 .int 3 SH [rv 0, iv s] M (fun r M' => r = (if 0 ≤ s ∧ s < 64 then flr (M 3) s else -2) ∧ M' = M) := by
  refine CtI.of rfl (Nat.le_of_ble_eq_true rfl) (Or.inl rfl) (fun v as E hret => ?_)
  show Ws v as SH 0 0 0 [some (rv 0), some (iv s)] [] M
  refine s_iload_n E dX7_floor_0 rfl ?_
  refine s_if_lt E 10 dX7_floor_1 (by decide) (by omega) (fun h1 => ?_) (fun h1 => ?_)
  · refine s_bipush E dX7_floor_10 rfl ?_
    refine s_goto E 20 dX7_floor_12 (by decide) ?_
    refine hret _ _ ?_ (fun q => by cases q) _ _ dX7_floor_20
    exact ⟨by (repeat' split) <;> first | rfl | omega, rfl⟩
  · refine s_iload_n E dX7_floor_4 rfl ?_
    refine s_bipush E dX7_floor_5 rfl ?_
    refine s_icmp_lt E 15 dX7_floor_7 (by decide) (by omega) (by omega) (fun h7 => ?_) (fun h7 => ?_)
    · refine s_aload_n E dX7_floor_15 rfl ?_
      refine s_iload_n E dX7_floor_16 rfl ?_
      refine s_callVi E (c_X7_floorOf _ _ (by omega) hs) dX7_floor_17 mf_X7_floorOf ml_X7_201 rfl (Nat.le_of_ble_eq_true rfl) (Nat.le_of_ble_eq_true rfl) (by decide) sh0 rfl rfl (fun r17 M17 h17 => ?_)
      obtain ⟨e17, f17⟩ := h17; subst r17; subst M17
      refine hret _ _ ?_ (fun q => by cases q) _ _ dX7_floor_20
      exact ⟨by (repeat' split) <;> first | rfl | omega, rfl⟩
    · refine s_bipush E dX7_floor_10 rfl ?_
      refine s_goto E 20 dX7_floor_12 (by decide) ?_
      refine hret _ _ ?_ (fun q => by cases q) _ _ dX7_floor_20
      exact ⟨by (repeat' split) <;> first | rfl | omega, rfl⟩

set_option maxRecDepth 100000 in
set_option maxHeartbeats 4000000 in
theorem c_X8_floor (M : Mm) (s : Int) (h : inI s) (hs : ∀ k, 0 ≤ k → k < 6 → 0 ≤ M 80 (4 * k) ∧ M 80 (4 * k) ≤ 999) : CtI yX8_floor cX8_floor 2 .int 2 SH [rv 79, iv s] M (fun r M' => r = (if 0 ≤ s ∧ s < 64 then flr (fun k => M 80 (4 * k)) s else -2) ∧ M' = M) := by
  refine CtI.of rfl (Nat.le_of_ble_eq_true rfl) (Or.inl rfl) (fun v as E hret => ?_)
  show Ws v as SH 0 0 0 [some (rv 79), some (iv s)] [] M
  refine s_iload_n E dX8_floor_0 rfl ?_
  refine s_iconst E dX8_floor_1 ?_
  refine s_bipush E dX8_floor_2 rfl ?_
  refine s_callSi E (c_X8_in _ _ _ _ (by omega) (by omega) (by omega)) dX8_floor_4 mf_X8_in ml_X8_63 rfl (Nat.le_of_ble_eq_true rfl) (Nat.le_of_ble_eq_true rfl) rfl (fun r4 M4 h4 => ?_)
  obtain ⟨e4, f4⟩ := h4; subst r4; subst M4
  refine s_ifeqB E 18 dX8_floor_7 (by decide) (fun h7 => ?_) (fun h7 => ?_)
  · refine s_bipush E dX8_floor_18 rfl ?_
    refine hret _ _ ?_ (fun q => by cases q) _ _ dX8_floor_20
    exact ⟨by (repeat' split) <;> first | rfl | omega, rfl⟩
  · refine s_aload_n E dX8_floor_10 rfl ?_
    refine s_iload_n E dX8_floor_11 rfl ?_
    refine s_callVi E (c_X8_floorOf _ _ hs) dX8_floor_12 mf_X8_floorOf ml_X8_149 rfl (Nat.le_of_ble_eq_true rfl) (Nat.le_of_ble_eq_true rfl) (by decide) sh79 rfl rfl (fun r12 M12 h12 => ?_)
    obtain ⟨e12, f12⟩ := h12; subst r12; subst M12
    refine s_goto E 20 dX8_floor_15 (by decide) ?_
    refine hret _ _ ?_ (fun q => by cases q) _ _ dX8_floor_20
    exact ⟨by (repeat' split) <;> first | rfl | omega, rfl⟩

theorem flr_rng {sv : Int → Int} (s : Int) (h : ∀ k, 0 ≤ k → k < 6 → 0 ≤ sv k ∧ sv k ≤ 999) : 0 ≤ flr sv s ∧ flr sv s ≤ 1000000 := by
  have h1 := sumS_rng s h (k := 6) (by omega)
  have h2 : 0 ≤ sumS sv s ∧ sumS sv s ≤ 5994 := h1
  unfold flr
  split <;> omega

set_option maxRecDepth 100000 in
set_option maxHeartbeats 4000000 in
theorem lp_X7_fr {v : Ev} {as : List Nat} (M : Mm) (w z : Int) (hw : 0 ≤ w ∧ w < 6) (hz : 0 ≤ z ∧ z ≤ 999) (hs : ∀ k, 0 ≤ k → k < 6 → 0 ≤ M 3 k ∧ M 3 k ≤ 999) (E : Cx v cX7_friends 6 yX7_friends.cls 3) (hret : RetI v as cX7_friends .int (fun r M' => r = frl (flr (M 3)) w z 63 1 (-6) ∧ M' = M)) : ∀ (N : Nat) (b x : Int) (o5 : Option Vv), (64 - x).toNat < N → (1 ≤ x ∧ x ≤ 64) → (b = -6 ∨ (1 ≤ b ∧ b < 64)) → (frl (flr (M 3)) w z (64 - x).toNat x b = frl (flr (M 3)) w z 63 1 (-6)) → Ws v as SH 0 0 29 [some (rv 0), some (iv w), some (iv z), some (iv b), some (iv x), o5] [] M := by
  intro N
  induction N with
  | zero =>
    intro b x o5 hN
    exact absurd hN (Nat.not_lt_zero _)
  | succ N ih =>
    intro b x o5 hN g0 g1 g2
    have p1 := popc_rng x; have p2 := popc_rng b; have p3 := flr_rng x hs
    refine s_iload E dX7_friends_29 rfl ?_
    refine s_bipush E dX7_friends_31 rfl ?_
    refine s_icmp_ge E 94 dX7_friends_33 (by decide) (by omega) (by omega) (fun h33 => ?_) (fun h33 => ?_)
    · refine s_iload_n E dX7_friends_94 rfl ?_
      refine hret _ _ ?_ (fun q => by cases q) _ _ dX7_friends_95
      exact ⟨by rw [← g2, frl_end (by omega)], rfl⟩
    · refine s_iload_n E dX7_friends_36 rfl ?_
      refine s_bipush E dX7_friends_37 rfl ?_
      refine s_icmp_eq E 54 dX7_friends_39 (by decide) (by omega) (by omega) (fun h39 => ?_) (fun h39 => ?_)
      · refine s_iconst E dX7_friends_54 ?_
        refine s_goto E 59 dX7_friends_55 (by decide) ?_
        refine s_istore (ls' := [_, _, _, _, _, _]) E dX7_friends_59 (Nat.le_of_ble_eq_true rfl) rfl ?_
        refine s_iload E dX7_friends_61 rfl ?_
        refine s_iload_n E dX7_friends_63 rfl ?_
        refine s_callSi E (c_X7_holds _ _ _ ) dX7_friends_64 mf_X7_holds ml_X7_209 rfl (Nat.le_of_ble_eq_true rfl) (Nat.le_of_ble_eq_true rfl) rfl (fun r64 M64 h64 => ?_)
        obtain ⟨e64, f64⟩ := h64; subst r64; subst M64
        have q64 : bt x w ↔ sb x w = 1 := Iff.rfl
        refine s_ifeqB E 88 dX7_friends_67 (by decide) (fun h67 => ?_) (fun h67 => ?_)
        · refine s_iinc (ls' := [_, _, _, _, _, _]) E dX7_friends_88 rfl rfl ?_
          refine s_goto E 29 dX7_friends_91 (by decide) ?_
          have s67 : ¬ sb x w = 1 := h67
          exact ih _ _ _ (by omega) (by omega) (by omega) (by rw [← g2]; exact (frl_go (by omega) (by have hb := sb_01 x w; split <;> omega)).symm)
        · refine s_iload E dX7_friends_70 rfl ?_
          refine s_if_eq E 88 dX7_friends_72 (by decide) (by omega) (fun h72 => ?_) (fun h72 => ?_)
          · exact absurd h72 (by decide)
          · refine s_aload_n E dX7_friends_75 rfl ?_
            refine s_iload E dX7_friends_76 rfl ?_
            refine s_callVi E (c_X7_floorOf _ _ (by omega) hs) dX7_friends_78 mf_X7_floorOf ml_X7_201 rfl (Nat.le_of_ble_eq_true rfl) (Nat.le_of_ble_eq_true rfl) (by decide) sh0 rfl rfl (fun r78 M78 h78 => ?_)
            obtain ⟨e78, f78⟩ := h78; subst r78; subst M78
            refine s_iload_n E dX7_friends_81 rfl ?_
            refine s_icmp_lt E 88 dX7_friends_82 (by decide) (by omega) (by omega) (fun h82 => ?_) (fun h82 => ?_)
            · refine s_iinc (ls' := [_, _, _, _, _, _]) E dX7_friends_88 rfl rfl ?_
              refine s_goto E 29 dX7_friends_91 (by decide) ?_
              have s67 : sb x w = 1 := h67
              exact ih _ _ _ (by omega) (by omega) (by omega) (by rw [← g2]; exact (frl_go (by omega) (by have hb := sb_01 x w; split <;> omega)).symm)
            · refine s_iload E dX7_friends_85 rfl ?_
              refine s_istore_n (ls' := [_, _, _, _, _, _]) E dX7_friends_87 (Nat.le_of_ble_eq_true rfl) rfl ?_
              refine s_iinc (ls' := [_, _, _, _, _, _]) E dX7_friends_88 rfl rfl ?_
              refine s_goto E 29 dX7_friends_91 (by decide) ?_
              have s67 : sb x w = 1 := h67
              exact ih _ _ _ (by omega) (by omega) (by omega) (by rw [← g2]; exact (frl_go (by omega) (by have hb := sb_01 x w; split <;> omega)).symm)
      · refine s_iload E dX7_friends_42 rfl ?_
        refine s_callSi E (c_J6_bitCount_0f7a4 _ _ (by omega)) dX7_friends_44 mf_J6_bitCount_0f7a4 ml_X7_204 rfl (Nat.le_of_ble_eq_true rfl) (Nat.le_of_ble_eq_true rfl) rfl (fun r44 M44 h44 => ?_)
        obtain ⟨e44, f44⟩ := h44; subst r44; subst M44
        refine s_iload_n E dX7_friends_47 rfl ?_
        refine s_callSi E (c_J6_bitCount_0f7a4 _ _ (by omega)) dX7_friends_48 mf_J6_bitCount_0f7a4 ml_X7_204 rfl (Nat.le_of_ble_eq_true rfl) (Nat.le_of_ble_eq_true rfl) rfl (fun r48 M48 h48 => ?_)
        obtain ⟨e48, f48⟩ := h48; subst r48; subst M48
        refine s_icmp_ge E 58 dX7_friends_51 (by decide) (by omega) (by omega) (fun h51 => ?_) (fun h51 => ?_)
        · refine s_iconst E dX7_friends_58 ?_
          refine s_istore (ls' := [_, _, _, _, _, _]) E dX7_friends_59 (Nat.le_of_ble_eq_true rfl) rfl ?_
          refine s_iload E dX7_friends_61 rfl ?_
          refine s_iload_n E dX7_friends_63 rfl ?_
          refine s_callSi E (c_X7_holds _ _ _ ) dX7_friends_64 mf_X7_holds ml_X7_209 rfl (Nat.le_of_ble_eq_true rfl) (Nat.le_of_ble_eq_true rfl) rfl (fun r64 M64 h64 => ?_)
          obtain ⟨e64, f64⟩ := h64; subst r64; subst M64
          have q64 : bt x w ↔ sb x w = 1 := Iff.rfl
          refine s_ifeqB E 88 dX7_friends_67 (by decide) (fun h67 => ?_) (fun h67 => ?_)
          · refine s_iinc (ls' := [_, _, _, _, _, _]) E dX7_friends_88 rfl rfl ?_
            refine s_goto E 29 dX7_friends_91 (by decide) ?_
            have s67 : ¬ sb x w = 1 := h67
            exact ih _ _ _ (by omega) (by omega) (by omega) (by rw [← g2]; exact (frl_go (by omega) (by have hb := sb_01 x w; split <;> omega)).symm)
          · refine s_iload E dX7_friends_70 rfl ?_
            refine s_if_eq E 88 dX7_friends_72 (by decide) (by omega) (fun h72 => ?_) (fun h72 => ?_)
            · refine s_iinc (ls' := [_, _, _, _, _, _]) E dX7_friends_88 rfl rfl ?_
              refine s_goto E 29 dX7_friends_91 (by decide) ?_
              have s67 : sb x w = 1 := h67
              exact ih _ _ _ (by omega) (by omega) (by omega) (by rw [← g2]; exact (frl_go (by omega) (by have hb := sb_01 x w; split <;> omega)).symm)
            · exact absurd h72 (by decide)
        · refine s_iconst E dX7_friends_54 ?_
          refine s_goto E 59 dX7_friends_55 (by decide) ?_
          refine s_istore (ls' := [_, _, _, _, _, _]) E dX7_friends_59 (Nat.le_of_ble_eq_true rfl) rfl ?_
          refine s_iload E dX7_friends_61 rfl ?_
          refine s_iload_n E dX7_friends_63 rfl ?_
          refine s_callSi E (c_X7_holds _ _ _ ) dX7_friends_64 mf_X7_holds ml_X7_209 rfl (Nat.le_of_ble_eq_true rfl) (Nat.le_of_ble_eq_true rfl) rfl (fun r64 M64 h64 => ?_)
          obtain ⟨e64, f64⟩ := h64; subst r64; subst M64
          have q64 : bt x w ↔ sb x w = 1 := Iff.rfl
          refine s_ifeqB E 88 dX7_friends_67 (by decide) (fun h67 => ?_) (fun h67 => ?_)
          · refine s_iinc (ls' := [_, _, _, _, _, _]) E dX7_friends_88 rfl rfl ?_
            refine s_goto E 29 dX7_friends_91 (by decide) ?_
            have s67 : ¬ sb x w = 1 := h67
            exact ih _ _ _ (by omega) (by omega) (by omega) (by rw [← g2]; exact (frl_go (by omega) (by have hb := sb_01 x w; split <;> omega)).symm)
          · refine s_iload E dX7_friends_70 rfl ?_
            refine s_if_eq E 88 dX7_friends_72 (by decide) (by omega) (fun h72 => ?_) (fun h72 => ?_)
            · exact absurd h72 (by decide)
            · refine s_aload_n E dX7_friends_75 rfl ?_
              refine s_iload E dX7_friends_76 rfl ?_
              refine s_callVi E (c_X7_floorOf _ _ (by omega) hs) dX7_friends_78 mf_X7_floorOf ml_X7_201 rfl (Nat.le_of_ble_eq_true rfl) (Nat.le_of_ble_eq_true rfl) (by decide) sh0 rfl rfl (fun r78 M78 h78 => ?_)
              obtain ⟨e78, f78⟩ := h78; subst r78; subst M78
              refine s_iload_n E dX7_friends_81 rfl ?_
              refine s_icmp_lt E 88 dX7_friends_82 (by decide) (by omega) (by omega) (fun h82 => ?_) (fun h82 => ?_)
              · refine s_iinc (ls' := [_, _, _, _, _, _]) E dX7_friends_88 rfl rfl ?_
                refine s_goto E 29 dX7_friends_91 (by decide) ?_
                have s67 : sb x w = 1 := h67
                exact ih _ _ _ (by omega) (by omega) (by omega) (by rw [← g2]; exact (frl_go (by omega) (by have hb := sb_01 x w; split <;> omega)).symm)
              · refine s_iload E dX7_friends_85 rfl ?_
                refine s_istore_n (ls' := [_, _, _, _, _, _]) E dX7_friends_87 (Nat.le_of_ble_eq_true rfl) rfl ?_
                refine s_iinc (ls' := [_, _, _, _, _, _]) E dX7_friends_88 rfl rfl ?_
                refine s_goto E 29 dX7_friends_91 (by decide) ?_
                have s67 : sb x w = 1 := h67
                exact ih _ _ _ (by omega) (by omega) (by omega) (by rw [← g2]; exact (frl_go (by omega) (by have hb := sb_01 x w; split <;> omega)).symm)

set_option maxRecDepth 100000 in
set_option maxHeartbeats 4000000 in
theorem c_X7_friends (M : Mm) (w z : Int) (hw : inI w) (hz : inI z) (hs : ∀ k, 0 ≤ k → k < 6 → 0 ≤ M 3 k ∧ M 3 k ≤ 999) : CtI yX7_friends cX7_friends 6 .int 3 SH [rv 0, iv w, iv z] M (fun r M' => r = (if 0 ≤ w ∧ w < 6 then (if 0 ≤ z ∧ z ≤ 999 then frl (flr (M 3)) w z 63 1 (-6) else -2) else -1) ∧ M' = M) := by
  refine CtI.of rfl (Nat.le_of_ble_eq_true rfl) (Or.inl rfl) (fun v as E hret => ?_)
  show Ws v as SH 0 0 0 [some (rv 0), some (iv w), some (iv z), none, none, none] [] M
  refine s_iload_n E dX7_friends_0 rfl ?_
  refine s_callSi E (c_X7_isOne _ _ (by omega)) dX7_friends_1 mf_X7_isOne ml_X7_59 rfl (Nat.le_of_ble_eq_true rfl) (Nat.le_of_ble_eq_true rfl) rfl (fun r1 M1 h1 => ?_)
  obtain ⟨e1, f1⟩ := h1; subst r1; subst M1
  refine s_ifneB E 9 dX7_friends_4 (by decide) (fun h4 => ?_) (fun h4 => ?_)
  · refine s_iload_n E dX7_friends_9 rfl ?_
    refine s_if_lt E 20 dX7_friends_10 (by decide) (by omega) (fun h10 => ?_) (fun h10 => ?_)
    · refine s_bipush E dX7_friends_20 rfl ?_
      refine hret _ _ ?_ (fun q => by cases q) _ _ dX7_friends_22
      exact ⟨by (repeat' split) <;> first | rfl | omega, rfl⟩
    · refine s_iload_n E dX7_friends_13 rfl ?_
      refine s_sipush E dX7_friends_14 rfl ?_
      refine s_icmp_le E 23 dX7_friends_17 (by decide) (by omega) (by omega) (fun h17 => ?_) (fun h17 => ?_)
      · refine s_bipush E dX7_friends_23 rfl ?_
        refine s_istore_n (ls' := [_, _, _, _, _, _]) E dX7_friends_25 (Nat.le_of_ble_eq_true rfl) rfl ?_
        refine s_iconst E dX7_friends_26 ?_
        refine s_istore (ls' := [_, _, _, _, _, _]) E dX7_friends_27 (Nat.le_of_ble_eq_true rfl) rfl ?_
        exact lp_X7_fr M w z (by omega) (by omega) hs E (fun r M' h => hret r M' ⟨by rw [if_pos (by omega), if_pos (by omega)]; exact h.1, h.2⟩) 64 (-6) 1 _ (by decide) (by decide) (by decide) rfl
      · refine s_bipush E dX7_friends_20 rfl ?_
        refine hret _ _ ?_ (fun q => by cases q) _ _ dX7_friends_22
        exact ⟨by (repeat' split) <;> first | rfl | omega, rfl⟩
  · refine s_iconst E dX7_friends_7 ?_
    refine hret _ _ ?_ (fun q => by cases q) _ _ dX7_friends_8
    exact ⟨by (repeat' split) <;> first | rfl | omega, rfl⟩

set_option maxRecDepth 100000 in
set_option maxHeartbeats 4000000 in
theorem lp_X8_fr {v : Ev} {as : List Nat} (M : Mm) (w z : Int) (hw : 0 ≤ w ∧ w < 6) (hz : 0 ≤ z ∧ z ≤ 999) (hs : ∀ k, 0 ≤ k → k < 6 → 0 ≤ M 80 (4 * k) ∧ M 80 (4 * k) ≤ 999) (E : Cx v cX8_friends 6 yX8_friends.cls 3) (hret : RetI v as cX8_friends .int (fun r M' => r = frl (flr (fun k => M 80 (4 * k))) w z 63 1 (-6) ∧ M' = M)) : ∀ (N : Nat) (b x : Int) (o5 : Option Vv), (64 - x).toNat < N → (1 ≤ x ∧ x ≤ 64) → (b = -6 ∨ (1 ≤ b ∧ b < 64)) → (frl (flr (fun k => M 80 (4 * k))) w z (64 - x).toNat x b = frl (flr (fun k => M 80 (4 * k))) w z 63 1 (-6)) → Ws v as SH 0 0 29 [some (rv 79), some (iv w), some (iv z), some (iv b), some (iv x), o5] [] M := by
  intro N
  induction N with
  | zero =>
    intro b x o5 hN
    exact absurd hN (Nat.not_lt_zero _)
  | succ N ih =>
    intro b x o5 hN g0 g1 g2
    have p1 := popc_rng x; have p2 := popc_rng b; have p3 := flr_rng (sv := fun k => M 80 (4 * k)) x hs
    refine s_iload E dX8_friends_29 rfl ?_
    refine s_bipush E dX8_friends_31 rfl ?_
    refine s_icmp_ge E 97 dX8_friends_33 (by decide) (by omega) (by omega) (fun h33 => ?_) (fun h33 => ?_)
    · refine s_iload_n E dX8_friends_97 rfl ?_
      refine hret _ _ ?_ (fun q => by cases q) _ _ dX8_friends_98
      exact ⟨by rw [← g2, frl_end (by omega)], rfl⟩
    · refine s_iload_n E dX8_friends_36 rfl ?_
      refine s_if_lt E 52 dX8_friends_37 (by decide) (by omega) (fun h37 => ?_) (fun h37 => ?_)
      · refine s_iconst E dX8_friends_52 ?_
        refine s_goto E 57 dX8_friends_53 (by decide) ?_
        refine s_istore (ls' := [_, _, _, _, _, _]) E dX8_friends_57 (Nat.le_of_ble_eq_true rfl) rfl ?_
        have q59 : iAnd (iShr x w) 1 = sb x w := rfl
        refine s_iload E dX8_friends_59 rfl ?_
        refine s_iload_n E dX8_friends_61 rfl ?_
        refine s_ishr E dX8_friends_62 ?_
        refine s_iconst E dX8_friends_63 ?_
        refine s_iand E dX8_friends_64 ?_
        refine s_iconst E dX8_friends_65 ?_
        refine s_icmp_ne E 89 dX8_friends_66 (by decide) (inI_and _ _) (by decide) (fun h66 => ?_) (fun h66 => ?_)
        · refine s_iload_n E dX8_friends_89 rfl ?_
          refine s_istore_n (ls' := [_, _, _, _, _, _]) E dX8_friends_90 (Nat.le_of_ble_eq_true rfl) rfl ?_
          refine s_iinc (ls' := [_, _, _, _, _, _]) E dX8_friends_91 rfl rfl ?_
          refine s_goto E 29 dX8_friends_94 (by decide) ?_
          exact ih _ _ _ (by omega) (by omega) (by omega) (by rw [← g2]; exact (frl_go (by omega) (by have hb := sb_01 x w; split <;> omega)).symm)
        · refine s_iload E dX8_friends_69 rfl ?_
          refine s_if_eq E 89 dX8_friends_71 (by decide) (by omega) (fun h71 => ?_) (fun h71 => ?_)
          · exact absurd h71 (by decide)
          · refine s_aload_n E dX8_friends_74 rfl ?_
            refine s_iload E dX8_friends_75 rfl ?_
            refine s_callVi E (c_X8_floorOf _ _ hs) dX8_friends_77 mf_X8_floorOf ml_X8_149 rfl (Nat.le_of_ble_eq_true rfl) (Nat.le_of_ble_eq_true rfl) (by decide) sh79 rfl rfl (fun r77 M77 h77 => ?_)
            obtain ⟨e77, f77⟩ := h77; subst r77; subst M77
            refine s_iload_n E dX8_friends_80 rfl ?_
            refine s_icmp_lt E 89 dX8_friends_81 (by decide) (by omega) (by omega) (fun h81 => ?_) (fun h81 => ?_)
            · refine s_iload_n E dX8_friends_89 rfl ?_
              refine s_istore_n (ls' := [_, _, _, _, _, _]) E dX8_friends_90 (Nat.le_of_ble_eq_true rfl) rfl ?_
              refine s_iinc (ls' := [_, _, _, _, _, _]) E dX8_friends_91 rfl rfl ?_
              refine s_goto E 29 dX8_friends_94 (by decide) ?_
              exact ih _ _ _ (by omega) (by omega) (by omega) (by rw [← g2]; exact (frl_go (by omega) (by have hb := sb_01 x w; split <;> omega)).symm)
            · refine s_iload E dX8_friends_84 rfl ?_
              refine s_goto E 90 dX8_friends_86 (by decide) ?_
              refine s_istore_n (ls' := [_, _, _, _, _, _]) E dX8_friends_90 (Nat.le_of_ble_eq_true rfl) rfl ?_
              refine s_iinc (ls' := [_, _, _, _, _, _]) E dX8_friends_91 rfl rfl ?_
              refine s_goto E 29 dX8_friends_94 (by decide) ?_
              exact ih _ _ _ (by omega) (by omega) (by omega) (by rw [← g2]; exact (frl_go (by omega) (by have hb := sb_01 x w; split <;> omega)).symm)
      · refine s_iload E dX8_friends_40 rfl ?_
        refine s_callSi E (c_X8_bits _ _) dX8_friends_42 mf_X8_bits ml_X8_152 rfl (Nat.le_of_ble_eq_true rfl) (Nat.le_of_ble_eq_true rfl) rfl (fun r42 M42 h42 => ?_)
        obtain ⟨e42, f42⟩ := h42; subst r42; subst M42
        refine s_iload_n E dX8_friends_45 rfl ?_
        refine s_callSi E (c_X8_bits _ _) dX8_friends_46 mf_X8_bits ml_X8_152 rfl (Nat.le_of_ble_eq_true rfl) (Nat.le_of_ble_eq_true rfl) rfl (fun r46 M46 h46 => ?_)
        obtain ⟨e46, f46⟩ := h46; subst r46; subst M46
        refine s_icmp_ge E 56 dX8_friends_49 (by decide) (by omega) (by omega) (fun h49 => ?_) (fun h49 => ?_)
        · refine s_iconst E dX8_friends_56 ?_
          refine s_istore (ls' := [_, _, _, _, _, _]) E dX8_friends_57 (Nat.le_of_ble_eq_true rfl) rfl ?_
          have q59 : iAnd (iShr x w) 1 = sb x w := rfl
          refine s_iload E dX8_friends_59 rfl ?_
          refine s_iload_n E dX8_friends_61 rfl ?_
          refine s_ishr E dX8_friends_62 ?_
          refine s_iconst E dX8_friends_63 ?_
          refine s_iand E dX8_friends_64 ?_
          refine s_iconst E dX8_friends_65 ?_
          refine s_icmp_ne E 89 dX8_friends_66 (by decide) (inI_and _ _) (by decide) (fun h66 => ?_) (fun h66 => ?_)
          · refine s_iload_n E dX8_friends_89 rfl ?_
            refine s_istore_n (ls' := [_, _, _, _, _, _]) E dX8_friends_90 (Nat.le_of_ble_eq_true rfl) rfl ?_
            refine s_iinc (ls' := [_, _, _, _, _, _]) E dX8_friends_91 rfl rfl ?_
            refine s_goto E 29 dX8_friends_94 (by decide) ?_
            exact ih _ _ _ (by omega) (by omega) (by omega) (by rw [← g2]; exact (frl_go (by omega) (by have hb := sb_01 x w; split <;> omega)).symm)
          · refine s_iload E dX8_friends_69 rfl ?_
            refine s_if_eq E 89 dX8_friends_71 (by decide) (by omega) (fun h71 => ?_) (fun h71 => ?_)
            · refine s_iload_n E dX8_friends_89 rfl ?_
              refine s_istore_n (ls' := [_, _, _, _, _, _]) E dX8_friends_90 (Nat.le_of_ble_eq_true rfl) rfl ?_
              refine s_iinc (ls' := [_, _, _, _, _, _]) E dX8_friends_91 rfl rfl ?_
              refine s_goto E 29 dX8_friends_94 (by decide) ?_
              exact ih _ _ _ (by omega) (by omega) (by omega) (by rw [← g2]; exact (frl_go (by omega) (by have hb := sb_01 x w; split <;> omega)).symm)
            · exact absurd h71 (by decide)
        · refine s_iconst E dX8_friends_52 ?_
          refine s_goto E 57 dX8_friends_53 (by decide) ?_
          refine s_istore (ls' := [_, _, _, _, _, _]) E dX8_friends_57 (Nat.le_of_ble_eq_true rfl) rfl ?_
          have q59 : iAnd (iShr x w) 1 = sb x w := rfl
          refine s_iload E dX8_friends_59 rfl ?_
          refine s_iload_n E dX8_friends_61 rfl ?_
          refine s_ishr E dX8_friends_62 ?_
          refine s_iconst E dX8_friends_63 ?_
          refine s_iand E dX8_friends_64 ?_
          refine s_iconst E dX8_friends_65 ?_
          refine s_icmp_ne E 89 dX8_friends_66 (by decide) (inI_and _ _) (by decide) (fun h66 => ?_) (fun h66 => ?_)
          · refine s_iload_n E dX8_friends_89 rfl ?_
            refine s_istore_n (ls' := [_, _, _, _, _, _]) E dX8_friends_90 (Nat.le_of_ble_eq_true rfl) rfl ?_
            refine s_iinc (ls' := [_, _, _, _, _, _]) E dX8_friends_91 rfl rfl ?_
            refine s_goto E 29 dX8_friends_94 (by decide) ?_
            exact ih _ _ _ (by omega) (by omega) (by omega) (by rw [← g2]; exact (frl_go (by omega) (by have hb := sb_01 x w; split <;> omega)).symm)
          · refine s_iload E dX8_friends_69 rfl ?_
            refine s_if_eq E 89 dX8_friends_71 (by decide) (by omega) (fun h71 => ?_) (fun h71 => ?_)
            · exact absurd h71 (by decide)
            · refine s_aload_n E dX8_friends_74 rfl ?_
              refine s_iload E dX8_friends_75 rfl ?_
              refine s_callVi E (c_X8_floorOf _ _ hs) dX8_friends_77 mf_X8_floorOf ml_X8_149 rfl (Nat.le_of_ble_eq_true rfl) (Nat.le_of_ble_eq_true rfl) (by decide) sh79 rfl rfl (fun r77 M77 h77 => ?_)
              obtain ⟨e77, f77⟩ := h77; subst r77; subst M77
              refine s_iload_n E dX8_friends_80 rfl ?_
              refine s_icmp_lt E 89 dX8_friends_81 (by decide) (by omega) (by omega) (fun h81 => ?_) (fun h81 => ?_)
              · refine s_iload_n E dX8_friends_89 rfl ?_
                refine s_istore_n (ls' := [_, _, _, _, _, _]) E dX8_friends_90 (Nat.le_of_ble_eq_true rfl) rfl ?_
                refine s_iinc (ls' := [_, _, _, _, _, _]) E dX8_friends_91 rfl rfl ?_
                refine s_goto E 29 dX8_friends_94 (by decide) ?_
                exact ih _ _ _ (by omega) (by omega) (by omega) (by rw [← g2]; exact (frl_go (by omega) (by have hb := sb_01 x w; split <;> omega)).symm)
              · refine s_iload E dX8_friends_84 rfl ?_
                refine s_goto E 90 dX8_friends_86 (by decide) ?_
                refine s_istore_n (ls' := [_, _, _, _, _, _]) E dX8_friends_90 (Nat.le_of_ble_eq_true rfl) rfl ?_
                refine s_iinc (ls' := [_, _, _, _, _, _]) E dX8_friends_91 rfl rfl ?_
                refine s_goto E 29 dX8_friends_94 (by decide) ?_
                exact ih _ _ _ (by omega) (by omega) (by omega) (by rw [← g2]; exact (frl_go (by omega) (by have hb := sb_01 x w; split <;> omega)).symm)

set_option maxRecDepth 100000 in
set_option maxHeartbeats 4000000 in
theorem c_X8_friends (M : Mm) (w z : Int) (hw : inI w) (hz : inI z) (hs : ∀ k, 0 ≤ k → k < 6 → 0 ≤ M 80 (4 * k) ∧ M 80 (4 * k) ≤ 999) : CtI yX8_friends cX8_friends 6 .int 3 SH [rv 79, iv w, iv z] M (fun r M' => r = (if 0 ≤ w ∧ w < 6 then (if 0 ≤ z ∧ z ≤ 999 then frl (flr (fun k => M 80 (4 * k))) w z 63 1 (-6) else -2) else -1) ∧ M' = M) := by
  refine CtI.of rfl (Nat.le_of_ble_eq_true rfl) (Or.inl rfl) (fun v as E hret => ?_)
  show Ws v as SH 0 0 0 [some (rv 79), some (iv w), some (iv z), none, none, none] [] M
  refine s_iload_n E dX8_friends_0 rfl ?_
  refine s_callSi E (c_X8_isOne _ _ (by omega)) dX8_friends_1 mf_X8_isOne ml_X8_67 rfl (Nat.le_of_ble_eq_true rfl) (Nat.le_of_ble_eq_true rfl) rfl (fun r1 M1 h1 => ?_)
  obtain ⟨e1, f1⟩ := h1; subst r1; subst M1
  refine s_ifneB E 9 dX8_friends_4 (by decide) (fun h4 => ?_) (fun h4 => ?_)
  · refine s_iload_n E dX8_friends_9 rfl ?_
    refine s_iconst E dX8_friends_10 ?_
    refine s_sipush E dX8_friends_11 rfl ?_
    refine s_callSi E (c_X8_in _ _ _ _ (by omega) (by omega) (by omega)) dX8_friends_14 mf_X8_in ml_X8_63 rfl (Nat.le_of_ble_eq_true rfl) (Nat.le_of_ble_eq_true rfl) rfl (fun r14 M14 h14 => ?_)
    obtain ⟨e14, f14⟩ := h14; subst r14; subst M14
    refine s_ifneB E 23 dX8_friends_17 (by decide) (fun h17 => ?_) (fun h17 => ?_)
    · refine s_bipush E dX8_friends_23 rfl ?_
      refine s_istore_n (ls' := [_, _, _, _, _, _]) E dX8_friends_25 (Nat.le_of_ble_eq_true rfl) rfl ?_
      refine s_iconst E dX8_friends_26 ?_
      refine s_istore (ls' := [_, _, _, _, _, _]) E dX8_friends_27 (Nat.le_of_ble_eq_true rfl) rfl ?_
      exact lp_X8_fr M w z (by omega) (by omega) hs E (fun r M' h => hret r M' ⟨by rw [if_pos (by omega), if_pos (by omega)]; exact h.1, h.2⟩) 64 (-6) 1 _ (by decide) (by decide) (by decide) rfl
    · refine s_bipush E dX8_friends_20 rfl ?_
      refine hret _ _ ?_ (fun q => by cases q) _ _ dX8_friends_22
      exact ⟨by (repeat' split) <;> first | rfl | omega, rfl⟩
  · refine s_iconst E dX8_friends_7 ?_
    refine hret _ _ ?_ (fun q => by cases q) _ _ dX8_friends_8
    exact ⟨by (repeat' split) <;> first | rfl | omega, rfl⟩
