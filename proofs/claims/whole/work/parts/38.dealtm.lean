/-! ===== dealt: the reference's search ===== -/
def av (a b c d : Int) : Int → Int := updF (updF (updF (updF (fun _ => 0) 0 a) 1 b) 2 c) 3 d
def okP (n b c d : Int) : Prop := (1 < n ∨ b = 0) ∧ (2 < n ∨ c = 0) ∧ (3 < n ∨ d = 0)
noncomputable def bD (V : (Int → Int) → Int) (n a b c d : Int) (st : St) : St := if b2 (okP n b c d) = 1 then evD V (av a b c d) st else st
noncomputable def fC (V : (Int → Int) → Int) (n a b d3 c : Int) (st : St) : St := bD V n a b c (d3 - c) st
noncomputable def fB (V : (Int → Int) → Int) (n a d2 b : Int) (st : St) : St := eL (fC V n a b (d2 - b)) (d2 - b + 1).toNat (d2 - b) st
noncomputable def fA (V : (Int → Int) → Int) (n D a : Int) (st : St) : St := eL (fB V n a (D - a)) (D - a + 1).toNat (D - a) st
theorem bD_yes {V : (Int → Int) → Int} {n a b c d : Int} {st : St} (h : okP n b c d) : bD V n a b c d st = evD V (av a b c d) st := if_pos (b2_pos h)
theorem bD_no {V : (Int → Int) → Int} {n a b c d : Int} {st : St} (h : ¬ okP n b c d) : bD V n a b c d st = st := if_neg (by rw [b2_neg h]; decide)
theorem eL_congr {σ : Type} {f f' : Int → σ → σ} : ∀ (n : Nat) (g : Int) (st : σ), (∀ q st, g - n < q → q ≤ g → f q st = f' q st) → eL f n g st = eL f' n g st
  | 0, _, _, _ => rfl
  | n + 1, g, st, h => by
    show eL f n (g - 1) (f g st) = eL f' n (g - 1) (f' g st)
    rw [h g st (by omega) (by omega)]
    exact eL_congr n (g - 1) _ (fun q st h1 h2 => h q st (by omega) (by omega))
theorem eL_top {σ : Type} {f : Int → σ → σ} {g : Int} {st : σ} (h0 : 0 ≤ g) (h : ∀ q st, 0 ≤ q → q < g → f q st = st) : eL f (g + 1).toNat g st = f g st := by
  rw [eL_step h0]
  exact eL_skip _ _ (fun q h1 h2 => h q _ (by omega) (by omega))
theorem upd0 {a : Int → Int} {p : Int} (h : a p = 0) : updF a p 0 = a := by
  funext j
  unfold updF
  split
  · rename_i e; rw [e, h]
  · rfl
theorem av0 (a b c : Int) : av a b c 0 = updF (updF (updF (fun _ => 0) 0 a) 1 b) 2 c := upd0 (by unfold updF; rw [if_neg (by decide), if_neg (by decide), if_neg (by decide)])
theorem av00 (a b : Int) : av a b 0 0 = updF (updF (fun _ => 0) 0 a) 1 b := by rw [av0]; exact upd0 (by unfold updF; rw [if_neg (by decide), if_neg (by decide)])
theorem av000 (a : Int) : av a 0 0 0 = updF (fun _ => 0) 0 a := by rw [av00]; exact upd0 (by unfold updF; rw [if_neg (by decide)])
theorem fC_top {V : (Int → Int) → Int} {n a b d3 : Int} {st : St} (hn : n ≤ 3) (h : 0 ≤ d3) : eL (fC V n a b d3) (d3 + 1).toNat d3 st = bD V n a b d3 0 st := by
  rw [eL_top (f := fC V n a b d3) h (fun q st h1 h2 => bD_no (fun w => by have := w.2.2; omega))]
  unfold fC
  rw [show d3 - d3 = 0 by omega]
theorem fB_top {V : (Int → Int) → Int} {n a d2 : Int} {st : St} (hn : n ≤ 2) (h : 0 ≤ d2) : eL (fB V n a d2) (d2 + 1).toNat d2 st = bD V n a d2 0 0 st := by
  have e : ∀ q st, 0 ≤ q → q ≤ d2 → fB V n a d2 q st = bD V n a q (d2 - q) 0 st := fun q st h1 h2 => by
    unfold fB
    exact fC_top (by omega) (by omega)
  rw [eL_top (f := fB V n a d2) h (fun q st h1 h2 => by rw [e q st h1 (by omega)]; exact bD_no (fun w => by have := w.2.1; omega)), e d2 st h (by omega), show d2 - d2 = 0 by omega]
theorem fA_top {V : (Int → Int) → Int} {n D : Int} {st : St} (hn : n ≤ 1) (h : 0 ≤ D) : eL (fA V n D) (D + 1).toNat D st = bD V n D 0 0 0 st := by
  have e : ∀ q st, 0 ≤ q → q ≤ D → fA V n D q st = bD V n q (D - q) 0 0 st := fun q st h1 h2 => by
    unfold fA
    exact fB_top (by omega) (by omega)
  rw [eL_top (f := fA V n D) h (fun q st h1 h2 => by rw [e q st h1 (by omega)]; exact bD_no (fun w => by have := w.1; omega)), e D st h (by omega), show D - D = 0 by omega]
theorem fA_eD {V : (Int → Int) → Int} {n D : Int} {st : St} (hn : 1 ≤ n ∧ n ≤ 4) (h : 0 ≤ D) : eL (fA V n D) (D + 1).toNat D st = eD V (n - 1).toNat 0 D (fun _ => 0) st := by
  rcases (show n = 1 ∨ n = 2 ∨ n = 3 ∨ n = 4 by omega) with e | e | e | e
  · subst e
    rw [fA_top (by decide) h, bD_yes ⟨Or.inr rfl, Or.inr rfl, Or.inr rfl⟩, av000]
    rfl
  · subst e
    show _ = eL (fun g st => evD V (updF (updF (fun _ => 0) 0 g) (0 + 1) (D - g)) st) (D + 1).toNat D st
    refine eL_congr _ _ _ (fun q st h1 h2 => ?_)
    unfold fA
    rw [fB_top (by decide) (by omega), bD_yes ⟨Or.inl (by decide), Or.inr rfl, Or.inr rfl⟩, av00]
    rfl
  · subst e
    show _ = eL (fun g st => eL (fun g2 st => evD V (updF (updF (updF (fun _ => 0) 0 g) (0 + 1) g2) (0 + 1 + 1) (D - g - g2)) st) (D - g + 1).toNat (D - g) st) (D + 1).toNat D st
    refine eL_congr _ _ _ (fun q st h1 h2 => ?_)
    unfold fA
    refine eL_congr _ _ _ (fun q2 st h3 h4 => ?_)
    unfold fB
    rw [fC_top (by decide) (by omega), bD_yes ⟨Or.inl (by decide), Or.inl (by decide), Or.inr rfl⟩, av0]
    rfl
  · subst e
    show _ = eL (fun g st => eL (fun g2 st => eL (fun g3 st => evD V (updF (updF (updF (updF (fun _ => 0) 0 g) (0 + 1) g2) (0 + 1 + 1) g3) (0 + 1 + 1 + 1) (D - g - g2 - g3)) st) (D - g - g2 + 1).toNat (D - g - g2) st) (D - g + 1).toNat (D - g) st) (D + 1).toNat D st
    refine eL_congr _ _ _ (fun q st h1 h2 => ?_)
    unfold fA
    refine eL_congr _ _ _ (fun q2 st h3 h4 => ?_)
    unfold fB
    refine eL_congr _ _ _ (fun q3 st h5 h6 => ?_)
    unfold fC
    rw [bD_yes ⟨Or.inl (by decide), Or.inl (by decide), Or.inl (by decide)⟩]
    rfl
noncomputable def nM (M : Mm) : Int := ps (M 79 5) (mB M) 6
noncomputable def VM (M : Mm) : (Int → Int) → Int := VA (M 79 5) (mB M) (mI M) (mE M)
noncomputable def TM (M : Mm) : Int := tt (M 79 5) (mI M) (full (M 79 5))
def HM (M : Mm) : Prop := MOK (M 79 5) (mB M) (mI M) (mE M) ∧ ∀ k, 0 ≤ k → k < 6 → hasP (M 79 5) (mB M) k → M 88 (ps (M 79 5) (mB M) k) = k
def BS (M0 M : Mm) (st : St) : Prop := Fr [86, 87, 89] M0 M ∧ (∀ j, 0 ≤ j → j < 4 → M 89 j = st.2 j) ∧ 0 ≤ st.1 ∧ TM M0 + st.1 ≤ 100000000
theorem hm_at {M : Mm} (h : HM M) {j : Int} (hj : 0 ≤ j ∧ j < nM M) : (0 ≤ M 88 j ∧ M 88 j < 6) ∧ hasP (M 79 5) (mB M) (M 88 j) ∧ ps (M 79 5) (mB M) (M 88 j) = j := by
  obtain ⟨k, q1, q2, q3⟩ := ps_ex (c := M 79 5) (bo := mB M) 6 j hj.1 hj.2
  have e := h.2 k q1.1 (by omega) q2
  rw [q3] at e
  rw [e]
  exact ⟨⟨q1.1, by omega⟩, q2, q3⟩
theorem hm_ne {M : Mm} (h : HM M) {i j : Int} (hi : 0 ≤ i ∧ i < nM M) (hj : 0 ≤ j ∧ j < nM M) (hne : i ≠ j) : M 88 i ≠ M 88 j := by
  intro e
  have a := (hm_at h hi).2.2
  have b := (hm_at h hj).2.2
  rw [e] at a
  omega
theorem AGM_of {M0 M : Mm} {a : Int → Int} (h : HM M0) (hF : Fr [86, 87, 89] M0 M) (ha : ∀ j, 0 ≤ j → j < nM M0 → M 86 (M0 88 j) = a j ∧ 0 ≤ a j ∧ a j ≤ 20) : AGM M (LA (M0 79 5) (mB M0) (mI M0) a) := by
  unfold AGM mB mI mE
  rw [hF 79 (by decide), hF 82 (by decide)]
  refine ⟨h.1, fun s m h1 h2 h3 h4 => ?_⟩
  have hl := LA_rng (s := s) h.1 (fun j q1 q2 => (ha j q1 q2).2) ⟨h3, h4⟩
  have p := ps_bo h.1 ⟨h3, h4⟩
  have b := h.1.2.2 m h3 (by have := h.1.2.1; omega)
  have e := h.2 (mB M0 m) b.1 (by omega) ⟨m, ⟨h3, h4⟩, rfl⟩
  have e2 := (ha _ p.1 p.2).1
  rw [e] at e2
  refine ⟨?_, hl⟩
  show nd _ (mB M0) (mI M0) s m - M 86 (mB M0 m) = _
  rw [e2]
  rfl
theorem sumN_zero {f : Int → Int} {n : Nat} (h : ∀ j : Int, 0 ≤ j → j < n → f j = 0) : sumN f n = 0 := (sumN_congr h).trans (sumN_0 n)
theorem sumN_nn {f : Int → Int} : ∀ {n : Nat}, (∀ j : Int, 0 ≤ j → j < n → 0 ≤ f j) → 0 ≤ sumN f n
  | 0, _ => Int.le_refl _
  | n + 1, h => by
    show 0 ≤ sumN f n + f n
    have := sumN_nn (f := f) (n := n) (fun j h5 h6 => h j h5 (by omega))
    have := h n (by omega) (by omega)
    omega
theorem sumN_ge {f : Int → Int} {m : Int} : ∀ {n : Nat}, (∀ j : Int, 0 ≤ j → j < n → 0 ≤ f j) → 0 ≤ m → m < n → f m ≤ sumN f n
  | 0, _, _, _ => by omega
  | n + 1, h, h1, h2 => by
    show f m ≤ sumN f n + f n
    have h3 := h n (by omega) (by omega)
    by_cases e : m = n
    · have h4 : 0 ≤ sumN f n := sumN_nn (fun j h5 h6 => h j h5 (by omega))
      rw [e]
      omega
    · have := sumN_ge (f := f) (n := n) (fun j h5 h6 => h j h5 (by omega)) h1 (by omega)
      omega
theorem sp_iff {M : Mm} (h : MOK (M 79 5) (mB M) (mI M) (mE M)) (k : Int) : 0 < spB M k 255 (M 79 5).toNat ↔ hasP (M 79 5) (mB M) k := by
  have hc := h.1; have hc2 := h.2.1
  constructor
  · intro hp
    refine Classical.byContradiction (fun hn => ?_)
    have : spB M k 255 (M 79 5).toNat = 0 := by
      unfold spB
      refine sumN_zero (fun j h1 h2 => ?_)
      rw [if_neg (fun e => hn ⟨j, by omega, e⟩), Int.mul_zero]
    omega
  · rintro ⟨j, hj, e⟩
    unfold spB
    have hg : ∀ i, 0 ≤ i → i < ((M 79 5).toNat : Int) → 0 ≤ sb 255 i * (if mB M i = k then mI M i else 0) := fun i h1 h2 => by
      have := h.2.2 i h1 (by omega)
      rw [sbm]
      split <;> (try split) <;> omega
    have hle := sumN_ge hg (m := j) hj.1 (by omega)
    have h1 : sb 255 j = 1 := by
      have q : sb (full 8) j = 1 := (bt_full (c := 8) (by decide) (by omega)).mpr (by omega)
      rwa [show full 8 = 255 by decide] at q
    rw [h1, if_pos e] at hle
    have := (h.2.2 j hj.1 (by omega)).2.2.2.2.2.2 hj.2
    omega

set_option maxRecDepth 100000 in
set_option maxHeartbeats 4000000 in
theorem lp_X8_dl340 {v : Ev} {as : List Nat} (M0 : Mm) (D k n : Int) (hD : 0 ≤ D ∧ D ≤ 20) (hk : k = -1 ∨ (0 ≤ k ∧ k < 6)) (hm : HM M0) (hn : n = nM M0) (hn4 : 1 ≤ n ∧ n ≤ 4) (F : St) (hk1 : k ≠ -1) (E : Cx v cX8_dealt 11 yX8_dealt.cls 8) (hret : RetI v as cX8_dealt .int (fun r M' => Fr [86, 87, 89] M0 M' ∧ (k = -1 → r = TM M0 + F.1) ∧ (k ≠ -1 → hasP (M0 79 5) (mB M0) k → r = F.2 (ps (M0 79 5) (mB M0) k)) ∧ (k ≠ -1 → ¬ hasP (M0 79 5) (mB M0) k → r = -6))) : ∀ (N : Nat) (M : Mm) (i x y : Int) (o7 o8 o9 o10 : Option Vv), (n - i).toNat < N → (0 ≤ i ∧ i ≤ n) → (BS M0 M F) → (hasP (M0 79 5) (mB M0) k → ps (M0 79 5) (mB M0) k < i → y = F.2 (ps (M0 79 5) (mB M0) k)) → (¬ (hasP (M0 79 5) (mB M0) k ∧ ps (M0 79 5) (mB M0) k < i) → y = -6) → Ws v as SH 0 0 340 [some (rv 79), some (iv D), some (iv k), some (iv n), some (iv x), some (iv y), some (iv i), o7, o8, o9, o10] [] M := by
  intro N
  induction N with
  | zero =>
    intro M i x y o7 o8 o9 o10 hN
    exact absurd hN (Nat.not_lt_zero _)
  | succ N ih =>
    intro M i x y o7 o8 o9 o10 hN g0 g1 g2 g3
    refine s_iload E dX8_dealt_340 rfl ?_
    refine s_iload_n E dX8_dealt_342 rfl ?_
    refine s_icmp_ge E 377 dX8_dealt_343 (by decide) (by omega) (by omega) (fun h343 => ?_) (fun h343 => ?_)
    · refine s_iload E dX8_dealt_377 rfl ?_
      refine hret _ _ ?_ (fun q => by cases q) _ _ dX8_dealt_379
      have e : i = n := by omega
      have hps := fun h => ps_lt (c := M0 79 5) (bo := mB M0) (k := k) (k' := 6) (by omega) (by omega) h
      refine ⟨g1.1, fun q => absurd q hk1, fun _ h => g2 h (by have := hps h; rw [e, hn]; exact this), fun _ h => g3 (fun q => h q.1)⟩
    · have hai := hm_at hm (j := i) (by omega)
      have hzz := hm.2 k (by omega) (by omega)
      refine s_aload_n E dX8_dealt_346 rfl ?_
      refine s_getR (kf := 15) E dX8_dealt_347 rfl inb_X8 (Nat.le_of_ble_eq_true rfl) fl_X8_41 (by decide) sh79 rfl ?_
      refine s_iload E dX8_dealt_350 rfl ?_
      refine s_iald E dX8_dealt_352 (by decide) sh88 (Nat.le_of_ble_eq_true rfl) (by omega) ?_
      rw [g1.1 88 (by decide)]
      refine s_iload_n E dX8_dealt_353 rfl ?_
      refine s_icmp_ne E 367 dX8_dealt_354 (by decide) (by omega) (by omega) (fun h354 => ?_) (fun h354 => ?_)
      · refine s_iload E dX8_dealt_367 rfl ?_
        refine s_istore (ls' := [_, _, _, _, _, _, _, _, _, _, _]) E dX8_dealt_369 (Nat.le_of_ble_eq_true rfl) rfl ?_
        refine s_iinc (ls' := [_, _, _, _, _, _, _, _, _, _, _]) E dX8_dealt_371 rfl rfl ?_
        refine s_goto E 340 dX8_dealt_374 (by decide) ?_
        refine ih _ _ _ _ _ _ _ _ (by omega) (by omega) g1 (fun h1 h2 => ?_) (fun h1 => ?_)
        · by_cases e : ps (M0 79 5) (mB M0) k = i
          · have := hzz h1; rw [e] at this; omega
          · exact g2 h1 (by omega)
        · exact g3 (fun q => h1 ⟨q.1, by omega⟩)
      · refine s_aload_n E dX8_dealt_357 rfl ?_
        refine s_getR (kf := 16) E dX8_dealt_358 rfl inb_X8 (Nat.le_of_ble_eq_true rfl) fl_X8_44 (by decide) sh79 rfl ?_
        refine s_iload E dX8_dealt_361 rfl ?_
        refine s_iald E dX8_dealt_363 (by decide) sh89 (Nat.le_of_ble_eq_true rfl) (by omega) ?_
        refine s_goto E 369 dX8_dealt_364 (by decide) ?_
        refine s_istore (ls' := [_, _, _, _, _, _, _, _, _, _, _]) E dX8_dealt_369 (Nat.le_of_ble_eq_true rfl) rfl ?_
        refine s_iinc (ls' := [_, _, _, _, _, _, _, _, _, _, _]) E dX8_dealt_371 rfl rfl ?_
        refine s_goto E 340 dX8_dealt_374 (by decide) ?_
        have e : M0 88 i = k := by omega
        rw [e] at hai
        refine ih _ _ _ _ _ _ _ _ (by omega) (by omega) g1 (fun h1 h2 => ?_) (fun h1 => absurd ⟨hai.2.1, by omega⟩ h1)
        rw [hai.2.2]
        exact g1.2.1 i (by omega) (by omega)

set_option maxRecDepth 100000 in
set_option maxHeartbeats 4000000 in
theorem lp_X8_dl198 {v : Ev} {as : List Nat} (M0 : Mm) (D k n : Int) (hD : 0 ≤ D ∧ D ≤ 20) (hk : k = -1 ∨ (0 ≤ k ∧ k < 6)) (hm : HM M0) (hn : n = nM M0) (hn4 : 1 ≤ n ∧ n ≤ 4) (a b c d x : Int) (M1 : Mm) (h1 : Fr [86, 87, 89] M0 M1) (E : Cx v cX8_dealt 11 yX8_dealt.cls 8) (hret : ∀ (M : Mm) (o9 o10 : Option Vv), (∀ i, 0 ≤ i → i < n → M 86 (M0 88 i) = av a b c d i) → Fr [86] M1 M → Ws v as SH 0 0 256 [some (rv 79), some (iv D), some (iv k), some (iv n), some (iv x), some (iv a), some (iv b), some (iv c), some (iv d), o9, o10] [] M) : ∀ (N : Nat) (M : Mm) (j : Int) (o9 : Option Vv), (n - j).toNat < N → (0 ≤ j ∧ j ≤ n) → (∀ i, 0 ≤ i → i < j → M 86 (M0 88 i) = av a b c d i) → (Fr [86] M1 M) → Ws v as SH 0 0 198 [some (rv 79), some (iv D), some (iv k), some (iv n), some (iv x), some (iv a), some (iv b), some (iv c), some (iv d), o9, some (iv j)] [] M := by
  intro N
  induction N with
  | zero =>
    intro M j o9 hN
    exact absurd hN (Nat.not_lt_zero _)
  | succ N ih =>
    intro M j o9 hN g0 g1 g2
    refine s_iload E dX8_dealt_198 rfl ?_
    refine s_iload_n E dX8_dealt_200 rfl ?_
    refine s_icmp_ge E 256 dX8_dealt_201 (by decide) (by omega) (by omega) (fun h201 => ?_) (fun h201 => ?_)
    · exact hret M _ _ (fun i q1 q2 => g1 i q1 (by omega)) g2
    · have haj := hm_at hm (j := j) (by omega)
      refine s_aload_n E dX8_dealt_204 rfl ?_
      refine s_getR (kf := 13) E dX8_dealt_205 rfl inb_X8 (Nat.le_of_ble_eq_true rfl) fl_X8_35 (by decide) sh79 rfl ?_
      refine s_aload_n E dX8_dealt_208 rfl ?_
      refine s_getR (kf := 15) E dX8_dealt_209 rfl inb_X8 (Nat.le_of_ble_eq_true rfl) fl_X8_41 (by decide) sh79 rfl ?_
      refine s_iload E dX8_dealt_212 rfl ?_
      refine s_iald E dX8_dealt_214 (by decide) sh88 (Nat.le_of_ble_eq_true rfl) (by omega) ?_
      rw [g2 88 (by decide), h1 88 (by decide)]
      refine s_iload E dX8_dealt_215 rfl ?_
      refine s_if_ne E 225 dX8_dealt_217 (by decide) (by omega) (fun h217 => ?_) (fun h217 => ?_)
      · refine s_iload E dX8_dealt_225 rfl ?_
        refine s_iconst E dX8_dealt_227 ?_
        refine s_icmp_ne E 236 dX8_dealt_228 (by decide) (by omega) (by omega) (fun h228 => ?_) (fun h228 => ?_)
        · refine s_iload E dX8_dealt_236 rfl ?_
          refine s_iconst E dX8_dealt_238 ?_
          refine s_icmp_ne E 247 dX8_dealt_239 (by decide) (by omega) (by omega) (fun h239 => ?_) (fun h239 => ?_)
          · refine s_iload E dX8_dealt_247 rfl ?_
            refine s_iast E dX8_dealt_249 (by decide) sh86 (Nat.le_of_ble_eq_true rfl) (by omega) ?_
            refine s_iinc (ls' := [_, _, _, _, _, _, _, _, _, _, _]) E dX8_dealt_250 rfl rfl ?_
            refine s_goto E 198 dX8_dealt_253 (by decide) ?_
            refine ih _ _ _ (by omega) (by omega) (fun i q1 q2 => ?_) (g2.up (by decide))
            by_cases e : i = j
            · rw [e, upm_eq]
              unfold av updF
              rw [if_pos (by omega)]
            · rw [upm_ne (Or.inr (hm_ne hm (by omega) (by omega) e))]
              exact g1 i q1 (by omega)
          · refine s_iload E dX8_dealt_242 rfl ?_
            refine s_goto E 249 dX8_dealt_244 (by decide) ?_
            refine s_iast E dX8_dealt_249 (by decide) sh86 (Nat.le_of_ble_eq_true rfl) (by omega) ?_
            refine s_iinc (ls' := [_, _, _, _, _, _, _, _, _, _, _]) E dX8_dealt_250 rfl rfl ?_
            refine s_goto E 198 dX8_dealt_253 (by decide) ?_
            refine ih _ _ _ (by omega) (by omega) (fun i q1 q2 => ?_) (g2.up (by decide))
            by_cases e : i = j
            · rw [e, upm_eq]
              unfold av updF
              rw [if_neg (by omega), if_pos (by omega)]
            · rw [upm_ne (Or.inr (hm_ne hm (by omega) (by omega) e))]
              exact g1 i q1 (by omega)
        · refine s_iload E dX8_dealt_231 rfl ?_
          refine s_goto E 249 dX8_dealt_233 (by decide) ?_
          refine s_iast E dX8_dealt_249 (by decide) sh86 (Nat.le_of_ble_eq_true rfl) (by omega) ?_
          refine s_iinc (ls' := [_, _, _, _, _, _, _, _, _, _, _]) E dX8_dealt_250 rfl rfl ?_
          refine s_goto E 198 dX8_dealt_253 (by decide) ?_
          refine ih _ _ _ (by omega) (by omega) (fun i q1 q2 => ?_) (g2.up (by decide))
          by_cases e : i = j
          · rw [e, upm_eq]
            unfold av updF
            rw [if_neg (by omega), if_neg (by omega), if_pos (by omega)]
          · rw [upm_ne (Or.inr (hm_ne hm (by omega) (by omega) e))]
            exact g1 i q1 (by omega)
      · refine s_iload E dX8_dealt_220 rfl ?_
        refine s_goto E 249 dX8_dealt_222 (by decide) ?_
        refine s_iast E dX8_dealt_249 (by decide) sh86 (Nat.le_of_ble_eq_true rfl) (by omega) ?_
        refine s_iinc (ls' := [_, _, _, _, _, _, _, _, _, _, _]) E dX8_dealt_250 rfl rfl ?_
        refine s_goto E 198 dX8_dealt_253 (by decide) ?_
        refine ih _ _ _ (by omega) (by omega) (fun i q1 q2 => ?_) (g2.up (by decide))
        by_cases e : i = j
        · rw [e, upm_eq]
          unfold av updF
          rw [if_neg (by omega), if_neg (by omega), if_neg (by omega), if_pos (by omega)]
        · rw [upm_ne (Or.inr (hm_ne hm (by omega) (by omega) e))]
          exact g1 i q1 (by omega)

theorem TM_rng {M : Mm} (h : HM M) : 0 ≤ TM M ∧ TM M ≤ 480 := tt_rng h.1
theorem VM_spec {M : Mm} (h : HM M) {a : Int → Int} (ha : ∀ j, 0 ≤ j → j < nM M → 0 ≤ a j ∧ a j ≤ 20) : (0 ≤ VM M a ∧ VM M a ≤ 2000) ∧ IsP (M 79 5) (LA (M 79 5) (mB M) (mI M) a) (mE M) (VM M a) := VA_spec h.1 ha
theorem updF_rng {f : Int → Int} {p x : Int} (hf : ∀ j, 0 ≤ f j ∧ f j ≤ 20) (hx : 0 ≤ x ∧ x ≤ 20) (j : Int) : 0 ≤ updF f p x j ∧ updF f p x j ≤ 20 := by
  unfold updF
  by_cases e : j = p
  · rw [if_pos e]; exact hx
  · rw [if_neg e]; exact hf j
theorem eL_next {σ : Type} {f : Int → σ → σ} {g : Int} {st st' F : σ} (h0 : 0 ≤ g) (h : eL f (g + 1).toNat g st = F) (h2 : f g st = st') : eL f (g + -1 + 1).toNat (g + -1) st' = F := by
  rw [eL_step h0, h2] at h
  exact h
theorem av_rng {a b c d : Int} (ha : 0 ≤ a ∧ a ≤ 20) (hb : 0 ≤ b ∧ b ≤ 20) (hc : 0 ≤ c ∧ c ≤ 20) (hd : 0 ≤ d ∧ d ≤ 20) (j : Int) : 0 ≤ av a b c d j ∧ av a b c d j ≤ 20 := by
  exact updF_rng (updF_rng (updF_rng (updF_rng (fun _ => by decide) ha) hb) hc) hd j
set_option maxRecDepth 100000 in
set_option maxHeartbeats 4000000 in
theorem lp_X8_dl136 {v : Ev} {as : List Nat} (M0 : Mm) (D k n : Int) (hD : 0 ≤ D ∧ D ≤ 20) (hk : k = -1 ∨ (0 ≤ k ∧ k < 6)) (hm : HM M0) (hn : n = nM M0) (hn4 : 1 ≤ n ∧ n ≤ 4) (F : St) (a b : Int) (ha : 0 ≤ a) (hb : 0 ≤ b) (hab : a + b ≤ D) (E : Cx v cX8_dealt 11 yX8_dealt.cls 8) (hret : ∀ (M : Mm) (x : Int) (o7 o8 o9 o10 : Option Vv), x = TM M0 + F.1 → BS M0 M F → Ws v as SH 0 0 313 [some (rv 79), some (iv D), some (iv k), some (iv n), some (iv x), some (iv a), some (iv b), o7, o8, o9, o10] [] M) : ∀ (N : Nat) (M : Mm) (c x : Int) (st : St) (o8 o9 o10 : Option Vv), (c + 1).toNat < N → (-1 ≤ c ∧ c ≤ D - a - b) → (x = TM M0 + st.1) → (BS M0 M st) → (eL (fC (VM M0) n a b (D - a - b)) (c + 1).toNat c st = F) → Ws v as SH 0 0 136 [some (rv 79), some (iv D), some (iv k), some (iv n), some (iv x), some (iv a), some (iv b), some (iv c), o8, o9, o10] [] M := by
  intro N
  induction N with
  | zero =>
    intro M c x st o8 o9 o10 hN
    exact absurd hN (Nat.not_lt_zero _)
  | succ N ih =>
    intro M c x st o8 o9 o10 hN g0 g1 g2 g3
    refine s_iload E dX8_dealt_136 rfl ?_
    refine s_if_lt E 313 dX8_dealt_138 (by decide) (by omega) (fun h138 => ?_) (fun h138 => ?_)
    · have e : st = F := by rw [← g3, show (c + 1).toNat = 0 by omega]; rfl
      subst e
      exact hret M x _ _ _ _ g1 g2
    · refine s_iload_n E dX8_dealt_141 rfl ?_
      refine s_iload E dX8_dealt_142 rfl ?_
      refine s_isub E dX8_dealt_144 ?_
      refine s_iload E dX8_dealt_145 rfl ?_
      refine s_isub E dX8_dealt_147 ?_
      refine s_iload E dX8_dealt_148 rfl ?_
      refine s_isub E dX8_dealt_150 ?_
      refine s_istore (ls' := [_, _, _, _, _, _, _, _, _, _, _]) E dX8_dealt_151 (Nat.le_of_ble_eq_true rfl) rfl ?_
      refine s_iload_n E dX8_dealt_153 rfl ?_
      refine s_iconst E dX8_dealt_154 ?_
      refine s_icmp_gt E 163 dX8_dealt_155 (by decide) (by omega) (by omega) (fun h155 => ?_) (fun h155 => ?_)
      · refine s_iload_n E dX8_dealt_163 rfl ?_
        refine s_iconst E dX8_dealt_164 ?_
        refine s_icmp_gt E 173 dX8_dealt_165 (by decide) (by omega) (by omega) (fun h165 => ?_) (fun h165 => ?_)
        · refine s_iload_n E dX8_dealt_173 rfl ?_
          refine s_iconst E dX8_dealt_174 ?_
          refine s_icmp_gt E 183 dX8_dealt_175 (by decide) (by omega) (by omega) (fun h175 => ?_) (fun h175 => ?_)
          · refine s_iconst E dX8_dealt_183 ?_
            refine s_goto E 188 dX8_dealt_184 (by decide) ?_
            refine s_istore (ls' := [_, _, _, _, _, _, _, _, _, _, _]) E dX8_dealt_188 (Nat.le_of_ble_eq_true rfl) rfl ?_
            refine s_iload E dX8_dealt_190 rfl ?_
            refine s_if_eq E 307 dX8_dealt_192 (by decide) (by omega) (fun h192 => ?_) (fun h192 => ?_)
            · exact absurd h192 (by decide)
            · refine s_iconst E dX8_dealt_195 ?_
              refine s_istore (ls' := [_, _, _, _, _, _, _, _, _, _, _]) E dX8_dealt_196 (Nat.le_of_ble_eq_true rfl) rfl ?_
              have hok : okP n b c (D - a - b - c) := ⟨by omega, by omega, by omega⟩
              refine lp_X8_dl198 M0 D k n hD hk hm hn hn4 a b c (D - a - b - c) x M g2.1 E (fun M2 o9 o10 a2 f2 => ?_) (n.toNat + 1) M 0 _ (by omega) (by omega) (fun i h1 h2 => by omega) (Fr.rf _ M)
              have har := av_rng (a := a) (b := b) (c := c) (d := D - a - b - c) (by omega) (by omega) (by omega) (by omega)
              have hA : AGM M2 (LA (M0 79 5) (mB M0) (mI M0) (av a b c (D - a - b - c))) := AGM_of hm (g2.1.tr (f2.sub (by decide))) (fun j h1 h2 => ⟨a2 j h1 (by omega), har j⟩)
              have e79 : M2 79 = M0 79 := by rw [f2 79 (by decide), g2.1 79 (by decide)]
              have e82 : M2 82 = M0 82 := by rw [f2 82 (by decide), g2.1 82 (by decide)]
              have eI : mI M2 = mI M0 := by unfold mI; rw [e82]
              have eE : mE M2 = mE M0 := by unfold mE; rw [e82]
              have hfr := full_rng (c := M0 79 5) ⟨hm.1.1, hm.1.2.1⟩
              have hTM := TM_rng hm
              have hbs := g2.2.2
              refine s_aload_n E dX8_dealt_256 rfl ?_
              refine s_iconst E dX8_dealt_257 ?_
              refine s_iconst E dX8_dealt_258 ?_
              refine s_callVi E (c_X8_leastFrom M2 (LA (M0 79 5) (mB M0) (mI M0) (av a b c (D - a - b - c))) 0 0 hA (by rw [e79]; omega) (by decide) 0 (by rw [e79, eI, tt_0 ⟨hm.1.1, hm.1.2.1⟩]; decide)) dX8_dealt_259 mf_X8_leastFrom ml_X8_136 rfl (Nat.le_of_ble_eq_true rfl) (Nat.le_of_ble_eq_true rfl) (by decide) sh79 rfl rfl (fun r259 M259 h259 => ?_)
              obtain ⟨a9, b9, d9⟩ := h259
              rw [e79, eI, eE] at a9
              have hQ : IsP (M0 79 5) (LA (M0 79 5) (mB M0) (mI M0) (av a b c (D - a - b - c))) (mE M0) (r259 - TM M0) := a9
              have hVs := VM_spec hm (a := av a b c (D - a - b - c)) (fun j _ _ => har j)
              have hr2 := IsP_small hm.1 (fun s m _ _ h3 h4 => (LA_rng (s := s) hm.1 (fun j _ _ => har j) ⟨h3, h4⟩).2) hQ
              have hV : r259 - TM M0 = VM M0 (av a b c (D - a - b - c)) := hQ.uniq hVs.2 (by omega) (by omega)
              have hFr : Fr [86, 87, 89] M0 M259 := (g2.1.tr (f2.sub (by decide))).tr (d9.sub (by decide))
              have h89 : M259 89 = M 89 := by rw [d9 89 (by decide), f2 89 (by decide)]
              refine s_istore (ls' := [_, _, _, _, _, _, _, _, _, _, _]) E dX8_dealt_262 (Nat.le_of_ble_eq_true rfl) rfl ?_
              refine s_iload E dX8_dealt_264 rfl ?_
              refine s_iload E dX8_dealt_266 rfl ?_
              refine s_icmp_ge E 307 dX8_dealt_268 (by decide) (by omega) (by omega) (fun h268 => ?_) (fun h268 => ?_)
              · refine s_iinc (ls' := [_, _, _, _, _, _, _, _, _, _, _]) E dX8_dealt_307 rfl rfl ?_
                refine s_goto E 136 dX8_dealt_310 (by decide) ?_
                refine ih _ _ _ _ _ _ _ (by omega) (by omega) g1 ⟨hFr, fun j q1 q2 => by rw [h89]; exact g2.2.1 j q1 q2, g2.2.2⟩ (eL_next (by omega) g3 ?_)
                unfold fC
                rw [bD_yes hok]
                unfold evD
                rw [if_neg (by omega)]
              · refine s_iload E dX8_dealt_271 rfl ?_
                refine s_istore (ls' := [_, _, _, _, _, _, _, _, _, _, _]) E dX8_dealt_273 (Nat.le_of_ble_eq_true rfl) rfl ?_
                refine s_aload_n E dX8_dealt_275 rfl ?_
                refine s_getR (kf := 16) E dX8_dealt_276 rfl inb_X8 (Nat.le_of_ble_eq_true rfl) fl_X8_44 (by decide) sh79 rfl ?_
                refine s_iconst E dX8_dealt_279 ?_
                refine s_iload E dX8_dealt_280 rfl ?_
                refine s_iast E dX8_dealt_282 (by decide) sh89 (Nat.le_of_ble_eq_true rfl) (by omega) ?_
                refine s_aload_n E dX8_dealt_283 rfl ?_
                refine s_getR (kf := 16) E dX8_dealt_284 rfl inb_X8 (Nat.le_of_ble_eq_true rfl) fl_X8_44 (by decide) sh79 rfl ?_
                refine s_iconst E dX8_dealt_287 ?_
                refine s_iload E dX8_dealt_288 rfl ?_
                refine s_iast E dX8_dealt_290 (by decide) sh89 (Nat.le_of_ble_eq_true rfl) (by omega) ?_
                refine s_aload_n E dX8_dealt_291 rfl ?_
                refine s_getR (kf := 16) E dX8_dealt_292 rfl inb_X8 (Nat.le_of_ble_eq_true rfl) fl_X8_44 (by decide) sh79 rfl ?_
                refine s_iconst E dX8_dealt_295 ?_
                refine s_iload E dX8_dealt_296 rfl ?_
                refine s_iast E dX8_dealt_298 (by decide) sh89 (Nat.le_of_ble_eq_true rfl) (by omega) ?_
                refine s_aload_n E dX8_dealt_299 rfl ?_
                refine s_getR (kf := 16) E dX8_dealt_300 rfl inb_X8 (Nat.le_of_ble_eq_true rfl) fl_X8_44 (by decide) sh79 rfl ?_
                refine s_iconst E dX8_dealt_303 ?_
                refine s_iload E dX8_dealt_304 rfl ?_
                refine s_iast E dX8_dealt_306 (by decide) sh89 (Nat.le_of_ble_eq_true rfl) (by omega) ?_
                refine s_iinc (ls' := [_, _, _, _, _, _, _, _, _, _, _]) E dX8_dealt_307 rfl rfl ?_
                refine s_goto E 136 dX8_dealt_310 (by decide) ?_
                refine ih _ _ _ (VM M0 (av a b c (D - a - b - c)), av a b c (D - a - b - c)) _ _ _ (by omega) (by omega) (by show r259 = TM M0 + VM M0 (av a b c (D - a - b - c)); omega) ⟨(((hFr.up (by decide)).up (by decide)).up (by decide)).up (by decide), fun j q1 q2 => ?_, hVs.1.1, by show TM M0 + VM M0 (av a b c (D - a - b - c)) ≤ 100000000; have := TM_rng hm; omega⟩ (eL_next (by omega) g3 ?_)
                · show _ = av a b c (D - a - b - c) j
                  unfold av updF
                  rcases (show j = 0 ∨ j = 1 ∨ j = 2 ∨ j = 3 by omega) with e | e | e | e <;> subst e
                  · rw [upm_ne (Or.inr (by decide)), upm_ne (Or.inr (by decide)), upm_ne (Or.inr (by decide)), upm_eq]
                    rfl
                  · rw [upm_ne (Or.inr (by decide)), upm_ne (Or.inr (by decide)), upm_eq]
                    rfl
                  · rw [upm_ne (Or.inr (by decide)), upm_eq]
                    rfl
                  · rw [upm_eq]
                    rfl
                · unfold fC
                  rw [bD_yes hok]
                  unfold evD
                  rw [if_pos (by omega)]
          · refine s_iload E dX8_dealt_178 rfl ?_
            refine s_if_ne E 187 dX8_dealt_180 (by decide) (by omega) (fun h180 => ?_) (fun h180 => ?_)
            · refine s_iconst E dX8_dealt_187 ?_
              refine s_istore (ls' := [_, _, _, _, _, _, _, _, _, _, _]) E dX8_dealt_188 (Nat.le_of_ble_eq_true rfl) rfl ?_
              refine s_iload E dX8_dealt_190 rfl ?_
              refine s_if_eq E 307 dX8_dealt_192 (by decide) (by omega) (fun h192 => ?_) (fun h192 => ?_)
              · refine s_iinc (ls' := [_, _, _, _, _, _, _, _, _, _, _]) E dX8_dealt_307 rfl rfl ?_
                refine s_goto E 136 dX8_dealt_310 (by decide) ?_
                refine ih _ _ _ _ _ _ _ (by omega) (by omega) g1 g2 (eL_next (by omega) g3 (bD_no (fun w => by have w1 := w.1; have w2 := w.2.1; have w3 := w.2.2; omega)))
              · exact absurd h192 (by decide)
            · refine s_iconst E dX8_dealt_183 ?_
              refine s_goto E 188 dX8_dealt_184 (by decide) ?_
              refine s_istore (ls' := [_, _, _, _, _, _, _, _, _, _, _]) E dX8_dealt_188 (Nat.le_of_ble_eq_true rfl) rfl ?_
              refine s_iload E dX8_dealt_190 rfl ?_
              refine s_if_eq E 307 dX8_dealt_192 (by decide) (by omega) (fun h192 => ?_) (fun h192 => ?_)
              · exact absurd h192 (by decide)
              · refine s_iconst E dX8_dealt_195 ?_
                refine s_istore (ls' := [_, _, _, _, _, _, _, _, _, _, _]) E dX8_dealt_196 (Nat.le_of_ble_eq_true rfl) rfl ?_
                have hok : okP n b c (D - a - b - c) := ⟨by omega, by omega, by omega⟩
                refine lp_X8_dl198 M0 D k n hD hk hm hn hn4 a b c (D - a - b - c) x M g2.1 E (fun M2 o9 o10 a2 f2 => ?_) (n.toNat + 1) M 0 _ (by omega) (by omega) (fun i h1 h2 => by omega) (Fr.rf _ M)
                have har := av_rng (a := a) (b := b) (c := c) (d := D - a - b - c) (by omega) (by omega) (by omega) (by omega)
                have hA : AGM M2 (LA (M0 79 5) (mB M0) (mI M0) (av a b c (D - a - b - c))) := AGM_of hm (g2.1.tr (f2.sub (by decide))) (fun j h1 h2 => ⟨a2 j h1 (by omega), har j⟩)
                have e79 : M2 79 = M0 79 := by rw [f2 79 (by decide), g2.1 79 (by decide)]
                have e82 : M2 82 = M0 82 := by rw [f2 82 (by decide), g2.1 82 (by decide)]
                have eI : mI M2 = mI M0 := by unfold mI; rw [e82]
                have eE : mE M2 = mE M0 := by unfold mE; rw [e82]
                have hfr := full_rng (c := M0 79 5) ⟨hm.1.1, hm.1.2.1⟩
                have hTM := TM_rng hm
                have hbs := g2.2.2
                refine s_aload_n E dX8_dealt_256 rfl ?_
                refine s_iconst E dX8_dealt_257 ?_
                refine s_iconst E dX8_dealt_258 ?_
                refine s_callVi E (c_X8_leastFrom M2 (LA (M0 79 5) (mB M0) (mI M0) (av a b c (D - a - b - c))) 0 0 hA (by rw [e79]; omega) (by decide) 0 (by rw [e79, eI, tt_0 ⟨hm.1.1, hm.1.2.1⟩]; decide)) dX8_dealt_259 mf_X8_leastFrom ml_X8_136 rfl (Nat.le_of_ble_eq_true rfl) (Nat.le_of_ble_eq_true rfl) (by decide) sh79 rfl rfl (fun r259 M259 h259 => ?_)
                obtain ⟨a9, b9, d9⟩ := h259
                rw [e79, eI, eE] at a9
                have hQ : IsP (M0 79 5) (LA (M0 79 5) (mB M0) (mI M0) (av a b c (D - a - b - c))) (mE M0) (r259 - TM M0) := a9
                have hVs := VM_spec hm (a := av a b c (D - a - b - c)) (fun j _ _ => har j)
                have hr2 := IsP_small hm.1 (fun s m _ _ h3 h4 => (LA_rng (s := s) hm.1 (fun j _ _ => har j) ⟨h3, h4⟩).2) hQ
                have hV : r259 - TM M0 = VM M0 (av a b c (D - a - b - c)) := hQ.uniq hVs.2 (by omega) (by omega)
                have hFr : Fr [86, 87, 89] M0 M259 := (g2.1.tr (f2.sub (by decide))).tr (d9.sub (by decide))
                have h89 : M259 89 = M 89 := by rw [d9 89 (by decide), f2 89 (by decide)]
                refine s_istore (ls' := [_, _, _, _, _, _, _, _, _, _, _]) E dX8_dealt_262 (Nat.le_of_ble_eq_true rfl) rfl ?_
                refine s_iload E dX8_dealt_264 rfl ?_
                refine s_iload E dX8_dealt_266 rfl ?_
                refine s_icmp_ge E 307 dX8_dealt_268 (by decide) (by omega) (by omega) (fun h268 => ?_) (fun h268 => ?_)
                · refine s_iinc (ls' := [_, _, _, _, _, _, _, _, _, _, _]) E dX8_dealt_307 rfl rfl ?_
                  refine s_goto E 136 dX8_dealt_310 (by decide) ?_
                  refine ih _ _ _ _ _ _ _ (by omega) (by omega) g1 ⟨hFr, fun j q1 q2 => by rw [h89]; exact g2.2.1 j q1 q2, g2.2.2⟩ (eL_next (by omega) g3 ?_)
                  unfold fC
                  rw [bD_yes hok]
                  unfold evD
                  rw [if_neg (by omega)]
                · refine s_iload E dX8_dealt_271 rfl ?_
                  refine s_istore (ls' := [_, _, _, _, _, _, _, _, _, _, _]) E dX8_dealt_273 (Nat.le_of_ble_eq_true rfl) rfl ?_
                  refine s_aload_n E dX8_dealt_275 rfl ?_
                  refine s_getR (kf := 16) E dX8_dealt_276 rfl inb_X8 (Nat.le_of_ble_eq_true rfl) fl_X8_44 (by decide) sh79 rfl ?_
                  refine s_iconst E dX8_dealt_279 ?_
                  refine s_iload E dX8_dealt_280 rfl ?_
                  refine s_iast E dX8_dealt_282 (by decide) sh89 (Nat.le_of_ble_eq_true rfl) (by omega) ?_
                  refine s_aload_n E dX8_dealt_283 rfl ?_
                  refine s_getR (kf := 16) E dX8_dealt_284 rfl inb_X8 (Nat.le_of_ble_eq_true rfl) fl_X8_44 (by decide) sh79 rfl ?_
                  refine s_iconst E dX8_dealt_287 ?_
                  refine s_iload E dX8_dealt_288 rfl ?_
                  refine s_iast E dX8_dealt_290 (by decide) sh89 (Nat.le_of_ble_eq_true rfl) (by omega) ?_
                  refine s_aload_n E dX8_dealt_291 rfl ?_
                  refine s_getR (kf := 16) E dX8_dealt_292 rfl inb_X8 (Nat.le_of_ble_eq_true rfl) fl_X8_44 (by decide) sh79 rfl ?_
                  refine s_iconst E dX8_dealt_295 ?_
                  refine s_iload E dX8_dealt_296 rfl ?_
                  refine s_iast E dX8_dealt_298 (by decide) sh89 (Nat.le_of_ble_eq_true rfl) (by omega) ?_
                  refine s_aload_n E dX8_dealt_299 rfl ?_
                  refine s_getR (kf := 16) E dX8_dealt_300 rfl inb_X8 (Nat.le_of_ble_eq_true rfl) fl_X8_44 (by decide) sh79 rfl ?_
                  refine s_iconst E dX8_dealt_303 ?_
                  refine s_iload E dX8_dealt_304 rfl ?_
                  refine s_iast E dX8_dealt_306 (by decide) sh89 (Nat.le_of_ble_eq_true rfl) (by omega) ?_
                  refine s_iinc (ls' := [_, _, _, _, _, _, _, _, _, _, _]) E dX8_dealt_307 rfl rfl ?_
                  refine s_goto E 136 dX8_dealt_310 (by decide) ?_
                  refine ih _ _ _ (VM M0 (av a b c (D - a - b - c)), av a b c (D - a - b - c)) _ _ _ (by omega) (by omega) (by show r259 = TM M0 + VM M0 (av a b c (D - a - b - c)); omega) ⟨(((hFr.up (by decide)).up (by decide)).up (by decide)).up (by decide), fun j q1 q2 => ?_, hVs.1.1, by show TM M0 + VM M0 (av a b c (D - a - b - c)) ≤ 100000000; have := TM_rng hm; omega⟩ (eL_next (by omega) g3 ?_)
                  · show _ = av a b c (D - a - b - c) j
                    unfold av updF
                    rcases (show j = 0 ∨ j = 1 ∨ j = 2 ∨ j = 3 by omega) with e | e | e | e <;> subst e
                    · rw [upm_ne (Or.inr (by decide)), upm_ne (Or.inr (by decide)), upm_ne (Or.inr (by decide)), upm_eq]
                      rfl
                    · rw [upm_ne (Or.inr (by decide)), upm_ne (Or.inr (by decide)), upm_eq]
                      rfl
                    · rw [upm_ne (Or.inr (by decide)), upm_eq]
                      rfl
                    · rw [upm_eq]
                      rfl
                  · unfold fC
                    rw [bD_yes hok]
                    unfold evD
                    rw [if_pos (by omega)]
        · refine s_iload E dX8_dealt_168 rfl ?_
          refine s_if_ne E 187 dX8_dealt_170 (by decide) (by omega) (fun h170 => ?_) (fun h170 => ?_)
          · refine s_iconst E dX8_dealt_187 ?_
            refine s_istore (ls' := [_, _, _, _, _, _, _, _, _, _, _]) E dX8_dealt_188 (Nat.le_of_ble_eq_true rfl) rfl ?_
            refine s_iload E dX8_dealt_190 rfl ?_
            refine s_if_eq E 307 dX8_dealt_192 (by decide) (by omega) (fun h192 => ?_) (fun h192 => ?_)
            · refine s_iinc (ls' := [_, _, _, _, _, _, _, _, _, _, _]) E dX8_dealt_307 rfl rfl ?_
              refine s_goto E 136 dX8_dealt_310 (by decide) ?_
              refine ih _ _ _ _ _ _ _ (by omega) (by omega) g1 g2 (eL_next (by omega) g3 (bD_no (fun w => by have w1 := w.1; have w2 := w.2.1; have w3 := w.2.2; omega)))
            · exact absurd h192 (by decide)
          · refine s_iload_n E dX8_dealt_173 rfl ?_
            refine s_iconst E dX8_dealt_174 ?_
            refine s_icmp_gt E 183 dX8_dealt_175 (by decide) (by omega) (by omega) (fun h175 => ?_) (fun h175 => ?_)
            · refine s_iconst E dX8_dealt_183 ?_
              refine s_goto E 188 dX8_dealt_184 (by decide) ?_
              refine s_istore (ls' := [_, _, _, _, _, _, _, _, _, _, _]) E dX8_dealt_188 (Nat.le_of_ble_eq_true rfl) rfl ?_
              refine s_iload E dX8_dealt_190 rfl ?_
              refine s_if_eq E 307 dX8_dealt_192 (by decide) (by omega) (fun h192 => ?_) (fun h192 => ?_)
              · exact absurd h192 (by decide)
              · refine s_iconst E dX8_dealt_195 ?_
                refine s_istore (ls' := [_, _, _, _, _, _, _, _, _, _, _]) E dX8_dealt_196 (Nat.le_of_ble_eq_true rfl) rfl ?_
                have hok : okP n b c (D - a - b - c) := ⟨by omega, by omega, by omega⟩
                refine lp_X8_dl198 M0 D k n hD hk hm hn hn4 a b c (D - a - b - c) x M g2.1 E (fun M2 o9 o10 a2 f2 => ?_) (n.toNat + 1) M 0 _ (by omega) (by omega) (fun i h1 h2 => by omega) (Fr.rf _ M)
                have har := av_rng (a := a) (b := b) (c := c) (d := D - a - b - c) (by omega) (by omega) (by omega) (by omega)
                have hA : AGM M2 (LA (M0 79 5) (mB M0) (mI M0) (av a b c (D - a - b - c))) := AGM_of hm (g2.1.tr (f2.sub (by decide))) (fun j h1 h2 => ⟨a2 j h1 (by omega), har j⟩)
                have e79 : M2 79 = M0 79 := by rw [f2 79 (by decide), g2.1 79 (by decide)]
                have e82 : M2 82 = M0 82 := by rw [f2 82 (by decide), g2.1 82 (by decide)]
                have eI : mI M2 = mI M0 := by unfold mI; rw [e82]
                have eE : mE M2 = mE M0 := by unfold mE; rw [e82]
                have hfr := full_rng (c := M0 79 5) ⟨hm.1.1, hm.1.2.1⟩
                have hTM := TM_rng hm
                have hbs := g2.2.2
                refine s_aload_n E dX8_dealt_256 rfl ?_
                refine s_iconst E dX8_dealt_257 ?_
                refine s_iconst E dX8_dealt_258 ?_
                refine s_callVi E (c_X8_leastFrom M2 (LA (M0 79 5) (mB M0) (mI M0) (av a b c (D - a - b - c))) 0 0 hA (by rw [e79]; omega) (by decide) 0 (by rw [e79, eI, tt_0 ⟨hm.1.1, hm.1.2.1⟩]; decide)) dX8_dealt_259 mf_X8_leastFrom ml_X8_136 rfl (Nat.le_of_ble_eq_true rfl) (Nat.le_of_ble_eq_true rfl) (by decide) sh79 rfl rfl (fun r259 M259 h259 => ?_)
                obtain ⟨a9, b9, d9⟩ := h259
                rw [e79, eI, eE] at a9
                have hQ : IsP (M0 79 5) (LA (M0 79 5) (mB M0) (mI M0) (av a b c (D - a - b - c))) (mE M0) (r259 - TM M0) := a9
                have hVs := VM_spec hm (a := av a b c (D - a - b - c)) (fun j _ _ => har j)
                have hr2 := IsP_small hm.1 (fun s m _ _ h3 h4 => (LA_rng (s := s) hm.1 (fun j _ _ => har j) ⟨h3, h4⟩).2) hQ
                have hV : r259 - TM M0 = VM M0 (av a b c (D - a - b - c)) := hQ.uniq hVs.2 (by omega) (by omega)
                have hFr : Fr [86, 87, 89] M0 M259 := (g2.1.tr (f2.sub (by decide))).tr (d9.sub (by decide))
                have h89 : M259 89 = M 89 := by rw [d9 89 (by decide), f2 89 (by decide)]
                refine s_istore (ls' := [_, _, _, _, _, _, _, _, _, _, _]) E dX8_dealt_262 (Nat.le_of_ble_eq_true rfl) rfl ?_
                refine s_iload E dX8_dealt_264 rfl ?_
                refine s_iload E dX8_dealt_266 rfl ?_
                refine s_icmp_ge E 307 dX8_dealt_268 (by decide) (by omega) (by omega) (fun h268 => ?_) (fun h268 => ?_)
                · refine s_iinc (ls' := [_, _, _, _, _, _, _, _, _, _, _]) E dX8_dealt_307 rfl rfl ?_
                  refine s_goto E 136 dX8_dealt_310 (by decide) ?_
                  refine ih _ _ _ _ _ _ _ (by omega) (by omega) g1 ⟨hFr, fun j q1 q2 => by rw [h89]; exact g2.2.1 j q1 q2, g2.2.2⟩ (eL_next (by omega) g3 ?_)
                  unfold fC
                  rw [bD_yes hok]
                  unfold evD
                  rw [if_neg (by omega)]
                · refine s_iload E dX8_dealt_271 rfl ?_
                  refine s_istore (ls' := [_, _, _, _, _, _, _, _, _, _, _]) E dX8_dealt_273 (Nat.le_of_ble_eq_true rfl) rfl ?_
                  refine s_aload_n E dX8_dealt_275 rfl ?_
                  refine s_getR (kf := 16) E dX8_dealt_276 rfl inb_X8 (Nat.le_of_ble_eq_true rfl) fl_X8_44 (by decide) sh79 rfl ?_
                  refine s_iconst E dX8_dealt_279 ?_
                  refine s_iload E dX8_dealt_280 rfl ?_
                  refine s_iast E dX8_dealt_282 (by decide) sh89 (Nat.le_of_ble_eq_true rfl) (by omega) ?_
                  refine s_aload_n E dX8_dealt_283 rfl ?_
                  refine s_getR (kf := 16) E dX8_dealt_284 rfl inb_X8 (Nat.le_of_ble_eq_true rfl) fl_X8_44 (by decide) sh79 rfl ?_
                  refine s_iconst E dX8_dealt_287 ?_
                  refine s_iload E dX8_dealt_288 rfl ?_
                  refine s_iast E dX8_dealt_290 (by decide) sh89 (Nat.le_of_ble_eq_true rfl) (by omega) ?_
                  refine s_aload_n E dX8_dealt_291 rfl ?_
                  refine s_getR (kf := 16) E dX8_dealt_292 rfl inb_X8 (Nat.le_of_ble_eq_true rfl) fl_X8_44 (by decide) sh79 rfl ?_
                  refine s_iconst E dX8_dealt_295 ?_
                  refine s_iload E dX8_dealt_296 rfl ?_
                  refine s_iast E dX8_dealt_298 (by decide) sh89 (Nat.le_of_ble_eq_true rfl) (by omega) ?_
                  refine s_aload_n E dX8_dealt_299 rfl ?_
                  refine s_getR (kf := 16) E dX8_dealt_300 rfl inb_X8 (Nat.le_of_ble_eq_true rfl) fl_X8_44 (by decide) sh79 rfl ?_
                  refine s_iconst E dX8_dealt_303 ?_
                  refine s_iload E dX8_dealt_304 rfl ?_
                  refine s_iast E dX8_dealt_306 (by decide) sh89 (Nat.le_of_ble_eq_true rfl) (by omega) ?_
                  refine s_iinc (ls' := [_, _, _, _, _, _, _, _, _, _, _]) E dX8_dealt_307 rfl rfl ?_
                  refine s_goto E 136 dX8_dealt_310 (by decide) ?_
                  refine ih _ _ _ (VM M0 (av a b c (D - a - b - c)), av a b c (D - a - b - c)) _ _ _ (by omega) (by omega) (by show r259 = TM M0 + VM M0 (av a b c (D - a - b - c)); omega) ⟨(((hFr.up (by decide)).up (by decide)).up (by decide)).up (by decide), fun j q1 q2 => ?_, hVs.1.1, by show TM M0 + VM M0 (av a b c (D - a - b - c)) ≤ 100000000; have := TM_rng hm; omega⟩ (eL_next (by omega) g3 ?_)
                  · show _ = av a b c (D - a - b - c) j
                    unfold av updF
                    rcases (show j = 0 ∨ j = 1 ∨ j = 2 ∨ j = 3 by omega) with e | e | e | e <;> subst e
                    · rw [upm_ne (Or.inr (by decide)), upm_ne (Or.inr (by decide)), upm_ne (Or.inr (by decide)), upm_eq]
                      rfl
                    · rw [upm_ne (Or.inr (by decide)), upm_ne (Or.inr (by decide)), upm_eq]
                      rfl
                    · rw [upm_ne (Or.inr (by decide)), upm_eq]
                      rfl
                    · rw [upm_eq]
                      rfl
                  · unfold fC
                    rw [bD_yes hok]
                    unfold evD
                    rw [if_pos (by omega)]
            · refine s_iload E dX8_dealt_178 rfl ?_
              refine s_if_ne E 187 dX8_dealt_180 (by decide) (by omega) (fun h180 => ?_) (fun h180 => ?_)
              · refine s_iconst E dX8_dealt_187 ?_
                refine s_istore (ls' := [_, _, _, _, _, _, _, _, _, _, _]) E dX8_dealt_188 (Nat.le_of_ble_eq_true rfl) rfl ?_
                refine s_iload E dX8_dealt_190 rfl ?_
                refine s_if_eq E 307 dX8_dealt_192 (by decide) (by omega) (fun h192 => ?_) (fun h192 => ?_)
                · refine s_iinc (ls' := [_, _, _, _, _, _, _, _, _, _, _]) E dX8_dealt_307 rfl rfl ?_
                  refine s_goto E 136 dX8_dealt_310 (by decide) ?_
                  refine ih _ _ _ _ _ _ _ (by omega) (by omega) g1 g2 (eL_next (by omega) g3 (bD_no (fun w => by have w1 := w.1; have w2 := w.2.1; have w3 := w.2.2; omega)))
                · exact absurd h192 (by decide)
              · refine s_iconst E dX8_dealt_183 ?_
                refine s_goto E 188 dX8_dealt_184 (by decide) ?_
                refine s_istore (ls' := [_, _, _, _, _, _, _, _, _, _, _]) E dX8_dealt_188 (Nat.le_of_ble_eq_true rfl) rfl ?_
                refine s_iload E dX8_dealt_190 rfl ?_
                refine s_if_eq E 307 dX8_dealt_192 (by decide) (by omega) (fun h192 => ?_) (fun h192 => ?_)
                · exact absurd h192 (by decide)
                · refine s_iconst E dX8_dealt_195 ?_
                  refine s_istore (ls' := [_, _, _, _, _, _, _, _, _, _, _]) E dX8_dealt_196 (Nat.le_of_ble_eq_true rfl) rfl ?_
                  have hok : okP n b c (D - a - b - c) := ⟨by omega, by omega, by omega⟩
                  refine lp_X8_dl198 M0 D k n hD hk hm hn hn4 a b c (D - a - b - c) x M g2.1 E (fun M2 o9 o10 a2 f2 => ?_) (n.toNat + 1) M 0 _ (by omega) (by omega) (fun i h1 h2 => by omega) (Fr.rf _ M)
                  have har := av_rng (a := a) (b := b) (c := c) (d := D - a - b - c) (by omega) (by omega) (by omega) (by omega)
                  have hA : AGM M2 (LA (M0 79 5) (mB M0) (mI M0) (av a b c (D - a - b - c))) := AGM_of hm (g2.1.tr (f2.sub (by decide))) (fun j h1 h2 => ⟨a2 j h1 (by omega), har j⟩)
                  have e79 : M2 79 = M0 79 := by rw [f2 79 (by decide), g2.1 79 (by decide)]
                  have e82 : M2 82 = M0 82 := by rw [f2 82 (by decide), g2.1 82 (by decide)]
                  have eI : mI M2 = mI M0 := by unfold mI; rw [e82]
                  have eE : mE M2 = mE M0 := by unfold mE; rw [e82]
                  have hfr := full_rng (c := M0 79 5) ⟨hm.1.1, hm.1.2.1⟩
                  have hTM := TM_rng hm
                  have hbs := g2.2.2
                  refine s_aload_n E dX8_dealt_256 rfl ?_
                  refine s_iconst E dX8_dealt_257 ?_
                  refine s_iconst E dX8_dealt_258 ?_
                  refine s_callVi E (c_X8_leastFrom M2 (LA (M0 79 5) (mB M0) (mI M0) (av a b c (D - a - b - c))) 0 0 hA (by rw [e79]; omega) (by decide) 0 (by rw [e79, eI, tt_0 ⟨hm.1.1, hm.1.2.1⟩]; decide)) dX8_dealt_259 mf_X8_leastFrom ml_X8_136 rfl (Nat.le_of_ble_eq_true rfl) (Nat.le_of_ble_eq_true rfl) (by decide) sh79 rfl rfl (fun r259 M259 h259 => ?_)
                  obtain ⟨a9, b9, d9⟩ := h259
                  rw [e79, eI, eE] at a9
                  have hQ : IsP (M0 79 5) (LA (M0 79 5) (mB M0) (mI M0) (av a b c (D - a - b - c))) (mE M0) (r259 - TM M0) := a9
                  have hVs := VM_spec hm (a := av a b c (D - a - b - c)) (fun j _ _ => har j)
                  have hr2 := IsP_small hm.1 (fun s m _ _ h3 h4 => (LA_rng (s := s) hm.1 (fun j _ _ => har j) ⟨h3, h4⟩).2) hQ
                  have hV : r259 - TM M0 = VM M0 (av a b c (D - a - b - c)) := hQ.uniq hVs.2 (by omega) (by omega)
                  have hFr : Fr [86, 87, 89] M0 M259 := (g2.1.tr (f2.sub (by decide))).tr (d9.sub (by decide))
                  have h89 : M259 89 = M 89 := by rw [d9 89 (by decide), f2 89 (by decide)]
                  refine s_istore (ls' := [_, _, _, _, _, _, _, _, _, _, _]) E dX8_dealt_262 (Nat.le_of_ble_eq_true rfl) rfl ?_
                  refine s_iload E dX8_dealt_264 rfl ?_
                  refine s_iload E dX8_dealt_266 rfl ?_
                  refine s_icmp_ge E 307 dX8_dealt_268 (by decide) (by omega) (by omega) (fun h268 => ?_) (fun h268 => ?_)
                  · refine s_iinc (ls' := [_, _, _, _, _, _, _, _, _, _, _]) E dX8_dealt_307 rfl rfl ?_
                    refine s_goto E 136 dX8_dealt_310 (by decide) ?_
                    refine ih _ _ _ _ _ _ _ (by omega) (by omega) g1 ⟨hFr, fun j q1 q2 => by rw [h89]; exact g2.2.1 j q1 q2, g2.2.2⟩ (eL_next (by omega) g3 ?_)
                    unfold fC
                    rw [bD_yes hok]
                    unfold evD
                    rw [if_neg (by omega)]
                  · refine s_iload E dX8_dealt_271 rfl ?_
                    refine s_istore (ls' := [_, _, _, _, _, _, _, _, _, _, _]) E dX8_dealt_273 (Nat.le_of_ble_eq_true rfl) rfl ?_
                    refine s_aload_n E dX8_dealt_275 rfl ?_
                    refine s_getR (kf := 16) E dX8_dealt_276 rfl inb_X8 (Nat.le_of_ble_eq_true rfl) fl_X8_44 (by decide) sh79 rfl ?_
                    refine s_iconst E dX8_dealt_279 ?_
                    refine s_iload E dX8_dealt_280 rfl ?_
                    refine s_iast E dX8_dealt_282 (by decide) sh89 (Nat.le_of_ble_eq_true rfl) (by omega) ?_
                    refine s_aload_n E dX8_dealt_283 rfl ?_
                    refine s_getR (kf := 16) E dX8_dealt_284 rfl inb_X8 (Nat.le_of_ble_eq_true rfl) fl_X8_44 (by decide) sh79 rfl ?_
                    refine s_iconst E dX8_dealt_287 ?_
                    refine s_iload E dX8_dealt_288 rfl ?_
                    refine s_iast E dX8_dealt_290 (by decide) sh89 (Nat.le_of_ble_eq_true rfl) (by omega) ?_
                    refine s_aload_n E dX8_dealt_291 rfl ?_
                    refine s_getR (kf := 16) E dX8_dealt_292 rfl inb_X8 (Nat.le_of_ble_eq_true rfl) fl_X8_44 (by decide) sh79 rfl ?_
                    refine s_iconst E dX8_dealt_295 ?_
                    refine s_iload E dX8_dealt_296 rfl ?_
                    refine s_iast E dX8_dealt_298 (by decide) sh89 (Nat.le_of_ble_eq_true rfl) (by omega) ?_
                    refine s_aload_n E dX8_dealt_299 rfl ?_
                    refine s_getR (kf := 16) E dX8_dealt_300 rfl inb_X8 (Nat.le_of_ble_eq_true rfl) fl_X8_44 (by decide) sh79 rfl ?_
                    refine s_iconst E dX8_dealt_303 ?_
                    refine s_iload E dX8_dealt_304 rfl ?_
                    refine s_iast E dX8_dealt_306 (by decide) sh89 (Nat.le_of_ble_eq_true rfl) (by omega) ?_
                    refine s_iinc (ls' := [_, _, _, _, _, _, _, _, _, _, _]) E dX8_dealt_307 rfl rfl ?_
                    refine s_goto E 136 dX8_dealt_310 (by decide) ?_
                    refine ih _ _ _ (VM M0 (av a b c (D - a - b - c)), av a b c (D - a - b - c)) _ _ _ (by omega) (by omega) (by show r259 = TM M0 + VM M0 (av a b c (D - a - b - c)); omega) ⟨(((hFr.up (by decide)).up (by decide)).up (by decide)).up (by decide), fun j q1 q2 => ?_, hVs.1.1, by show TM M0 + VM M0 (av a b c (D - a - b - c)) ≤ 100000000; have := TM_rng hm; omega⟩ (eL_next (by omega) g3 ?_)
                    · show _ = av a b c (D - a - b - c) j
                      unfold av updF
                      rcases (show j = 0 ∨ j = 1 ∨ j = 2 ∨ j = 3 by omega) with e | e | e | e <;> subst e
                      · rw [upm_ne (Or.inr (by decide)), upm_ne (Or.inr (by decide)), upm_ne (Or.inr (by decide)), upm_eq]
                        rfl
                      · rw [upm_ne (Or.inr (by decide)), upm_ne (Or.inr (by decide)), upm_eq]
                        rfl
                      · rw [upm_ne (Or.inr (by decide)), upm_eq]
                        rfl
                      · rw [upm_eq]
                        rfl
                    · unfold fC
                      rw [bD_yes hok]
                      unfold evD
                      rw [if_pos (by omega)]
      · refine s_iload E dX8_dealt_158 rfl ?_
        refine s_if_ne E 187 dX8_dealt_160 (by decide) (by omega) (fun h160 => ?_) (fun h160 => ?_)
        · refine s_iconst E dX8_dealt_187 ?_
          refine s_istore (ls' := [_, _, _, _, _, _, _, _, _, _, _]) E dX8_dealt_188 (Nat.le_of_ble_eq_true rfl) rfl ?_
          refine s_iload E dX8_dealt_190 rfl ?_
          refine s_if_eq E 307 dX8_dealt_192 (by decide) (by omega) (fun h192 => ?_) (fun h192 => ?_)
          · refine s_iinc (ls' := [_, _, _, _, _, _, _, _, _, _, _]) E dX8_dealt_307 rfl rfl ?_
            refine s_goto E 136 dX8_dealt_310 (by decide) ?_
            refine ih _ _ _ _ _ _ _ (by omega) (by omega) g1 g2 (eL_next (by omega) g3 (bD_no (fun w => by have w1 := w.1; have w2 := w.2.1; have w3 := w.2.2; omega)))
          · exact absurd h192 (by decide)
        · refine s_iload_n E dX8_dealt_163 rfl ?_
          refine s_iconst E dX8_dealt_164 ?_
          refine s_icmp_gt E 173 dX8_dealt_165 (by decide) (by omega) (by omega) (fun h165 => ?_) (fun h165 => ?_)
          · refine s_iload_n E dX8_dealt_173 rfl ?_
            refine s_iconst E dX8_dealt_174 ?_
            refine s_icmp_gt E 183 dX8_dealt_175 (by decide) (by omega) (by omega) (fun h175 => ?_) (fun h175 => ?_)
            · refine s_iconst E dX8_dealt_183 ?_
              refine s_goto E 188 dX8_dealt_184 (by decide) ?_
              refine s_istore (ls' := [_, _, _, _, _, _, _, _, _, _, _]) E dX8_dealt_188 (Nat.le_of_ble_eq_true rfl) rfl ?_
              refine s_iload E dX8_dealt_190 rfl ?_
              refine s_if_eq E 307 dX8_dealt_192 (by decide) (by omega) (fun h192 => ?_) (fun h192 => ?_)
              · exact absurd h192 (by decide)
              · refine s_iconst E dX8_dealt_195 ?_
                refine s_istore (ls' := [_, _, _, _, _, _, _, _, _, _, _]) E dX8_dealt_196 (Nat.le_of_ble_eq_true rfl) rfl ?_
                have hok : okP n b c (D - a - b - c) := ⟨by omega, by omega, by omega⟩
                refine lp_X8_dl198 M0 D k n hD hk hm hn hn4 a b c (D - a - b - c) x M g2.1 E (fun M2 o9 o10 a2 f2 => ?_) (n.toNat + 1) M 0 _ (by omega) (by omega) (fun i h1 h2 => by omega) (Fr.rf _ M)
                have har := av_rng (a := a) (b := b) (c := c) (d := D - a - b - c) (by omega) (by omega) (by omega) (by omega)
                have hA : AGM M2 (LA (M0 79 5) (mB M0) (mI M0) (av a b c (D - a - b - c))) := AGM_of hm (g2.1.tr (f2.sub (by decide))) (fun j h1 h2 => ⟨a2 j h1 (by omega), har j⟩)
                have e79 : M2 79 = M0 79 := by rw [f2 79 (by decide), g2.1 79 (by decide)]
                have e82 : M2 82 = M0 82 := by rw [f2 82 (by decide), g2.1 82 (by decide)]
                have eI : mI M2 = mI M0 := by unfold mI; rw [e82]
                have eE : mE M2 = mE M0 := by unfold mE; rw [e82]
                have hfr := full_rng (c := M0 79 5) ⟨hm.1.1, hm.1.2.1⟩
                have hTM := TM_rng hm
                have hbs := g2.2.2
                refine s_aload_n E dX8_dealt_256 rfl ?_
                refine s_iconst E dX8_dealt_257 ?_
                refine s_iconst E dX8_dealt_258 ?_
                refine s_callVi E (c_X8_leastFrom M2 (LA (M0 79 5) (mB M0) (mI M0) (av a b c (D - a - b - c))) 0 0 hA (by rw [e79]; omega) (by decide) 0 (by rw [e79, eI, tt_0 ⟨hm.1.1, hm.1.2.1⟩]; decide)) dX8_dealt_259 mf_X8_leastFrom ml_X8_136 rfl (Nat.le_of_ble_eq_true rfl) (Nat.le_of_ble_eq_true rfl) (by decide) sh79 rfl rfl (fun r259 M259 h259 => ?_)
                obtain ⟨a9, b9, d9⟩ := h259
                rw [e79, eI, eE] at a9
                have hQ : IsP (M0 79 5) (LA (M0 79 5) (mB M0) (mI M0) (av a b c (D - a - b - c))) (mE M0) (r259 - TM M0) := a9
                have hVs := VM_spec hm (a := av a b c (D - a - b - c)) (fun j _ _ => har j)
                have hr2 := IsP_small hm.1 (fun s m _ _ h3 h4 => (LA_rng (s := s) hm.1 (fun j _ _ => har j) ⟨h3, h4⟩).2) hQ
                have hV : r259 - TM M0 = VM M0 (av a b c (D - a - b - c)) := hQ.uniq hVs.2 (by omega) (by omega)
                have hFr : Fr [86, 87, 89] M0 M259 := (g2.1.tr (f2.sub (by decide))).tr (d9.sub (by decide))
                have h89 : M259 89 = M 89 := by rw [d9 89 (by decide), f2 89 (by decide)]
                refine s_istore (ls' := [_, _, _, _, _, _, _, _, _, _, _]) E dX8_dealt_262 (Nat.le_of_ble_eq_true rfl) rfl ?_
                refine s_iload E dX8_dealt_264 rfl ?_
                refine s_iload E dX8_dealt_266 rfl ?_
                refine s_icmp_ge E 307 dX8_dealt_268 (by decide) (by omega) (by omega) (fun h268 => ?_) (fun h268 => ?_)
                · refine s_iinc (ls' := [_, _, _, _, _, _, _, _, _, _, _]) E dX8_dealt_307 rfl rfl ?_
                  refine s_goto E 136 dX8_dealt_310 (by decide) ?_
                  refine ih _ _ _ _ _ _ _ (by omega) (by omega) g1 ⟨hFr, fun j q1 q2 => by rw [h89]; exact g2.2.1 j q1 q2, g2.2.2⟩ (eL_next (by omega) g3 ?_)
                  unfold fC
                  rw [bD_yes hok]
                  unfold evD
                  rw [if_neg (by omega)]
                · refine s_iload E dX8_dealt_271 rfl ?_
                  refine s_istore (ls' := [_, _, _, _, _, _, _, _, _, _, _]) E dX8_dealt_273 (Nat.le_of_ble_eq_true rfl) rfl ?_
                  refine s_aload_n E dX8_dealt_275 rfl ?_
                  refine s_getR (kf := 16) E dX8_dealt_276 rfl inb_X8 (Nat.le_of_ble_eq_true rfl) fl_X8_44 (by decide) sh79 rfl ?_
                  refine s_iconst E dX8_dealt_279 ?_
                  refine s_iload E dX8_dealt_280 rfl ?_
                  refine s_iast E dX8_dealt_282 (by decide) sh89 (Nat.le_of_ble_eq_true rfl) (by omega) ?_
                  refine s_aload_n E dX8_dealt_283 rfl ?_
                  refine s_getR (kf := 16) E dX8_dealt_284 rfl inb_X8 (Nat.le_of_ble_eq_true rfl) fl_X8_44 (by decide) sh79 rfl ?_
                  refine s_iconst E dX8_dealt_287 ?_
                  refine s_iload E dX8_dealt_288 rfl ?_
                  refine s_iast E dX8_dealt_290 (by decide) sh89 (Nat.le_of_ble_eq_true rfl) (by omega) ?_
                  refine s_aload_n E dX8_dealt_291 rfl ?_
                  refine s_getR (kf := 16) E dX8_dealt_292 rfl inb_X8 (Nat.le_of_ble_eq_true rfl) fl_X8_44 (by decide) sh79 rfl ?_
                  refine s_iconst E dX8_dealt_295 ?_
                  refine s_iload E dX8_dealt_296 rfl ?_
                  refine s_iast E dX8_dealt_298 (by decide) sh89 (Nat.le_of_ble_eq_true rfl) (by omega) ?_
                  refine s_aload_n E dX8_dealt_299 rfl ?_
                  refine s_getR (kf := 16) E dX8_dealt_300 rfl inb_X8 (Nat.le_of_ble_eq_true rfl) fl_X8_44 (by decide) sh79 rfl ?_
                  refine s_iconst E dX8_dealt_303 ?_
                  refine s_iload E dX8_dealt_304 rfl ?_
                  refine s_iast E dX8_dealt_306 (by decide) sh89 (Nat.le_of_ble_eq_true rfl) (by omega) ?_
                  refine s_iinc (ls' := [_, _, _, _, _, _, _, _, _, _, _]) E dX8_dealt_307 rfl rfl ?_
                  refine s_goto E 136 dX8_dealt_310 (by decide) ?_
                  refine ih _ _ _ (VM M0 (av a b c (D - a - b - c)), av a b c (D - a - b - c)) _ _ _ (by omega) (by omega) (by show r259 = TM M0 + VM M0 (av a b c (D - a - b - c)); omega) ⟨(((hFr.up (by decide)).up (by decide)).up (by decide)).up (by decide), fun j q1 q2 => ?_, hVs.1.1, by show TM M0 + VM M0 (av a b c (D - a - b - c)) ≤ 100000000; have := TM_rng hm; omega⟩ (eL_next (by omega) g3 ?_)
                  · show _ = av a b c (D - a - b - c) j
                    unfold av updF
                    rcases (show j = 0 ∨ j = 1 ∨ j = 2 ∨ j = 3 by omega) with e | e | e | e <;> subst e
                    · rw [upm_ne (Or.inr (by decide)), upm_ne (Or.inr (by decide)), upm_ne (Or.inr (by decide)), upm_eq]
                      rfl
                    · rw [upm_ne (Or.inr (by decide)), upm_ne (Or.inr (by decide)), upm_eq]
                      rfl
                    · rw [upm_ne (Or.inr (by decide)), upm_eq]
                      rfl
                    · rw [upm_eq]
                      rfl
                  · unfold fC
                    rw [bD_yes hok]
                    unfold evD
                    rw [if_pos (by omega)]
            · refine s_iload E dX8_dealt_178 rfl ?_
              refine s_if_ne E 187 dX8_dealt_180 (by decide) (by omega) (fun h180 => ?_) (fun h180 => ?_)
              · refine s_iconst E dX8_dealt_187 ?_
                refine s_istore (ls' := [_, _, _, _, _, _, _, _, _, _, _]) E dX8_dealt_188 (Nat.le_of_ble_eq_true rfl) rfl ?_
                refine s_iload E dX8_dealt_190 rfl ?_
                refine s_if_eq E 307 dX8_dealt_192 (by decide) (by omega) (fun h192 => ?_) (fun h192 => ?_)
                · refine s_iinc (ls' := [_, _, _, _, _, _, _, _, _, _, _]) E dX8_dealt_307 rfl rfl ?_
                  refine s_goto E 136 dX8_dealt_310 (by decide) ?_
                  refine ih _ _ _ _ _ _ _ (by omega) (by omega) g1 g2 (eL_next (by omega) g3 (bD_no (fun w => by have w1 := w.1; have w2 := w.2.1; have w3 := w.2.2; omega)))
                · exact absurd h192 (by decide)
              · refine s_iconst E dX8_dealt_183 ?_
                refine s_goto E 188 dX8_dealt_184 (by decide) ?_
                refine s_istore (ls' := [_, _, _, _, _, _, _, _, _, _, _]) E dX8_dealt_188 (Nat.le_of_ble_eq_true rfl) rfl ?_
                refine s_iload E dX8_dealt_190 rfl ?_
                refine s_if_eq E 307 dX8_dealt_192 (by decide) (by omega) (fun h192 => ?_) (fun h192 => ?_)
                · exact absurd h192 (by decide)
                · refine s_iconst E dX8_dealt_195 ?_
                  refine s_istore (ls' := [_, _, _, _, _, _, _, _, _, _, _]) E dX8_dealt_196 (Nat.le_of_ble_eq_true rfl) rfl ?_
                  have hok : okP n b c (D - a - b - c) := ⟨by omega, by omega, by omega⟩
                  refine lp_X8_dl198 M0 D k n hD hk hm hn hn4 a b c (D - a - b - c) x M g2.1 E (fun M2 o9 o10 a2 f2 => ?_) (n.toNat + 1) M 0 _ (by omega) (by omega) (fun i h1 h2 => by omega) (Fr.rf _ M)
                  have har := av_rng (a := a) (b := b) (c := c) (d := D - a - b - c) (by omega) (by omega) (by omega) (by omega)
                  have hA : AGM M2 (LA (M0 79 5) (mB M0) (mI M0) (av a b c (D - a - b - c))) := AGM_of hm (g2.1.tr (f2.sub (by decide))) (fun j h1 h2 => ⟨a2 j h1 (by omega), har j⟩)
                  have e79 : M2 79 = M0 79 := by rw [f2 79 (by decide), g2.1 79 (by decide)]
                  have e82 : M2 82 = M0 82 := by rw [f2 82 (by decide), g2.1 82 (by decide)]
                  have eI : mI M2 = mI M0 := by unfold mI; rw [e82]
                  have eE : mE M2 = mE M0 := by unfold mE; rw [e82]
                  have hfr := full_rng (c := M0 79 5) ⟨hm.1.1, hm.1.2.1⟩
                  have hTM := TM_rng hm
                  have hbs := g2.2.2
                  refine s_aload_n E dX8_dealt_256 rfl ?_
                  refine s_iconst E dX8_dealt_257 ?_
                  refine s_iconst E dX8_dealt_258 ?_
                  refine s_callVi E (c_X8_leastFrom M2 (LA (M0 79 5) (mB M0) (mI M0) (av a b c (D - a - b - c))) 0 0 hA (by rw [e79]; omega) (by decide) 0 (by rw [e79, eI, tt_0 ⟨hm.1.1, hm.1.2.1⟩]; decide)) dX8_dealt_259 mf_X8_leastFrom ml_X8_136 rfl (Nat.le_of_ble_eq_true rfl) (Nat.le_of_ble_eq_true rfl) (by decide) sh79 rfl rfl (fun r259 M259 h259 => ?_)
                  obtain ⟨a9, b9, d9⟩ := h259
                  rw [e79, eI, eE] at a9
                  have hQ : IsP (M0 79 5) (LA (M0 79 5) (mB M0) (mI M0) (av a b c (D - a - b - c))) (mE M0) (r259 - TM M0) := a9
                  have hVs := VM_spec hm (a := av a b c (D - a - b - c)) (fun j _ _ => har j)
                  have hr2 := IsP_small hm.1 (fun s m _ _ h3 h4 => (LA_rng (s := s) hm.1 (fun j _ _ => har j) ⟨h3, h4⟩).2) hQ
                  have hV : r259 - TM M0 = VM M0 (av a b c (D - a - b - c)) := hQ.uniq hVs.2 (by omega) (by omega)
                  have hFr : Fr [86, 87, 89] M0 M259 := (g2.1.tr (f2.sub (by decide))).tr (d9.sub (by decide))
                  have h89 : M259 89 = M 89 := by rw [d9 89 (by decide), f2 89 (by decide)]
                  refine s_istore (ls' := [_, _, _, _, _, _, _, _, _, _, _]) E dX8_dealt_262 (Nat.le_of_ble_eq_true rfl) rfl ?_
                  refine s_iload E dX8_dealt_264 rfl ?_
                  refine s_iload E dX8_dealt_266 rfl ?_
                  refine s_icmp_ge E 307 dX8_dealt_268 (by decide) (by omega) (by omega) (fun h268 => ?_) (fun h268 => ?_)
                  · refine s_iinc (ls' := [_, _, _, _, _, _, _, _, _, _, _]) E dX8_dealt_307 rfl rfl ?_
                    refine s_goto E 136 dX8_dealt_310 (by decide) ?_
                    refine ih _ _ _ _ _ _ _ (by omega) (by omega) g1 ⟨hFr, fun j q1 q2 => by rw [h89]; exact g2.2.1 j q1 q2, g2.2.2⟩ (eL_next (by omega) g3 ?_)
                    unfold fC
                    rw [bD_yes hok]
                    unfold evD
                    rw [if_neg (by omega)]
                  · refine s_iload E dX8_dealt_271 rfl ?_
                    refine s_istore (ls' := [_, _, _, _, _, _, _, _, _, _, _]) E dX8_dealt_273 (Nat.le_of_ble_eq_true rfl) rfl ?_
                    refine s_aload_n E dX8_dealt_275 rfl ?_
                    refine s_getR (kf := 16) E dX8_dealt_276 rfl inb_X8 (Nat.le_of_ble_eq_true rfl) fl_X8_44 (by decide) sh79 rfl ?_
                    refine s_iconst E dX8_dealt_279 ?_
                    refine s_iload E dX8_dealt_280 rfl ?_
                    refine s_iast E dX8_dealt_282 (by decide) sh89 (Nat.le_of_ble_eq_true rfl) (by omega) ?_
                    refine s_aload_n E dX8_dealt_283 rfl ?_
                    refine s_getR (kf := 16) E dX8_dealt_284 rfl inb_X8 (Nat.le_of_ble_eq_true rfl) fl_X8_44 (by decide) sh79 rfl ?_
                    refine s_iconst E dX8_dealt_287 ?_
                    refine s_iload E dX8_dealt_288 rfl ?_
                    refine s_iast E dX8_dealt_290 (by decide) sh89 (Nat.le_of_ble_eq_true rfl) (by omega) ?_
                    refine s_aload_n E dX8_dealt_291 rfl ?_
                    refine s_getR (kf := 16) E dX8_dealt_292 rfl inb_X8 (Nat.le_of_ble_eq_true rfl) fl_X8_44 (by decide) sh79 rfl ?_
                    refine s_iconst E dX8_dealt_295 ?_
                    refine s_iload E dX8_dealt_296 rfl ?_
                    refine s_iast E dX8_dealt_298 (by decide) sh89 (Nat.le_of_ble_eq_true rfl) (by omega) ?_
                    refine s_aload_n E dX8_dealt_299 rfl ?_
                    refine s_getR (kf := 16) E dX8_dealt_300 rfl inb_X8 (Nat.le_of_ble_eq_true rfl) fl_X8_44 (by decide) sh79 rfl ?_
                    refine s_iconst E dX8_dealt_303 ?_
                    refine s_iload E dX8_dealt_304 rfl ?_
                    refine s_iast E dX8_dealt_306 (by decide) sh89 (Nat.le_of_ble_eq_true rfl) (by omega) ?_
                    refine s_iinc (ls' := [_, _, _, _, _, _, _, _, _, _, _]) E dX8_dealt_307 rfl rfl ?_
                    refine s_goto E 136 dX8_dealt_310 (by decide) ?_
                    refine ih _ _ _ (VM M0 (av a b c (D - a - b - c)), av a b c (D - a - b - c)) _ _ _ (by omega) (by omega) (by show r259 = TM M0 + VM M0 (av a b c (D - a - b - c)); omega) ⟨(((hFr.up (by decide)).up (by decide)).up (by decide)).up (by decide), fun j q1 q2 => ?_, hVs.1.1, by show TM M0 + VM M0 (av a b c (D - a - b - c)) ≤ 100000000; have := TM_rng hm; omega⟩ (eL_next (by omega) g3 ?_)
                    · show _ = av a b c (D - a - b - c) j
                      unfold av updF
                      rcases (show j = 0 ∨ j = 1 ∨ j = 2 ∨ j = 3 by omega) with e | e | e | e <;> subst e
                      · rw [upm_ne (Or.inr (by decide)), upm_ne (Or.inr (by decide)), upm_ne (Or.inr (by decide)), upm_eq]
                        rfl
                      · rw [upm_ne (Or.inr (by decide)), upm_ne (Or.inr (by decide)), upm_eq]
                        rfl
                      · rw [upm_ne (Or.inr (by decide)), upm_eq]
                        rfl
                      · rw [upm_eq]
                        rfl
                    · unfold fC
                      rw [bD_yes hok]
                      unfold evD
                      rw [if_pos (by omega)]
          · refine s_iload E dX8_dealt_168 rfl ?_
            refine s_if_ne E 187 dX8_dealt_170 (by decide) (by omega) (fun h170 => ?_) (fun h170 => ?_)
            · refine s_iconst E dX8_dealt_187 ?_
              refine s_istore (ls' := [_, _, _, _, _, _, _, _, _, _, _]) E dX8_dealt_188 (Nat.le_of_ble_eq_true rfl) rfl ?_
              refine s_iload E dX8_dealt_190 rfl ?_
              refine s_if_eq E 307 dX8_dealt_192 (by decide) (by omega) (fun h192 => ?_) (fun h192 => ?_)
              · refine s_iinc (ls' := [_, _, _, _, _, _, _, _, _, _, _]) E dX8_dealt_307 rfl rfl ?_
                refine s_goto E 136 dX8_dealt_310 (by decide) ?_
                refine ih _ _ _ _ _ _ _ (by omega) (by omega) g1 g2 (eL_next (by omega) g3 (bD_no (fun w => by have w1 := w.1; have w2 := w.2.1; have w3 := w.2.2; omega)))
              · exact absurd h192 (by decide)
            · refine s_iload_n E dX8_dealt_173 rfl ?_
              refine s_iconst E dX8_dealt_174 ?_
              refine s_icmp_gt E 183 dX8_dealt_175 (by decide) (by omega) (by omega) (fun h175 => ?_) (fun h175 => ?_)
              · refine s_iconst E dX8_dealt_183 ?_
                refine s_goto E 188 dX8_dealt_184 (by decide) ?_
                refine s_istore (ls' := [_, _, _, _, _, _, _, _, _, _, _]) E dX8_dealt_188 (Nat.le_of_ble_eq_true rfl) rfl ?_
                refine s_iload E dX8_dealt_190 rfl ?_
                refine s_if_eq E 307 dX8_dealt_192 (by decide) (by omega) (fun h192 => ?_) (fun h192 => ?_)
                · exact absurd h192 (by decide)
                · refine s_iconst E dX8_dealt_195 ?_
                  refine s_istore (ls' := [_, _, _, _, _, _, _, _, _, _, _]) E dX8_dealt_196 (Nat.le_of_ble_eq_true rfl) rfl ?_
                  have hok : okP n b c (D - a - b - c) := ⟨by omega, by omega, by omega⟩
                  refine lp_X8_dl198 M0 D k n hD hk hm hn hn4 a b c (D - a - b - c) x M g2.1 E (fun M2 o9 o10 a2 f2 => ?_) (n.toNat + 1) M 0 _ (by omega) (by omega) (fun i h1 h2 => by omega) (Fr.rf _ M)
                  have har := av_rng (a := a) (b := b) (c := c) (d := D - a - b - c) (by omega) (by omega) (by omega) (by omega)
                  have hA : AGM M2 (LA (M0 79 5) (mB M0) (mI M0) (av a b c (D - a - b - c))) := AGM_of hm (g2.1.tr (f2.sub (by decide))) (fun j h1 h2 => ⟨a2 j h1 (by omega), har j⟩)
                  have e79 : M2 79 = M0 79 := by rw [f2 79 (by decide), g2.1 79 (by decide)]
                  have e82 : M2 82 = M0 82 := by rw [f2 82 (by decide), g2.1 82 (by decide)]
                  have eI : mI M2 = mI M0 := by unfold mI; rw [e82]
                  have eE : mE M2 = mE M0 := by unfold mE; rw [e82]
                  have hfr := full_rng (c := M0 79 5) ⟨hm.1.1, hm.1.2.1⟩
                  have hTM := TM_rng hm
                  have hbs := g2.2.2
                  refine s_aload_n E dX8_dealt_256 rfl ?_
                  refine s_iconst E dX8_dealt_257 ?_
                  refine s_iconst E dX8_dealt_258 ?_
                  refine s_callVi E (c_X8_leastFrom M2 (LA (M0 79 5) (mB M0) (mI M0) (av a b c (D - a - b - c))) 0 0 hA (by rw [e79]; omega) (by decide) 0 (by rw [e79, eI, tt_0 ⟨hm.1.1, hm.1.2.1⟩]; decide)) dX8_dealt_259 mf_X8_leastFrom ml_X8_136 rfl (Nat.le_of_ble_eq_true rfl) (Nat.le_of_ble_eq_true rfl) (by decide) sh79 rfl rfl (fun r259 M259 h259 => ?_)
                  obtain ⟨a9, b9, d9⟩ := h259
                  rw [e79, eI, eE] at a9
                  have hQ : IsP (M0 79 5) (LA (M0 79 5) (mB M0) (mI M0) (av a b c (D - a - b - c))) (mE M0) (r259 - TM M0) := a9
                  have hVs := VM_spec hm (a := av a b c (D - a - b - c)) (fun j _ _ => har j)
                  have hr2 := IsP_small hm.1 (fun s m _ _ h3 h4 => (LA_rng (s := s) hm.1 (fun j _ _ => har j) ⟨h3, h4⟩).2) hQ
                  have hV : r259 - TM M0 = VM M0 (av a b c (D - a - b - c)) := hQ.uniq hVs.2 (by omega) (by omega)
                  have hFr : Fr [86, 87, 89] M0 M259 := (g2.1.tr (f2.sub (by decide))).tr (d9.sub (by decide))
                  have h89 : M259 89 = M 89 := by rw [d9 89 (by decide), f2 89 (by decide)]
                  refine s_istore (ls' := [_, _, _, _, _, _, _, _, _, _, _]) E dX8_dealt_262 (Nat.le_of_ble_eq_true rfl) rfl ?_
                  refine s_iload E dX8_dealt_264 rfl ?_
                  refine s_iload E dX8_dealt_266 rfl ?_
                  refine s_icmp_ge E 307 dX8_dealt_268 (by decide) (by omega) (by omega) (fun h268 => ?_) (fun h268 => ?_)
                  · refine s_iinc (ls' := [_, _, _, _, _, _, _, _, _, _, _]) E dX8_dealt_307 rfl rfl ?_
                    refine s_goto E 136 dX8_dealt_310 (by decide) ?_
                    refine ih _ _ _ _ _ _ _ (by omega) (by omega) g1 ⟨hFr, fun j q1 q2 => by rw [h89]; exact g2.2.1 j q1 q2, g2.2.2⟩ (eL_next (by omega) g3 ?_)
                    unfold fC
                    rw [bD_yes hok]
                    unfold evD
                    rw [if_neg (by omega)]
                  · refine s_iload E dX8_dealt_271 rfl ?_
                    refine s_istore (ls' := [_, _, _, _, _, _, _, _, _, _, _]) E dX8_dealt_273 (Nat.le_of_ble_eq_true rfl) rfl ?_
                    refine s_aload_n E dX8_dealt_275 rfl ?_
                    refine s_getR (kf := 16) E dX8_dealt_276 rfl inb_X8 (Nat.le_of_ble_eq_true rfl) fl_X8_44 (by decide) sh79 rfl ?_
                    refine s_iconst E dX8_dealt_279 ?_
                    refine s_iload E dX8_dealt_280 rfl ?_
                    refine s_iast E dX8_dealt_282 (by decide) sh89 (Nat.le_of_ble_eq_true rfl) (by omega) ?_
                    refine s_aload_n E dX8_dealt_283 rfl ?_
                    refine s_getR (kf := 16) E dX8_dealt_284 rfl inb_X8 (Nat.le_of_ble_eq_true rfl) fl_X8_44 (by decide) sh79 rfl ?_
                    refine s_iconst E dX8_dealt_287 ?_
                    refine s_iload E dX8_dealt_288 rfl ?_
                    refine s_iast E dX8_dealt_290 (by decide) sh89 (Nat.le_of_ble_eq_true rfl) (by omega) ?_
                    refine s_aload_n E dX8_dealt_291 rfl ?_
                    refine s_getR (kf := 16) E dX8_dealt_292 rfl inb_X8 (Nat.le_of_ble_eq_true rfl) fl_X8_44 (by decide) sh79 rfl ?_
                    refine s_iconst E dX8_dealt_295 ?_
                    refine s_iload E dX8_dealt_296 rfl ?_
                    refine s_iast E dX8_dealt_298 (by decide) sh89 (Nat.le_of_ble_eq_true rfl) (by omega) ?_
                    refine s_aload_n E dX8_dealt_299 rfl ?_
                    refine s_getR (kf := 16) E dX8_dealt_300 rfl inb_X8 (Nat.le_of_ble_eq_true rfl) fl_X8_44 (by decide) sh79 rfl ?_
                    refine s_iconst E dX8_dealt_303 ?_
                    refine s_iload E dX8_dealt_304 rfl ?_
                    refine s_iast E dX8_dealt_306 (by decide) sh89 (Nat.le_of_ble_eq_true rfl) (by omega) ?_
                    refine s_iinc (ls' := [_, _, _, _, _, _, _, _, _, _, _]) E dX8_dealt_307 rfl rfl ?_
                    refine s_goto E 136 dX8_dealt_310 (by decide) ?_
                    refine ih _ _ _ (VM M0 (av a b c (D - a - b - c)), av a b c (D - a - b - c)) _ _ _ (by omega) (by omega) (by show r259 = TM M0 + VM M0 (av a b c (D - a - b - c)); omega) ⟨(((hFr.up (by decide)).up (by decide)).up (by decide)).up (by decide), fun j q1 q2 => ?_, hVs.1.1, by show TM M0 + VM M0 (av a b c (D - a - b - c)) ≤ 100000000; have := TM_rng hm; omega⟩ (eL_next (by omega) g3 ?_)
                    · show _ = av a b c (D - a - b - c) j
                      unfold av updF
                      rcases (show j = 0 ∨ j = 1 ∨ j = 2 ∨ j = 3 by omega) with e | e | e | e <;> subst e
                      · rw [upm_ne (Or.inr (by decide)), upm_ne (Or.inr (by decide)), upm_ne (Or.inr (by decide)), upm_eq]
                        rfl
                      · rw [upm_ne (Or.inr (by decide)), upm_ne (Or.inr (by decide)), upm_eq]
                        rfl
                      · rw [upm_ne (Or.inr (by decide)), upm_eq]
                        rfl
                      · rw [upm_eq]
                        rfl
                    · unfold fC
                      rw [bD_yes hok]
                      unfold evD
                      rw [if_pos (by omega)]
              · refine s_iload E dX8_dealt_178 rfl ?_
                refine s_if_ne E 187 dX8_dealt_180 (by decide) (by omega) (fun h180 => ?_) (fun h180 => ?_)
                · refine s_iconst E dX8_dealt_187 ?_
                  refine s_istore (ls' := [_, _, _, _, _, _, _, _, _, _, _]) E dX8_dealt_188 (Nat.le_of_ble_eq_true rfl) rfl ?_
                  refine s_iload E dX8_dealt_190 rfl ?_
                  refine s_if_eq E 307 dX8_dealt_192 (by decide) (by omega) (fun h192 => ?_) (fun h192 => ?_)
                  · refine s_iinc (ls' := [_, _, _, _, _, _, _, _, _, _, _]) E dX8_dealt_307 rfl rfl ?_
                    refine s_goto E 136 dX8_dealt_310 (by decide) ?_
                    refine ih _ _ _ _ _ _ _ (by omega) (by omega) g1 g2 (eL_next (by omega) g3 (bD_no (fun w => by have w1 := w.1; have w2 := w.2.1; have w3 := w.2.2; omega)))
                  · exact absurd h192 (by decide)
                · refine s_iconst E dX8_dealt_183 ?_
                  refine s_goto E 188 dX8_dealt_184 (by decide) ?_
                  refine s_istore (ls' := [_, _, _, _, _, _, _, _, _, _, _]) E dX8_dealt_188 (Nat.le_of_ble_eq_true rfl) rfl ?_
                  refine s_iload E dX8_dealt_190 rfl ?_
                  refine s_if_eq E 307 dX8_dealt_192 (by decide) (by omega) (fun h192 => ?_) (fun h192 => ?_)
                  · exact absurd h192 (by decide)
                  · refine s_iconst E dX8_dealt_195 ?_
                    refine s_istore (ls' := [_, _, _, _, _, _, _, _, _, _, _]) E dX8_dealt_196 (Nat.le_of_ble_eq_true rfl) rfl ?_
                    have hok : okP n b c (D - a - b - c) := ⟨by omega, by omega, by omega⟩
                    refine lp_X8_dl198 M0 D k n hD hk hm hn hn4 a b c (D - a - b - c) x M g2.1 E (fun M2 o9 o10 a2 f2 => ?_) (n.toNat + 1) M 0 _ (by omega) (by omega) (fun i h1 h2 => by omega) (Fr.rf _ M)
                    have har := av_rng (a := a) (b := b) (c := c) (d := D - a - b - c) (by omega) (by omega) (by omega) (by omega)
                    have hA : AGM M2 (LA (M0 79 5) (mB M0) (mI M0) (av a b c (D - a - b - c))) := AGM_of hm (g2.1.tr (f2.sub (by decide))) (fun j h1 h2 => ⟨a2 j h1 (by omega), har j⟩)
                    have e79 : M2 79 = M0 79 := by rw [f2 79 (by decide), g2.1 79 (by decide)]
                    have e82 : M2 82 = M0 82 := by rw [f2 82 (by decide), g2.1 82 (by decide)]
                    have eI : mI M2 = mI M0 := by unfold mI; rw [e82]
                    have eE : mE M2 = mE M0 := by unfold mE; rw [e82]
                    have hfr := full_rng (c := M0 79 5) ⟨hm.1.1, hm.1.2.1⟩
                    have hTM := TM_rng hm
                    have hbs := g2.2.2
                    refine s_aload_n E dX8_dealt_256 rfl ?_
                    refine s_iconst E dX8_dealt_257 ?_
                    refine s_iconst E dX8_dealt_258 ?_
                    refine s_callVi E (c_X8_leastFrom M2 (LA (M0 79 5) (mB M0) (mI M0) (av a b c (D - a - b - c))) 0 0 hA (by rw [e79]; omega) (by decide) 0 (by rw [e79, eI, tt_0 ⟨hm.1.1, hm.1.2.1⟩]; decide)) dX8_dealt_259 mf_X8_leastFrom ml_X8_136 rfl (Nat.le_of_ble_eq_true rfl) (Nat.le_of_ble_eq_true rfl) (by decide) sh79 rfl rfl (fun r259 M259 h259 => ?_)
                    obtain ⟨a9, b9, d9⟩ := h259
                    rw [e79, eI, eE] at a9
                    have hQ : IsP (M0 79 5) (LA (M0 79 5) (mB M0) (mI M0) (av a b c (D - a - b - c))) (mE M0) (r259 - TM M0) := a9
                    have hVs := VM_spec hm (a := av a b c (D - a - b - c)) (fun j _ _ => har j)
                    have hr2 := IsP_small hm.1 (fun s m _ _ h3 h4 => (LA_rng (s := s) hm.1 (fun j _ _ => har j) ⟨h3, h4⟩).2) hQ
                    have hV : r259 - TM M0 = VM M0 (av a b c (D - a - b - c)) := hQ.uniq hVs.2 (by omega) (by omega)
                    have hFr : Fr [86, 87, 89] M0 M259 := (g2.1.tr (f2.sub (by decide))).tr (d9.sub (by decide))
                    have h89 : M259 89 = M 89 := by rw [d9 89 (by decide), f2 89 (by decide)]
                    refine s_istore (ls' := [_, _, _, _, _, _, _, _, _, _, _]) E dX8_dealt_262 (Nat.le_of_ble_eq_true rfl) rfl ?_
                    refine s_iload E dX8_dealt_264 rfl ?_
                    refine s_iload E dX8_dealt_266 rfl ?_
                    refine s_icmp_ge E 307 dX8_dealt_268 (by decide) (by omega) (by omega) (fun h268 => ?_) (fun h268 => ?_)
                    · refine s_iinc (ls' := [_, _, _, _, _, _, _, _, _, _, _]) E dX8_dealt_307 rfl rfl ?_
                      refine s_goto E 136 dX8_dealt_310 (by decide) ?_
                      refine ih _ _ _ _ _ _ _ (by omega) (by omega) g1 ⟨hFr, fun j q1 q2 => by rw [h89]; exact g2.2.1 j q1 q2, g2.2.2⟩ (eL_next (by omega) g3 ?_)
                      unfold fC
                      rw [bD_yes hok]
                      unfold evD
                      rw [if_neg (by omega)]
                    · refine s_iload E dX8_dealt_271 rfl ?_
                      refine s_istore (ls' := [_, _, _, _, _, _, _, _, _, _, _]) E dX8_dealt_273 (Nat.le_of_ble_eq_true rfl) rfl ?_
                      refine s_aload_n E dX8_dealt_275 rfl ?_
                      refine s_getR (kf := 16) E dX8_dealt_276 rfl inb_X8 (Nat.le_of_ble_eq_true rfl) fl_X8_44 (by decide) sh79 rfl ?_
                      refine s_iconst E dX8_dealt_279 ?_
                      refine s_iload E dX8_dealt_280 rfl ?_
                      refine s_iast E dX8_dealt_282 (by decide) sh89 (Nat.le_of_ble_eq_true rfl) (by omega) ?_
                      refine s_aload_n E dX8_dealt_283 rfl ?_
                      refine s_getR (kf := 16) E dX8_dealt_284 rfl inb_X8 (Nat.le_of_ble_eq_true rfl) fl_X8_44 (by decide) sh79 rfl ?_
                      refine s_iconst E dX8_dealt_287 ?_
                      refine s_iload E dX8_dealt_288 rfl ?_
                      refine s_iast E dX8_dealt_290 (by decide) sh89 (Nat.le_of_ble_eq_true rfl) (by omega) ?_
                      refine s_aload_n E dX8_dealt_291 rfl ?_
                      refine s_getR (kf := 16) E dX8_dealt_292 rfl inb_X8 (Nat.le_of_ble_eq_true rfl) fl_X8_44 (by decide) sh79 rfl ?_
                      refine s_iconst E dX8_dealt_295 ?_
                      refine s_iload E dX8_dealt_296 rfl ?_
                      refine s_iast E dX8_dealt_298 (by decide) sh89 (Nat.le_of_ble_eq_true rfl) (by omega) ?_
                      refine s_aload_n E dX8_dealt_299 rfl ?_
                      refine s_getR (kf := 16) E dX8_dealt_300 rfl inb_X8 (Nat.le_of_ble_eq_true rfl) fl_X8_44 (by decide) sh79 rfl ?_
                      refine s_iconst E dX8_dealt_303 ?_
                      refine s_iload E dX8_dealt_304 rfl ?_
                      refine s_iast E dX8_dealt_306 (by decide) sh89 (Nat.le_of_ble_eq_true rfl) (by omega) ?_
                      refine s_iinc (ls' := [_, _, _, _, _, _, _, _, _, _, _]) E dX8_dealt_307 rfl rfl ?_
                      refine s_goto E 136 dX8_dealt_310 (by decide) ?_
                      refine ih _ _ _ (VM M0 (av a b c (D - a - b - c)), av a b c (D - a - b - c)) _ _ _ (by omega) (by omega) (by show r259 = TM M0 + VM M0 (av a b c (D - a - b - c)); omega) ⟨(((hFr.up (by decide)).up (by decide)).up (by decide)).up (by decide), fun j q1 q2 => ?_, hVs.1.1, by show TM M0 + VM M0 (av a b c (D - a - b - c)) ≤ 100000000; have := TM_rng hm; omega⟩ (eL_next (by omega) g3 ?_)
                      · show _ = av a b c (D - a - b - c) j
                        unfold av updF
                        rcases (show j = 0 ∨ j = 1 ∨ j = 2 ∨ j = 3 by omega) with e | e | e | e <;> subst e
                        · rw [upm_ne (Or.inr (by decide)), upm_ne (Or.inr (by decide)), upm_ne (Or.inr (by decide)), upm_eq]
                          rfl
                        · rw [upm_ne (Or.inr (by decide)), upm_ne (Or.inr (by decide)), upm_eq]
                          rfl
                        · rw [upm_ne (Or.inr (by decide)), upm_eq]
                          rfl
                        · rw [upm_eq]
                          rfl
                      · unfold fC
                        rw [bD_yes hok]
                        unfold evD
                        rw [if_pos (by omega)]

set_option maxRecDepth 100000 in
set_option maxHeartbeats 4000000 in
theorem lp_X8_dl122 {v : Ev} {as : List Nat} (M0 : Mm) (D k n : Int) (hD : 0 ≤ D ∧ D ≤ 20) (hk : k = -1 ∨ (0 ≤ k ∧ k < 6)) (hm : HM M0) (hn : n = nM M0) (hn4 : 1 ≤ n ∧ n ≤ 4) (F : St) (a : Int) (ha : 0 ≤ a ∧ a ≤ D) (E : Cx v cX8_dealt 11 yX8_dealt.cls 8) (hret : ∀ (M : Mm) (x : Int) (o6 o7 o8 o9 o10 : Option Vv), x = TM M0 + F.1 → BS M0 M F → Ws v as SH 0 0 319 [some (rv 79), some (iv D), some (iv k), some (iv n), some (iv x), some (iv a), o6, o7, o8, o9, o10] [] M) : ∀ (N : Nat) (M : Mm) (b x : Int) (st : St) (o7 o8 o9 o10 : Option Vv), (b + 1).toNat < N → (-1 ≤ b ∧ b ≤ D - a) → (x = TM M0 + st.1) → (BS M0 M st) → (eL (fB (VM M0) n a (D - a)) (b + 1).toNat b st = F) → Ws v as SH 0 0 122 [some (rv 79), some (iv D), some (iv k), some (iv n), some (iv x), some (iv a), some (iv b), o7, o8, o9, o10] [] M := by
  intro N
  induction N with
  | zero =>
    intro M b x st o7 o8 o9 o10 hN
    exact absurd hN (Nat.not_lt_zero _)
  | succ N ih =>
    intro M b x st o7 o8 o9 o10 hN g0 g1 g2 g3
    refine s_iload E dX8_dealt_122 rfl ?_
    refine s_if_lt E 319 dX8_dealt_124 (by decide) (by omega) (fun h124 => ?_) (fun h124 => ?_)
    · have e : st = F := by rw [← g3, show (b + 1).toNat = 0 by omega]; rfl
      subst e
      exact hret M x _ _ _ _ _ g1 g2
    · refine s_iload_n E dX8_dealt_127 rfl ?_
      refine s_iload E dX8_dealt_128 rfl ?_
      refine s_isub E dX8_dealt_130 ?_
      refine s_iload E dX8_dealt_131 rfl ?_
      refine s_isub E dX8_dealt_133 ?_
      refine s_istore (ls' := [_, _, _, _, _, _, _, _, _, _, _]) E dX8_dealt_134 (Nat.le_of_ble_eq_true rfl) rfl ?_
      refine lp_X8_dl136 M0 D k n hD hk hm hn hn4 (fB (VM M0) n a (D - a) b st) a b (by omega) (by omega) (by omega) E (fun M2 x2 o7 o8 o9 o10 a2 b2 => ?_) ((D - a - b + 1).toNat + 1) M (D - a - b) x st _ _ _ (by omega) (by omega) g1 g2 rfl
      refine s_iinc (ls' := [_, _, _, _, _, _, _, _, _, _, _]) E dX8_dealt_313 rfl rfl ?_
      refine s_goto E 122 dX8_dealt_316 (by decide) ?_
      refine ih _ _ _ _ _ _ _ _ (by omega) (by omega) a2 b2 (eL_next (by omega) g3 rfl)

set_option maxRecDepth 100000 in
set_option maxHeartbeats 4000000 in
theorem lp_X8_dl111 {v : Ev} {as : List Nat} (M0 : Mm) (D k n : Int) (hD : 0 ≤ D ∧ D ≤ 20) (hk : k = -1 ∨ (0 ≤ k ∧ k < 6)) (hm : HM M0) (hn : n = nM M0) (hn4 : 1 ≤ n ∧ n ≤ 4) (F : St) (E : Cx v cX8_dealt 11 yX8_dealt.cls 8) (hret : RetI v as cX8_dealt .int (fun r M' => Fr [86, 87, 89] M0 M' ∧ (k = -1 → r = TM M0 + F.1) ∧ (k ≠ -1 → hasP (M0 79 5) (mB M0) k → r = F.2 (ps (M0 79 5) (mB M0) k)) ∧ (k ≠ -1 → ¬ hasP (M0 79 5) (mB M0) k → r = -6))) : ∀ (N : Nat) (M : Mm) (a x : Int) (st : St) (o6 o7 o8 o9 o10 : Option Vv), (a + 1).toNat < N → (-1 ≤ a ∧ a ≤ D) → (x = TM M0 + st.1) → (BS M0 M st) → (eL (fA (VM M0) n D) (a + 1).toNat a st = F) → Ws v as SH 0 0 111 [some (rv 79), some (iv D), some (iv k), some (iv n), some (iv x), some (iv a), o6, o7, o8, o9, o10] [] M := by
  intro N
  induction N with
  | zero =>
    intro M a x st o6 o7 o8 o9 o10 hN
    exact absurd hN (Nat.not_lt_zero _)
  | succ N ih =>
    intro M a x st o6 o7 o8 o9 o10 hN g0 g1 g2 g3
    refine s_iload E dX8_dealt_111 rfl ?_
    refine s_if_lt E 325 dX8_dealt_113 (by decide) (by omega) (fun h113 => ?_) (fun h113 => ?_)
    · have e : st = F := by rw [← g3, show (a + 1).toNat = 0 by omega]; rfl
      subst e
      have hTM := TM_rng hm
      refine s_iload_n E dX8_dealt_325 rfl ?_
      refine s_iconst E dX8_dealt_326 ?_
      refine s_icmp_ne E 333 dX8_dealt_327 (by decide) (by omega) (by omega) (fun h327 => ?_) (fun h327 => ?_)
      · refine s_bipush E dX8_dealt_333 rfl ?_
        refine s_istore (ls' := [_, _, _, _, _, _, _, _, _, _, _]) E dX8_dealt_335 (Nat.le_of_ble_eq_true rfl) rfl ?_
        refine s_iconst E dX8_dealt_337 ?_
        refine s_istore (ls' := [_, _, _, _, _, _, _, _, _, _, _]) E dX8_dealt_338 (Nat.le_of_ble_eq_true rfl) rfl ?_
        exact lp_X8_dl340 M0 D k n hD hk hm hn hn4 st (by omega) E hret (n.toNat + 1) M 0 x (-6) _ _ _ _ (by omega) (by omega) g2 (fun h1 h2 => by have := ps_rng (c := M0 79 5) (bo := mB M0) (k := k) (by omega); omega) (fun _ => rfl)
      · refine s_iload E dX8_dealt_330 rfl ?_
        refine hret _ _ ?_ (fun q => by cases q) _ _ dX8_dealt_332
        exact ⟨g2.1, fun _ => g1, fun q => by omega, fun q => by omega⟩
    · refine s_iload_n E dX8_dealt_116 rfl ?_
      refine s_iload E dX8_dealt_117 rfl ?_
      refine s_isub E dX8_dealt_119 ?_
      refine s_istore (ls' := [_, _, _, _, _, _, _, _, _, _, _]) E dX8_dealt_120 (Nat.le_of_ble_eq_true rfl) rfl ?_
      refine lp_X8_dl122 M0 D k n hD hk hm hn hn4 (fA (VM M0) n D a st) a (by omega) E (fun M2 x2 o6 o7 o8 o9 o10 a2 b2 => ?_) ((D - a + 1).toNat + 1) M (D - a) x st _ _ _ _ (by omega) (by omega) g1 g2 rfl
      refine s_iinc (ls' := [_, _, _, _, _, _, _, _, _, _, _]) E dX8_dealt_319 rfl rfl ?_
      refine s_goto E 111 dX8_dealt_322 (by decide) ?_
      refine ih _ _ _ _ _ _ _ _ _ (by omega) (by omega) a2 b2 (eL_next (by omega) g3 rfl)

set_option maxRecDepth 100000 in
set_option maxHeartbeats 4000000 in
theorem lp_X8_dl32 {v : Ev} {as : List Nat} (M0 : Mm) (D k : Int) (hD : 0 ≤ D ∧ D ≤ 20) (hk : k = -1 ∨ (0 ≤ k ∧ k < 6)) (hm : MOK (M0 79 5) (mB M0) (mI M0) (mE M0)) (E : Cx v cX8_dealt 11 yX8_dealt.cls 8) (hret : RetI v as cX8_dealt .int (fun r M' => KpM M0 M' ∧ (¬ (1 ≤ nM M0 ∧ nM M0 ≤ 4) → r = -5) ∧ ((1 ≤ nM M0 ∧ nM M0 ≤ 4) → (k = -1 → r = TM M0 + (DR (VM M0) (nM M0) D).1) ∧ (k ≠ -1 → hasP (M0 79 5) (mB M0) k → r = (DR (VM M0) (nM M0) D).2 (ps (M0 79 5) (mB M0) k)) ∧ (k ≠ -1 → ¬ hasP (M0 79 5) (mB M0) k → r = -6)))) : ∀ (N : Nat) (M : Mm) (n i : Int) (o5 o6 o7 o8 o9 o10 : Option Vv), (6 - i).toNat < N → (0 ≤ i ∧ i ≤ 6) → (n = ps (M0 79 5) (mB M0) i ∧ n ≤ 4) → (∀ q, 0 ≤ q → q < i → hasP (M0 79 5) (mB M0) q → M 88 (ps (M0 79 5) (mB M0) q) = q) → (Fr [88] M0 M) → Ws v as SH 0 0 32 [some (rv 79), some (iv D), some (iv k), some (iv n), some (iv i), o5, o6, o7, o8, o9, o10] [] M := by
  intro N
  induction N with
  | zero =>
    intro M n i o5 o6 o7 o8 o9 o10 hN
    exact absurd hN (Nat.not_lt_zero _)
  | succ N ih =>
    intro M n i o5 o6 o7 o8 o9 o10 hN g0 g1 g2 g3
    have e79 := g3 79 (by decide); have e82 := g3 82 (by decide)
    have eB : mB M = mB M0 := by unfold mB; rw [e82]
    have eI : mI M = mI M0 := by unfold mI; rw [e82]
    have eE : mE M = mE M0 := by unfold mE; rw [e82]
    have hmM : MOK (M 79 5) (mB M) (mI M) (mE M) := by rw [e79, eB, eI, eE]; exact hm
    have hps := ps_rng (c := M0 79 5) (bo := mB M0) (k := i) (by omega)
    refine s_iload E dX8_dealt_32 rfl ?_
    refine s_bipush E dX8_dealt_34 rfl ?_
    refine s_icmp_ge E 93 dX8_dealt_36 (by decide) (by omega) (by omega) (fun h36 => ?_) (fun h36 => ?_)
    · refine s_iload_n E dX8_dealt_93 rfl ?_
      refine s_if_ne E 100 dX8_dealt_94 (by decide) (by omega) (fun h94 => ?_) (fun h94 => ?_)
      · refine s_aload_n E dX8_dealt_100 rfl ?_
        refine s_callVv E (c_X8_asSaved M) dX8_dealt_101 mf_X8_asSaved ml_X8_133 rfl (Nat.le_of_ble_eq_true rfl) (Nat.le_of_ble_eq_true rfl) (by decide) sh79 rfl rfl (fun M101 h101 => ?_)
        obtain ⟨a101, b101⟩ := h101
        have i79 : M101 79 = M0 79 := by rw [b101 79 (by decide), e79]
        have i82 : M101 82 = M0 82 := by rw [b101 82 (by decide), e82]
        have iB : mB M101 = mB M0 := by unfold mB; rw [i82]
        have iI : mI M101 = mI M0 := by unfold mI; rw [i82]
        have iE : mE M101 = mE M0 := by unfold mE; rw [i82]
        have i6 : i = 6 := by omega
        have hH : HM M101 := by
          unfold HM
          rw [i79, iB, iI, iE, b101 88 (by decide)]
          exact ⟨hm, fun q h1 h2 h3 => g2 q h1 (by omega) h3⟩
        have en : n = nM M0 := by rw [g1.1, i6]; rfl
        have en2 : n = nM M101 := by rw [en]; unfold nM; rw [i79, iB]
        have eV : VM M101 = VM M0 := by unfold VM; rw [i79, iB, iI, iE]
        have eT : TM M101 = TM M0 := by unfold TM; rw [i79, iI]
        have hTM := TM_rng hH
        have hF : eL (fA (VM M101) n D) (D + 1).toNat D (100000000 - TM M101, fun j => M101 89 j) = DR (VM M0) (nM M0) D := by
          rw [fA_eD (by omega) hD.1, ← en, ← eV]
          refine eD_ind _ _ _ _ hD.1 (fun b q1 q2 q3 => ?_)
          have := (VM_spec hH (a := b) (fun j h1 h2 => by have := q2 j (by omega) (by omega); omega)).1
          omega
        refine s_ldc E dX8_dealt_104 cst_X8_124 ?_
        refine s_istore (ls' := [_, _, _, _, _, _, _, _, _, _, _]) E dX8_dealt_106 (Nat.le_of_ble_eq_true rfl) rfl ?_
        refine s_iload_n E dX8_dealt_108 rfl ?_
        refine s_istore (ls' := [_, _, _, _, _, _, _, _, _, _, _]) E dX8_dealt_109 (Nat.le_of_ble_eq_true rfl) rfl ?_
        refine lp_X8_dl111 M101 D k n hD hk hH en2 (by omega) (DR (VM M0) (nM M0) D) E (fun r M' h => hret r M' ⟨((g3.kpM (by decide)).tr (b101.kpM (by decide))).tr (h.1.kpM (by decide)), fun q => by omega, fun _ => ?_⟩) ((D + 1).toNat + 1) M101 D 100000000 (100000000 - TM M101, fun j => M101 89 j) _ _ _ _ _ (by omega) (by omega) (by show (100000000 : Int) = TM M101 + (100000000 - TM M101); omega) ⟨Fr.rf _ _, fun _ _ _ => rfl, by show 0 ≤ 100000000 - TM M101; omega, by show TM M101 + (100000000 - TM M101) ≤ 100000000; omega⟩ hF
        have h2 := h.2
        rw [i79, iB, eT] at h2
        exact h2
      · refine s_bipush E dX8_dealt_97 rfl ?_
        refine hret _ _ ?_ (fun q => by cases q) _ _ dX8_dealt_99
        exact ⟨g3.kpM (by decide), fun _ => rfl, fun q => by
          exfalso
          have i6 : i = 6 := by omega
          have : nM M0 = n := by rw [g1.1, i6]; rfl
          omega⟩
    · refine s_aload_n E dX8_dealt_39 rfl ?_
      refine s_iload E dX8_dealt_40 rfl ?_
      refine s_sipush E dX8_dealt_42 rfl ?_
      refine s_callVi E (c_X8_spokenBy _ _ _ (by omega) hmM) dX8_dealt_45 mf_X8_spokenBy ml_X8_120 rfl (Nat.le_of_ble_eq_true rfl) (Nat.le_of_ble_eq_true rfl) (by decide) sh79 rfl rfl (fun r45 M45 h45 => ?_)
      obtain ⟨e45, f45⟩ := h45; subst r45; subst M45
      have hsp := sp_iff hmM i
      rw [e79, eB] at hsp
      have hst := ps_step (c := M0 79 5) (bo := mB M0) (k := i) (by omega)
      have hsr := spB_rng hmM i 255 (n := (M 79 5).toNat) (by have := hmM.1; have := hmM.2.1; omega)
      rw [e79] at hsr ⊢
      refine s_if_le E 55 dX8_dealt_48 (by decide) (by omega) (fun h48 => ?_) (fun h48 => ?_)
      · refine s_iconst E dX8_dealt_55 ?_
        refine s_istore (ls' := [_, _, _, _, _, _, _, _, _, _, _]) E dX8_dealt_56 (Nat.le_of_ble_eq_true rfl) rfl ?_
        refine s_iload E dX8_dealt_58 rfl ?_
        refine s_if_eq E 71 dX8_dealt_60 (by decide) (by omega) (fun h60 => ?_) (fun h60 => ?_)
        · refine s_iload E dX8_dealt_71 rfl ?_
          refine s_if_eq E 87 dX8_dealt_73 (by decide) (by omega) (fun h73 => ?_) (fun h73 => ?_)
          · refine s_iinc (ls' := [_, _, _, _, _, _, _, _, _, _, _]) E dX8_dealt_87 rfl rfl ?_
            refine s_goto E 32 dX8_dealt_90 (by decide) ?_
            refine ih _ _ _ _ _ _ _ _ _ (by omega) (by omega) ⟨?_, ?_⟩ (fun q h1 h2 h3 => ?_) g3
            · rw [hst, b2_neg (fun w => by have := hsp.mpr w; omega)]; omega
            · omega
            · by_cases e : q = i
              · exact absurd (hsp.mpr (e ▸ h3)) (by omega)
              · exact g2 q h1 (by omega) h3
          · exact absurd h73 (by decide)
        · exact absurd h60 (by decide)
      · refine s_iconst E dX8_dealt_51 ?_
        refine s_goto E 56 dX8_dealt_52 (by decide) ?_
        refine s_istore (ls' := [_, _, _, _, _, _, _, _, _, _, _]) E dX8_dealt_56 (Nat.le_of_ble_eq_true rfl) rfl ?_
        refine s_iload E dX8_dealt_58 rfl ?_
        refine s_if_eq E 71 dX8_dealt_60 (by decide) (by omega) (fun h60 => ?_) (fun h60 => ?_)
        · exact absurd h60 (by decide)
        · refine s_iload_n E dX8_dealt_63 rfl ?_
          refine s_iconst E dX8_dealt_64 ?_
          refine s_icmp_ne E 71 dX8_dealt_65 (by decide) (by omega) (by omega) (fun h65 => ?_) (fun h65 => ?_)
          · refine s_iload E dX8_dealt_71 rfl ?_
            refine s_if_eq E 87 dX8_dealt_73 (by decide) (by omega) (fun h73 => ?_) (fun h73 => ?_)
            · exact absurd h73 (by decide)
            · refine s_aload_n E dX8_dealt_76 rfl ?_
              refine s_getR (kf := 15) E dX8_dealt_77 rfl inb_X8 (Nat.le_of_ble_eq_true rfl) fl_X8_41 (by decide) sh79 rfl ?_
              refine s_iload_n E dX8_dealt_80 rfl ?_
              refine s_iload E dX8_dealt_81 rfl ?_
              refine s_iast E dX8_dealt_83 (by decide) sh88 (Nat.le_of_ble_eq_true rfl) (by omega) ?_
              refine s_iinc (ls' := [_, _, _, _, _, _, _, _, _, _, _]) E dX8_dealt_84 rfl rfl ?_
              refine s_iinc (ls' := [_, _, _, _, _, _, _, _, _, _, _]) E dX8_dealt_87 rfl rfl ?_
              refine s_goto E 32 dX8_dealt_90 (by decide) ?_
              have hh := hsp.mp (by omega)
              refine ih _ _ _ _ _ _ _ _ _ (by omega) (by omega) ⟨?_, ?_⟩ (fun q h1 h2 h3 => ?_) (g3.up (by decide))
              · rw [hst, b2_pos hh]; omega
              · omega
              · by_cases e : q = i
                · rw [e, ← g1.1, upm_eq]
                · rw [upm_ne (Or.inr (fun w => by have := ps_lt (c := M0 79 5) (bo := mB M0) (k := q) (k' := i) h1 (by omega) h3; omega))]
                  exact g2 q h1 (by omega) h3
          · refine s_bipush E dX8_dealt_68 rfl ?_
            refine hret _ _ ?_ (fun q => by cases q) _ _ dX8_dealt_70
            exact ⟨g3.kpM (by decide), fun _ => rfl, fun q => by
              exfalso
              have hh := hsp.mp (by omega)
              have := ps_lt (c := M0 79 5) (bo := mB M0) (k := i) (k' := 6) (by omega) (by omega) hh
              have : nM M0 = ps (M0 79 5) (mB M0) 6 := rfl
              omega⟩

set_option maxRecDepth 100000 in
set_option maxHeartbeats 4000000 in
theorem c_X8_dealt (M0 : Mm) (D k : Int) (hD : inI D) (hk : inI k) (hm : MOK (M0 79 5) (mB M0) (mI M0) (mE M0)) : CtI yX8_dealt cX8_dealt 11 .int 8 SH [rv 79, iv D, iv k] M0 (fun r M' => KpM M0 M' ∧ (¬ (k = -1 ∨ (0 ≤ k ∧ k < 6)) → r = -1) ∧ ((k = -1 ∨ (0 ≤ k ∧ k < 6)) → ¬ (0 ≤ D ∧ D ≤ 20) → r = -2) ∧ ((k = -1 ∨ (0 ≤ k ∧ k < 6)) → (0 ≤ D ∧ D ≤ 20) → ¬ (1 ≤ nM M0 ∧ nM M0 ≤ 4) → r = -5) ∧ ((k = -1 ∨ (0 ≤ k ∧ k < 6)) → (0 ≤ D ∧ D ≤ 20) → (1 ≤ nM M0 ∧ nM M0 ≤ 4) → (k = -1 → r = TM M0 + (DR (VM M0) (nM M0) D).1) ∧ (k ≠ -1 → hasP (M0 79 5) (mB M0) k → r = (DR (VM M0) (nM M0) D).2 (ps (M0 79 5) (mB M0) k)) ∧ (k ≠ -1 → ¬ hasP (M0 79 5) (mB M0) k → r = -6))) := by
  refine CtI.of rfl (Nat.le_of_ble_eq_true rfl) (Or.inl rfl) (fun v as E hret => ?_)
  show Ws v as SH 0 0 0 [some (rv 79), some (iv D), some (iv k), none, none, none, none, none, none, none, none] [] M0
  refine s_iload_n E dX8_dealt_0 rfl ?_
  refine s_iconst E dX8_dealt_1 ?_
  refine s_icmp_eq E 14 dX8_dealt_2 (by decide) (by omega) (by omega) (fun h2 => ?_) (fun h2 => ?_)
  · refine s_iload_n E dX8_dealt_14 rfl ?_
    refine s_iconst E dX8_dealt_15 ?_
    refine s_bipush E dX8_dealt_16 rfl ?_
    refine s_callSi E (c_X8_in _ _ _ _ (by omega) (by omega) (by omega)) dX8_dealt_18 mf_X8_in ml_X8_63 rfl (Nat.le_of_ble_eq_true rfl) (Nat.le_of_ble_eq_true rfl) rfl (fun r18 M18 h18 => ?_)
    obtain ⟨e18, f18⟩ := h18; subst r18; subst M18
    refine s_ifneB E 27 dX8_dealt_21 (by decide) (fun h21 => ?_) (fun h21 => ?_)
    · refine s_iconst E dX8_dealt_27 ?_
      refine s_istore_n (ls' := [_, _, _, _, _, _, _, _, _, _, _]) E dX8_dealt_28 (Nat.le_of_ble_eq_true rfl) rfl ?_
      refine s_iconst E dX8_dealt_29 ?_
      refine s_istore (ls' := [_, _, _, _, _, _, _, _, _, _, _]) E dX8_dealt_30 (Nat.le_of_ble_eq_true rfl) rfl ?_
      exact lp_X8_dl32 M0 D k (by omega) (by omega) hm E (fun r M' h => hret r M' ⟨h.1, fun q => by omega, fun _ q => by omega, fun _ _ => h.2.1, fun _ _ => h.2.2⟩) 7 M0 0 0 _ _ _ _ _ _ (by decide) (by decide) ⟨rfl, by decide⟩ (fun q h1 h2 => by omega) (Fr.rf _ M0)
    · refine s_bipush E dX8_dealt_24 rfl ?_
      refine hret _ _ ?_ (fun q => by cases q) _ _ dX8_dealt_26
      exact ⟨KpM.rf M0, fun q => by omega, fun _ _ => rfl, fun _ q => by omega, fun _ q => by omega⟩
  · refine s_iload_n E dX8_dealt_5 rfl ?_
    refine s_callSi E (c_X8_isOne _ _ (by omega)) dX8_dealt_6 mf_X8_isOne ml_X8_67 rfl (Nat.le_of_ble_eq_true rfl) (Nat.le_of_ble_eq_true rfl) rfl (fun r6 M6 h6 => ?_)
    obtain ⟨e6, f6⟩ := h6; subst r6; subst M6
    refine s_ifneB E 14 dX8_dealt_9 (by decide) (fun h9 => ?_) (fun h9 => ?_)
    · refine s_iload_n E dX8_dealt_14 rfl ?_
      refine s_iconst E dX8_dealt_15 ?_
      refine s_bipush E dX8_dealt_16 rfl ?_
      refine s_callSi E (c_X8_in _ _ _ _ (by omega) (by omega) (by omega)) dX8_dealt_18 mf_X8_in ml_X8_63 rfl (Nat.le_of_ble_eq_true rfl) (Nat.le_of_ble_eq_true rfl) rfl (fun r18 M18 h18 => ?_)
      obtain ⟨e18, f18⟩ := h18; subst r18; subst M18
      refine s_ifneB E 27 dX8_dealt_21 (by decide) (fun h21 => ?_) (fun h21 => ?_)
      · refine s_iconst E dX8_dealt_27 ?_
        refine s_istore_n (ls' := [_, _, _, _, _, _, _, _, _, _, _]) E dX8_dealt_28 (Nat.le_of_ble_eq_true rfl) rfl ?_
        refine s_iconst E dX8_dealt_29 ?_
        refine s_istore (ls' := [_, _, _, _, _, _, _, _, _, _, _]) E dX8_dealt_30 (Nat.le_of_ble_eq_true rfl) rfl ?_
        exact lp_X8_dl32 M0 D k (by omega) (by omega) hm E (fun r M' h => hret r M' ⟨h.1, fun q => by omega, fun _ q => by omega, fun _ _ => h.2.1, fun _ _ => h.2.2⟩) 7 M0 0 0 _ _ _ _ _ _ (by decide) (by decide) ⟨rfl, by decide⟩ (fun q h1 h2 => by omega) (Fr.rf _ M0)
      · refine s_bipush E dX8_dealt_24 rfl ?_
        refine hret _ _ ?_ (fun q => by cases q) _ _ dX8_dealt_26
        exact ⟨KpM.rf M0, fun q => by omega, fun _ _ => rfl, fun _ q => by omega, fun _ q => by omega⟩
    · refine s_iconst E dX8_dealt_12 ?_
      refine hret _ _ ?_ (fun q => by cases q) _ _ dX8_dealt_13
      exact ⟨KpM.rf M0, fun _ => rfl, fun q => by omega, fun q => by omega, fun q => by omega⟩
