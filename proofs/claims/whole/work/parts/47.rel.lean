/-! ===== the class and the reference, side by side ===== -/
/-- what a kept state at b holds: bounds -/
def LB (M : Mm) (b : Int) : Prop := MOK (M (b + 13) 3) (M (b + 14)) (M (b + 15)) (M (b + 16)) ∧ (∀ k, 0 ≤ k → k < 6 → (0 ≤ M (b + 2) k ∧ M (b + 2) k ≤ 999) ∧ (0 ≤ M (b + 3) k ∧ M (b + 3) k ≤ 1) ∧ (0 ≤ M (b + 4) k ∧ M (b + 4) k ≤ 1) ∧ 0 ≤ M (b + 5) k ∧ M (b + 5) k ≤ 99) ∧ (0 ≤ M b 3 ∧ M b 3 ≤ 99) ∧ (0 ≤ M b 4 ∧ M b 4 ≤ 99) ∧ ∀ a c, 0 ≤ a → a < 6 → 0 ≤ c → c < 6 → 0 ≤ M (b + 7 + a) c ∧ M (b + 7 + a) c ≤ 99
/-- the living state: the class's is the reference's -/
def LV (M : Mm) : Prop := (∀ w k, 0 ≤ w → w < 4 → M (3 + w) k = M 80 (4 * k + w)) ∧ (M 1 3 = M 79 1 ∧ M 1 4 = M 79 2) ∧ (M 14 3 = M 79 5 ∧ (∀ j, M 15 j = M 82 (3 * j)) ∧ (∀ j, M 16 j = M 82 (3 * j + 1)) ∧ ∀ j, M 17 j = M 82 (3 * j + 2)) ∧ ∀ a c, 0 ≤ a → a < 6 → 0 ≤ c → c < 6 → M (8 + a) c = M 83 (6 * a + c)
/-- an image: the class's at b, the reference's from t on -/
def IM (M : Mm) (b t : Int) : Prop := (∀ w k, 0 ≤ w → w < 4 → 0 ≤ k → k < 6 → M (b + 2 + w) k = M 93 (t + 4 * k + w)) ∧ (M b 3 = M 93 (t + 85) ∧ M b 4 = M 93 (t + 86)) ∧ (M (b + 13) 3 = M 93 (t + 84) ∧ ∀ j, 0 ≤ j → j < 8 → M (b + 14) j = M 93 (t + 24 + 3 * j) ∧ M (b + 15) j = M 93 (t + 24 + 3 * j + 1) ∧ M (b + 16) j = M 93 (t + 24 + 3 * j + 2)) ∧ ∀ a c, 0 ≤ a → a < 6 → 0 ≤ c → c < 6 → M (b + 7 + a) c = M 93 (t + 48 + (6 * a + c))
def PD (M : Mm) : Prop := PadOK (M 21) (M 20 1) ∧ M 20 1 = M 79 3 ∧ ∀ j, M 21 j = M 81 j
def Rel (M : Mm) : Prop := LB M 1 ∧ LB M 45 ∧ LB M 62 ∧ LV M ∧ (M 19 0 = 1 → IM M 45 0) ∧ (M 19 1 = 1 → IM M 62 88) ∧ PD M ∧ ((M 19 0 = 0 ∨ M 19 0 = 1) ∧ M 19 0 = M 94 0) ∧ ((M 19 1 = 0 ∨ M 19 1 = 1) ∧ M 19 1 = M 94 1) ∧ M 38 0 = 0 ∧ M 39 0 = 0
/-- places that last -/
def Lst (k j : Int) : Prop := ¬ ((22 ≤ k ∧ k ≤ 36) ∨ (40 ≤ k ∧ k ≤ 44) ∨ ((k = 38 ∨ k = 39) ∧ j ≠ 0)) ∧ ¬ (84 ≤ k ∧ k ≤ 92) ∧ ¬ (k = 79 ∧ 10 ≤ j ∧ j ≤ 12)
def Sm (M M' : Mm) : Prop := ∀ k j, Lst k j → M' k j = M k j
theorem Sm.rf (M : Mm) : Sm M M := fun _ _ _ => rfl
theorem Sm.tr {M M1 M2 : Mm} (h : Sm M M1) (h2 : Sm M1 M2) : Sm M M2 := fun k j q => (h2 k j q).trans (h k j q)
theorem Kp.sm {M M' : Mm} (h : Kp M M') : Sm M M' := fun k j q => h k j q.1
theorem KpM.sm {M M' : Mm} (h : KpM M M') : Sm M M' := fun k j q => h k j q.2.1 q.2.2
theorem Sm.at {M M' : Mm} (h : Sm M M') {k j : Int} (hk : (k < 22 ∨ k = 37 ∨ (45 ≤ k ∧ k ≤ 78) ∨ (80 ≤ k ∧ k ≤ 83) ∨ 93 ≤ k) ∨ (k = 79 ∧ j < 10) ∨ ((k = 38 ∨ k = 39) ∧ j = 0)) : M' k j = M k j := h k j ⟨by omega, by omega, by omega⟩
theorem Sm.row {M M' : Mm} (h : Sm M M') {k : Int} (hk : k < 22 ∨ (45 ≤ k ∧ k ≤ 78) ∨ (80 ≤ k ∧ k ≤ 83) ∨ 93 ≤ k) : M' k = M k := funext fun _ => h.at (Or.inl (by omega))
theorem LB.keep {M M' : Mm} {b : Int} (h : LB M b) (hb : b = 1 ∨ b = 45 ∨ b = 62) (hS : Sm M M') : LB M' b := by
  unfold LB
  rw [hS.row (k := b + 13) (by omega), hS.row (k := b + 14) (by omega), hS.row (k := b + 15) (by omega), hS.row (k := b + 16) (by omega), hS.row (k := b + 2) (by omega), hS.row (k := b + 3) (by omega), hS.row (k := b + 4) (by omega), hS.row (k := b + 5) (by omega), hS.row (k := b) (by omega)]
  refine ⟨h.1, h.2.1, h.2.2.1, h.2.2.2.1, fun a c h1 h2 h3 h4 => ?_⟩
  rw [hS.row (k := b + 7 + a) (by omega)]
  exact h.2.2.2.2 a c h1 h2 h3 h4
theorem LV.keep {M M' : Mm} (h : LV M) (hS : Sm M M') : LV M' := by
  unfold LV
  rw [hS.row (k := 80) (by decide), hS.row (k := 1) (by decide), hS.row (k := 14) (by decide), hS.row (k := 15) (by decide), hS.row (k := 16) (by decide), hS.row (k := 17) (by decide), hS.row (k := 82) (by decide), hS.row (k := 83) (by decide), hS.at (k := 79) (j := 1) (by decide), hS.at (k := 79) (j := 2) (by decide), hS.at (k := 79) (j := 5) (by decide)]
  refine ⟨fun w k h1 h2 => ?_, h.2.1, h.2.2.1, fun a c h1 h2 h3 h4 => ?_⟩
  · rw [hS.row (k := 3 + w) (by omega)]
    exact h.1 w k h1 h2
  · rw [hS.row (k := 8 + a) (by omega)]
    exact h.2.2.2 a c h1 h2 h3 h4
theorem IM.keep {M M' : Mm} {b t : Int} (h : IM M b t) (hb : b = 45 ∨ b = 62) (hS : Sm M M') : IM M' b t := by
  unfold IM
  rw [hS.row (k := 93) (by decide), hS.row (k := b + 13) (by omega), hS.row (k := b + 14) (by omega), hS.row (k := b + 15) (by omega), hS.row (k := b + 16) (by omega), hS.row (k := b) (by omega)]
  refine ⟨fun w k h1 h2 h3 h4 => ?_, h.2.1, h.2.2.1, fun a c h1 h2 h3 h4 => ?_⟩
  · rw [hS.row (k := b + 2 + w) (by omega)]
    exact h.1 w k h1 h2 h3 h4
  · rw [hS.row (k := b + 7 + a) (by omega)]
    exact h.2.2.2 a c h1 h2 h3 h4
theorem PD.keep {M M' : Mm} (h : PD M) (hS : Sm M M') : PD M' := by
  unfold PD
  rw [hS.row (k := 21) (by decide), hS.row (k := 20) (by decide), hS.row (k := 81) (by decide), hS.at (k := 79) (j := 3) (by decide)]
  exact h
theorem Rel.keep {M M' : Mm} (h : Rel M) (hS : Sm M M') : Rel M' := by
  obtain ⟨h1, h2, h3, h4, h5, h6, h7, h8, h9, h10⟩ := h
  refine ⟨h1.keep (by decide) hS, h2.keep (by decide) hS, h3.keep (by decide) hS, h4.keep hS, fun w => (h5 (by rw [hS.row (k := 19) (by decide)] at w; exact w)).keep (by decide) hS, fun w => (h6 (by rw [hS.row (k := 19) (by decide)] at w; exact w)).keep (by decide) hS, h7.keep hS, ?_, ?_, ?_, ?_⟩
  · rw [hS.row (k := 19) (by decide), hS.row (k := 94) (by decide)]; exact h8
  · rw [hS.row (k := 19) (by decide), hS.row (k := 94) (by decide)]; exact h9
  · rw [hS.at (k := 38) (j := 0) (by decide)]; exact h10.1
  · rw [hS.at (k := 39) (j := 0) (by decide)]; exact h10.2
/-! what Rel gives the contracts -/
theorem Rel.pad {M : Mm} (h : Rel M) : PadOK (M 21) (M 20 1) := h.2.2.2.2.2.2.1.1
theorem Rel.e21 {M : Mm} (h : Rel M) : M 81 = M 21 := funext fun j => (h.2.2.2.2.2.2.1.2.2 j).symm
theorem Rel.e20 {M : Mm} (h : Rel M) : M 79 3 = M 20 1 := h.2.2.2.2.2.2.1.2.1.symm
theorem Rel.padM {M : Mm} (h : Rel M) : PadOK (M 81) (M 79 3) := by rw [h.e21, h.e20]; exact h.pad
theorem Rel.mok {M : Mm} (h : Rel M) : MOK (M 14 3) (M 15) (M 16) (M 17) := h.1.1
theorem Rel.eB {M : Mm} (h : Rel M) : mB M = M 15 := funext fun j => (h.2.2.2.1.2.2.1.2.1 j).symm
theorem Rel.eI {M : Mm} (h : Rel M) : mI M = M 16 := funext fun j => (h.2.2.2.1.2.2.1.2.2.1 j).symm
theorem Rel.eE {M : Mm} (h : Rel M) : mE M = M 17 := funext fun j => (h.2.2.2.1.2.2.1.2.2.2 j).symm
theorem Rel.e14 {M : Mm} (h : Rel M) : M 79 5 = M 14 3 := h.2.2.2.1.2.2.1.1.symm
theorem Rel.mokM {M : Mm} (h : Rel M) : MOK (M 79 5) (mB M) (mI M) (mE M) := by rw [h.e14, h.eB, h.eI, h.eE]; exact h.mok
theorem Rel.sv {M : Mm} (h : Rel M) : ∀ k, 0 ≤ k → k < 6 → 0 ≤ M 3 k ∧ M 3 k ≤ 999 := fun k h1 h2 => (h.1.2.1 k h1 h2).1
theorem Rel.e3 {M : Mm} (h : Rel M) : (fun k => M 80 (4 * k)) = M 3 := funext fun k => by
  have := h.2.2.2.1.1 0 k (by decide) (by decide)
  rw [Int.add_zero, Int.add_zero] at this
  exact this.symm
theorem Rel.svM {M : Mm} (h : Rel M) : ∀ k, 0 ≤ k → k < 6 → 0 ≤ M 80 (4 * k) ∧ M 80 (4 * k) ≤ 999 := fun k h1 h2 => by
  have e : M 80 (4 * k) = M 3 k := congrFun h.e3 k
  rw [e]
  exact h.sv k h1 h2
theorem Rel.enet {M : Mm} (h : Rel M) {a : Int} (ha : 0 ≤ a ∧ a < 6) : netF (fun x y => M 83 (6 * x + y)) a = netF (fun x y => M (8 + x) y) a := by
  unfold netF
  exact sumN_congr (fun j h1 h2 => by
    show M 83 (6 * a + j) - M 83 (6 * j + a) = M (8 + a) j - M (8 + j) a
    rw [h.2.2.2.1.2.2.2 a j ha.1 ha.2 h1 (by omega), h.2.2.2.1.2.2.2 j a h1 (by omega) ha.1 ha.2])
theorem Rel.netR {M : Mm} (h : Rel M) : ∀ k, 0 ≤ k → k < 6 → -1000 ≤ (netF (fun x y => M (8 + x) y)) k ∧ (netF (fun x y => M (8 + x) y)) k ≤ 1000 := fun k h1 h2 => by
  have := sumN_rng (g := fun j => M (8 + k) j - M (8 + j) k) (a := -99) (b := 99) (n := 6) (fun j h3 h4 => by
    have a := h.1.2.2.2.2 k j h1 h2 h3 (by omega)
    have b := h.1.2.2.2.2 j k h3 (by omega) h1 h2
    rw [show (1 : Int) + 7 + k = 8 + k by omega] at a
    rw [show (1 : Int) + 7 + j = 8 + j by omega] at b
    omega)
  show -1000 ≤ sumN (fun j => M (8 + k) j - M (8 + j) k) 6 ∧ sumN (fun j => M (8 + k) j - M (8 + j) k) 6 ≤ 1000
  omega

/-! the calls that write nothing that lasts -/
theorem rel_same {M M1 M2 : Mm} (h : Rel M) (h1 : M1 = M) (h2 : M2 = M1) : Rel M2 := by rw [h2, h1]; exact h
theorem a_fault {M : Mm} (h : Rel M) (w : Int) : (if w = 0 then sFault (M 21) (M 20 1) else if w = 1 then bFault (M 21) (M 20 1) else -2) = (if w = 0 then sFault (M 81) (M 79 3) else if w = 1 then bFault (M 81) (M 79 3) else -2) := by rw [h.e21, h.e20]
theorem a_about {M : Mm} (h : Rel M) (k w : Int) : (if 0 ≤ k ∧ k < M 14 3 then (if w = 0 then M 15 k else if w = 1 then M 16 k else if w = 2 then M 17 k else -2) else -1) = (if 0 ≤ k ∧ k < M 79 5 then (if w = 0 then M 82 (3 * k) else if w = 1 then M 82 (3 * k + 1) else if w = 2 then M 82 (3 * k + 2) else -2) else -1) := by
  rw [h.e14, ← h.eB, ← h.eI, ← h.eE]
  rfl
theorem a_net {M : Mm} (h : Rel M) (a : Int) : (if 0 ≤ a ∧ a < 6 then netF (fun x y => M (8 + x) y) a + 1000 else -1) = (if 0 ≤ a ∧ a < 6 then netF (fun x y => M 83 (6 * x + y)) a + 1000 else -1) := by
  by_cases e : 0 ≤ a ∧ a < 6
  · rw [if_pos e, if_pos e, h.enet e]
  · rw [if_neg e, if_neg e]
theorem a_floor {M : Mm} (h : Rel M) (s : Int) : (if 0 ≤ s ∧ s < 64 then flr (M 3) s else -2) = (if 0 ≤ s ∧ s < 64 then flr (fun k => M 80 (4 * k)) s else -2) := by rw [h.e3]
theorem a_friends {M : Mm} (h : Rel M) (w z : Int) : (if 0 ≤ w ∧ w < 6 then (if 0 ≤ z ∧ z ≤ 999 then frl (flr (M 3)) w z 63 1 (-6) else -2) else -1) = (if 0 ≤ w ∧ w < 6 then (if 0 ≤ z ∧ z ≤ 999 then frl (flr (fun k => M 80 (4 * k))) w z 63 1 (-6) else -2) else -1) := by rw [h.e3]
theorem a_told {M : Mm} (h : Rel M) (w : Int) : (if 100 ≤ w ∧ w < 136 then M (8 + (w - 100) / 6) ((w - 100) % 6) else if 10 ≤ w ∧ w < 50 ∧ w % 10 < 6 then M (3 + (w / 10 - 1)) (w % 10) else if w = 0 then M 20 1 else if w = 1 then M 14 3 else if w = 2 then M 1 3 else if w = 3 then M 1 4 else -2) = (if 100 ≤ w ∧ w < 136 then M 83 (w - 100) else if 10 ≤ w ∧ w < 50 ∧ w % 10 < 6 then M 80 (4 * (w % 10) + w / 10 - 1) else if w = 0 then M 79 3 else if w = 1 then M 79 5 else if w = 2 then M 79 1 else if w = 3 then M 79 2 else -2) := by
  have hl := h.2.2.2.1
  by_cases e1 : 100 ≤ w ∧ w < 136
  · rw [if_pos e1, if_pos e1, hl.2.2.2 _ _ (by omega) (by omega) (by omega) (by omega)]
    congr 1
    omega
  · rw [if_neg e1, if_neg e1]
    by_cases e2 : 10 ≤ w ∧ w < 50 ∧ w % 10 < 6
    · rw [if_pos e2, if_pos e2, hl.1 _ _ (by omega) (by omega)]
      congr 1
      omega
    · rw [if_neg e2, if_neg e2, h.e20, h.e14, hl.2.1.1, hl.2.1.2]
theorem Rel.sits {M : Mm} (h : Rel M) : SITM M = SITC M := by
  have hl := h.2.2.2.1
  have e : (fun w k => M 80 (4 * k + w) : Mm) = fun w k => M 80 (4 * k + w) := rfl
  unfold SITM SITC
  rw [h.e21, h.e20, hl.2.1.1, hl.2.1.2]
  congr 1
  unfold sit0
  funext w k
  (repeat' split) <;> first | rfl | exact (hl.1 _ _ (by omega) (by omega)).symm
theorem Rel.lc {M : Mm} (h : Rel M) : LcM M = Lc M := by
  unfold LcM Lc
  rw [h.e14, h.eB, h.eI, h.e3]
theorem Rel.ett {M : Mm} (h : Rel M) : tt (M 79 5) (mI M) (full (M 79 5)) = sumN (M 16) (M 14 3).toNat := by
  rw [h.e14, h.eI, tt_full ⟨h.mok.1, h.mok.2.1⟩]
theorem Rel.nh {M : Mm} (h : Rel M) : nM M = nH M := by
  unfold nM nH
  rw [h.e14, h.eB]
theorem Rel.vc {M : Mm} (h : Rel M) : VM M = VC M := by
  unfold VM VC
  rw [h.e14, h.eB, h.eI, h.eE]
theorem GG_congr {f g : Int → Int} (h : ∀ k, 0 ≤ k → k < 6 → f k = g k) (s : Int) : GG f s = GG g s := by
  have hs : ∀ s, sumS f s = sumS g s := fun s => sumN_congr (fun j h1 h2 => by show sb s j * f j = sb s j * g j; rw [h j h1 (by omega)])
  have hG : ∀ n : Nat, Gt f n = Gt g n := fun n => by
    induction n with
    | zero => rfl
    | succ n ih =>
      show (fun s => if s = (n : Int) then vG f (Gt f n) s else Gt f n s) = fun s => if s = (n : Int) then vG g (Gt g n) s else Gt g n s
      rw [ih]
      funext s
      unfold vG
      rw [hs s]
  unfold GG
  rw [hG 64]
/-! one call, both sides: the class's call from M to M1, the reference's from M1 to M2 -/
theorem o_sits {M M1 M2 : Mm} {r r' w : Int} (h : Rel M) (h7 : r = (if ((0 ≤ w ∧ w ≤ 2) ∨ (10 ≤ w ∧ w < 40 ∧ w % 10 < 6)) then (if sFault (M 21) (M 20 1) = -6 then sitR (SITC M) w else -5) else -2) ∧ Kp M M1) (h8 : r' = (if ((0 ≤ w ∧ w ≤ 2) ∨ (10 ≤ w ∧ w < 40 ∧ w % 10 < 6)) then (if sFault (M1 81) (M1 79 3) = -6 then sitR (SITM M1) w else -5) else -2) ∧ KpM M1 M2) : r = r' ∧ Rel M2 := by
  have hS := h7.2.sm
  have hR := h.keep hS
  refine ⟨?_, hR.keep h8.2.sm⟩
  have e : SITC M1 = SITC M := by
    unfold SITC
    rw [hS.row (k := 21) (by decide), hS.row (k := 20) (by decide), hS.row (k := 1) (by decide)]
    congr 1
    unfold sit0
    funext w k
    (repeat' split) <;> first | rfl | exact hS.at (by omega)
  rw [h7.1, h8.1, hR.e21, hR.e20, hR.sits, e, hS.row (k := 21) (by decide), hS.row (k := 20) (by decide)]
theorem o_least {M M1 M2 : Mm} {r r' i : Int} (h : Rel M) (h7 : (i < -1 ∨ M 14 3 ≤ i → r = -6 ∧ Kp M M1) ∧ (¬ (i < -1 ∨ M 14 3 ≤ i) → ∃ R, 0 ≤ R ∧ R ≤ 2000 ∧ IsP (M 14 3) (Lc M) (M 17) R ∧ r = (if i = -1 then sumN (M 16) (M 14 3).toNat + R else nx (M 14 3) (Lc M) (M 17) R (sq (M 14 3) (Lc M) (M 17) R i.toNat)) ∧ Kp M M1))
    (h8 : (i < -1 ∨ M1 79 5 ≤ i → r' = -6 ∧ KpM M1 M2) ∧ (¬ (i < -1 ∨ M1 79 5 ≤ i) → ∃ R, 0 ≤ R ∧ R ≤ 2000 ∧ IsP (M1 79 5) (LcM M1) (mE M1) R ∧ r' = (if i = -1 then tt (M1 79 5) (mI M1) (full (M1 79 5)) + R else nx (M1 79 5) (LcM M1) (mE M1) R (sq (M1 79 5) (LcM M1) (mE M1) R i.toNat)) ∧ KpM M1 M2)) : r = r' ∧ Rel M2 := by
  have hk : Kp M M1 := by
    by_cases e : i < -1 ∨ M 14 3 ≤ i
    · exact (h7.1 e).2
    · exact ((h7.2 e).choose_spec).2.2.2.2
  have hS := hk.sm
  have hR := h.keep hS
  have eL : Lc M1 = Lc M := by
    unfold Lc
    rw [hS.row (k := 14) (by decide), hS.row (k := 15) (by decide), hS.row (k := 16) (by decide), hS.row (k := 3) (by decide)]
  rw [hR.e14, hR.lc, hR.eE, eL, hS.row (k := 14) (by decide), hS.row (k := 17) (by decide)] at h8
  have ett : tt (M 14 3) (mI M1) (full (M 14 3)) = sumN (M 16) (M 14 3).toNat := by rw [hR.eI, hS.row (k := 16) (by decide), tt_full ⟨h.mok.1, h.mok.2.1⟩]
  rw [ett] at h8
  by_cases e : i < -1 ∨ M 14 3 ≤ i
  · exact ⟨by rw [(h7.1 e).1, (h8.1 e).1], hR.keep (h8.1 e).2.sm⟩
  · obtain ⟨R, q1, q2, q3, q4, _⟩ := h7.2 e
    obtain ⟨R', w1, w2, w3, w4, w5⟩ := h8.2 e
    have : R = R' := q3.uniq w3 (by omega) (by omega)
    subst this
    exact ⟨by rw [q4, w4], hR.keep w5.sm⟩
theorem o_dealt {M M1 M2 : Mm} {r r' D k : Int} (h : Rel M) (h7 : Kp M M1 ∧ (¬ (k = -1 ∨ (0 ≤ k ∧ k < 6)) → r = -1) ∧ ((k = -1 ∨ (0 ≤ k ∧ k < 6)) → ¬ (0 ≤ D ∧ D ≤ 20) → r = -2) ∧ ((k = -1 ∨ (0 ≤ k ∧ k < 6)) → (0 ≤ D ∧ D ≤ 20) → ¬ (1 ≤ nH M ∧ nH M ≤ 4) → r = -5) ∧ ((k = -1 ∨ (0 ≤ k ∧ k < 6)) → (0 ≤ D ∧ D ≤ 20) → (1 ≤ nH M ∧ nH M ≤ 4) → (k = -1 → r = sumN (M 16) (M 14 3).toNat + (DR (VC M) (nH M) D).1) ∧ (k ≠ -1 → hasP (M 14 3) (M 15) k → r = (DR (VC M) (nH M) D).2 (ps (M 14 3) (M 15) k)) ∧ (k ≠ -1 → ¬ hasP (M 14 3) (M 15) k → r = -6)))
    (h8 : KpM M1 M2 ∧ (¬ (k = -1 ∨ (0 ≤ k ∧ k < 6)) → r' = -1) ∧ ((k = -1 ∨ (0 ≤ k ∧ k < 6)) → ¬ (0 ≤ D ∧ D ≤ 20) → r' = -2) ∧ ((k = -1 ∨ (0 ≤ k ∧ k < 6)) → (0 ≤ D ∧ D ≤ 20) → ¬ (1 ≤ nM M1 ∧ nM M1 ≤ 4) → r' = -5) ∧ ((k = -1 ∨ (0 ≤ k ∧ k < 6)) → (0 ≤ D ∧ D ≤ 20) → (1 ≤ nM M1 ∧ nM M1 ≤ 4) → (k = -1 → r' = TM M1 + (DR (VM M1) (nM M1) D).1) ∧ (k ≠ -1 → hasP (M1 79 5) (mB M1) k → r' = (DR (VM M1) (nM M1) D).2 (ps (M1 79 5) (mB M1) k)) ∧ (k ≠ -1 → ¬ hasP (M1 79 5) (mB M1) k → r' = -6))) : r = r' ∧ Rel M2 := by
  have hS := h7.1.sm
  have hR := h.keep hS
  refine ⟨?_, hR.keep h8.1.sm⟩
  have e14 : M1 14 = M 14 := hS.row (by decide)
  have e15 : M1 15 = M 15 := hS.row (by decide)
  have e16 : M1 16 = M 16 := hS.row (by decide)
  have e17 : M1 17 = M 17 := hS.row (by decide)
  have eV : VC M1 = VC M := by unfold VC; rw [e14, e15, e16, e17]
  have eH : nH M1 = nH M := by unfold nH; rw [e14, e15]
  have eT : TM M1 = sumN (M 16) (M 14 3).toNat := by unfold TM; rw [hR.ett, e16, e14]
  rw [hR.nh, hR.vc, hR.e14, hR.eB, eT, eV, eH, e14, e15] at h8
  obtain ⟨_, a1, a2, a3, a4⟩ := h7
  obtain ⟨_, b1, b2', b3, b4⟩ := h8
  by_cases c1 : k = -1 ∨ (0 ≤ k ∧ k < 6)
  · by_cases c2 : 0 ≤ D ∧ D ≤ 20
    · by_cases c3 : 1 ≤ nH M ∧ nH M ≤ 4
      · have a := a4 c1 c2 c3
        have b := b4 c1 c2 c3
        by_cases c4 : k = -1
        · rw [a.1 c4, b.1 c4]
        · by_cases c5 : hasP (M 14 3) (M 15) k
          · rw [a.2.1 c4 c5, b.2.1 c4 c5]
          · rw [a.2.2 c4 c5, b.2.2 c4 c5]
      · rw [a3 c1 c2 c3, b3 c1 c2 c3]
    · rw [a2 c1 c2, b2' c1 c2]
  · rw [a1 c1, b1 c1]
theorem o_gifts {M M1 M2 : Mm} {r r' : Int} (h : Rel M) (h7 : r = 6 - GG (netF (fun x y => M (8 + x) y)) 63 ∧ Kp M M1) (h8 : r' = 6 - GG (netF (fun x y => M1 83 (6 * x + y))) 63 ∧ KpM M1 M2) : r = r' ∧ Rel M2 := by
  have hS := h7.2.sm
  have hR := h.keep hS
  refine ⟨?_, hR.keep h8.2.sm⟩
  rw [h7.1, h8.1, GG_congr (f := netF (fun x y => M1 83 (6 * x + y))) (g := netF (fun x y => M (8 + x) y)) (fun k h1 h2 => by
    rw [hS.row (k := 83) (by decide)]
    exact h.enet ⟨h1, h2⟩) 63]
theorem o_filled {M M1 M2 : Mm} {r r' a b : Int} (h : Rel M) (h7 : (bFault (M 21) (M 20 1) ≠ -6 → r = -5) ∧ (bFault (M 21) (M 20 1) = -6 → ATF (M 21) (M 20 1) (M 3) a b r) ∧ Kp M M1) (h8 : (bFault (M1 81) (M1 79 3) ≠ -6 → r' = -5) ∧ (bFault (M1 81) (M1 79 3) = -6 → ATF (M1 81) (M1 79 3) (fun k => M1 80 (4 * k)) a b r') ∧ KpM M1 M2) : r = r' ∧ Rel M2 := by
  have hS := h7.2.2.sm
  have hR := h.keep hS
  refine ⟨?_, hR.keep h8.2.2.sm⟩
  rw [hR.e21, hR.e20, hR.e3, hS.row (k := 21) (by decide), hS.row (k := 20) (by decide), hS.row (k := 3) (by decide)] at h8
  by_cases e : bFault (M 21) (M 20 1) = -6
  · exact ATF_uq (h7.2.1 e) (h8.2.1 e)
  · rw [h7.1 e, h8.1 e]
theorem o_lie {M M1 M2 : Mm} {r r' : Int} (h : Rel M) (h7 : (bFault (M 21) (M 20 1) ≠ -6 → r = -5) ∧ (bFault (M 21) (M 20 1) = -6 → r = if FD (M 21) (M 20 1).toNat 0 (M 3) = M 20 1 then -6 else FD (M 21) (M 20 1).toNat 0 (M 3)) ∧ Kp M M1) (h8 : (bFault (M1 81) (M1 79 3) ≠ -6 → r' = -5) ∧ (bFault (M1 81) (M1 79 3) = -6 → r' = if FD (M1 81) (M1 79 3).toNat 0 (fun k => M1 80 (4 * k)) = M1 79 3 then -6 else FD (M1 81) (M1 79 3).toNat 0 (fun k => M1 80 (4 * k))) ∧ KpM M1 M2) : r = r' ∧ Rel M2 := by
  have hS := h7.2.2.sm
  have hR := h.keep hS
  refine ⟨?_, hR.keep h8.2.2.sm⟩
  rw [hR.e21, hR.e20, hR.e3, hS.row (k := 21) (by decide), hS.row (k := 20) (by decide), hS.row (k := 3) (by decide)] at h8
  by_cases e : bFault (M 21) (M 20 1) = -6
  · rw [h7.2.1 e, h8.2.1 e]
  · rw [h7.1 e, h8.1 e]