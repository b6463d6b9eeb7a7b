/-! ===== the class and the reference, side by side ===== -/
/-- what a kept state at b holds: bounds -/
def LB (M : Mm) (b : Int) : Prop := MOK (M (b + 13) 3) (M (b + 14)) (M (b + 15)) (M (b + 16)) ∧ (∀ k, 0 ≤ k → k < 6 → (0 ≤ M (b + 2) k ∧ M (b + 2) k ≤ 999) ∧ (0 ≤ M (b + 3) k ∧ M (b + 3) k ≤ 1) ∧ (0 ≤ M (b + 4) k ∧ M (b + 4) k ≤ 1) ∧ 0 ≤ M (b + 5) k ∧ M (b + 5) k ≤ 99) ∧ (0 ≤ M b 3 ∧ M b 3 ≤ 99) ∧ (0 ≤ M b 4 ∧ M b 4 ≤ 99) ∧ ∀ a c, 0 ≤ a → a < 6 → 0 ≤ c → c < 6 → 0 ≤ M (b + 7 + a) c ∧ M (b + 7 + a) c ≤ 99
/-- the living state: the class's is the reference's -/
def LV (M : Mm) : Prop := (∀ w k, 0 ≤ w → w < 4 → M (3 + w) k = M 80 (4 * k + w)) ∧ (M 1 3 = M 79 1 ∧ M 1 4 = M 79 2) ∧ (M 14 3 = M 79 5 ∧ (∀ j, M 15 j = M 82 (3 * j)) ∧ (∀ j, M 16 j = M 82 (3 * j + 1)) ∧ ∀ j, M 17 j = M 82 (3 * j + 2)) ∧ ∀ a c, 0 ≤ a → a < 6 → 0 ≤ c → c < 6 → M (8 + a) c = M 83 (6 * a + c)
/-- an image: the class's at b, the reference's from t on -/
def IM (M : Mm) (b t : Int) : Prop := (∀ w k, 0 ≤ w → w < 4 → 0 ≤ k → k < 6 → M (b + 2 + w) k = M 93 (t + 4 * k + w)) ∧ (M b 3 = M 93 (t + 85) ∧ M b 4 = M 93 (t + 86)) ∧ (M (b + 13) 3 = M 93 (t + 84) ∧ ∀ j, 0 ≤ j → j < 8 → M (b + 14) j = M 93 (t + 24 + 3 * j) ∧ M (b + 15) j = M 93 (t + 24 + 3 * j + 1) ∧ M (b + 16) j = M 93 (t + 24 + 3 * j + 2)) ∧ ∀ a c, 0 ≤ a → a < 6 → 0 ≤ c → c < 6 → M (b + 7 + a) c = M 93 (t + 48 + (6 * a + c))
def PD (M : Mm) : Prop := PadOK (M 21) (M 20 1) ∧ M 20 1 = M 79 3 ∧ ∀ j, M 21 j = M 81 j
def Rel (M : Mm) : Prop := LB M 1 ∧ LB M 45 ∧ LB M 62 ∧ LV M ∧ IM M 45 0 ∧ IM M 62 88 ∧ PD M ∧ ((M 19 0 = 0 ∨ M 19 0 = 1) ∧ M 19 0 = M 94 0) ∧ ((M 19 1 = 0 ∨ M 19 1 = 1) ∧ M 19 1 = M 94 1) ∧ M 38 0 = 0 ∧ M 39 0 = 0
/-- places that last -/
def Lst (k j : Int) : Prop := ¬ ((22 ≤ k ∧ k ≤ 36) ∨ (40 ≤ k ∧ k ≤ 44) ∨ ((k = 38 ∨ k = 39) ∧ j ≠ 0)) ∧ ¬ (84 ≤ k ∧ k ≤ 92) ∧ ¬ (k = 79 ∧ 10 ≤ j ∧ j ≤ 12)
def Sm (M M' : Mm) : Prop := ∀ k j, Lst k j → M' k j = M k j
theorem Sm.rf (M : Mm) : Sm M M := fun _ _ _ => rfl
theorem Sm.tr {M M1 M2 : Mm} (h : Sm M M1) (h2 : Sm M1 M2) : Sm M M2 := fun k j q => (h2 k j q).trans (h k j q)
theorem Kp.sm {M M' : Mm} (h : Kp M M') : Sm M M' := fun k j q => h k j q.1
theorem KpM.sm {M M' : Mm} (h : KpM M M') : Sm M M' := fun k j q => h k j q.2.1 q.2.2
theorem Sm.at {M M' : Mm} (h : Sm M M') {k j : Int} (hk : (k < 22 ∨ k = 37 ∨ (45 ≤ k ∧ k ≤ 78) ∨ (80 ≤ k ∧ k ≤ 83) ∨ 93 ≤ k) ∨ (k = 79 ∧ j < 10) ∨ ((k = 38 ∨ k = 39) ∧ j = 0)) : M' k j = M k j := h k j ⟨by omega, by omega, by omega⟩
theorem Sm.row {M M' : Mm} (h : Sm M M') {k : Int} (hk : k < 22 ∨ (45 ≤ k ∧ k ≤ 78) ∨ (80 ≤ k ∧ k ≤ 83) ∨ 93 ≤ k) : M' k = M k := funext fun _ => h.at (Or.inl (by omega))
theorem LB.keep {M M' : Mm} {b : Int} (h : LB M b) (hb : b = 1 ∨ b = 45 ∨ b = 62) (hS : Sm M M') : LB M' b := by
  unfold LB
  rw [hS.row (k := b + 13) (by omega), hS.row (k := b + 14) (by omega), hS.row (k := b + 15) (by omega), hS.row (k := b + 16) (by omega), hS.row (k := b + 2) (by omega), hS.row (k := b + 3) (by omega), hS.row (k := b + 4) (by omega), hS.row (k := b + 5) (by omega), hS.row (k := b) (by omega)]
  refine ⟨h.1, h.2.1, h.2.2.1, h.2.2.2.1, fun a c h1 h2 h3 h4 => ?_⟩
  rw [hS.row (k := b + 7 + a) (by omega)]
  exact h.2.2.2.2 a c h1 h2 h3 h4
theorem LV.keep {M M' : Mm} (h : LV M) (hS : Sm M M') : LV M' := by
  unfold LV
  rw [hS.row (k := 80) (by decide), hS.row (k := 1) (by decide), hS.row (k := 14) (by decide), hS.row (k := 15) (by decide), hS.row (k := 16) (by decide), hS.row (k := 17) (by decide), hS.row (k := 82) (by decide), hS.row (k := 83) (by decide), hS.at (k := 79) (j := 1) (by decide), hS.at (k := 79) (j := 2) (by decide), hS.at (k := 79) (j := 5) (by decide)]
  refine ⟨fun w k h1 h2 => ?_, h.2.1, h.2.2.1, fun a c h1 h2 h3 h4 => ?_⟩
  · rw [hS.row (k := 3 + w) (by omega)]
    exact h.1 w k h1 h2
  · rw [hS.row (k := 8 + a) (by omega)]
    exact h.2.2.2 a c h1 h2 h3 h4
theorem IM.keep {M M' : Mm} {b t : Int} (h : IM M b t) (hb : b = 45 ∨ b = 62) (hS : Sm M M') : IM M' b t := by
  unfold IM
  rw [hS.row (k := 93) (by decide), hS.row (k := b + 13) (by omega), hS.row (k := b + 14) (by omega), hS.row (k := b + 15) (by omega), hS.row (k := b + 16) (by omega), hS.row (k := b) (by omega)]
  refine ⟨fun w k h1 h2 h3 h4 => ?_, h.2.1, h.2.2.1, fun a c h1 h2 h3 h4 => ?_⟩
  · rw [hS.row (k := b + 2 + w) (by omega)]
    exact h.1 w k h1 h2 h3 h4
  · rw [hS.row (k := b + 7 + a) (by omega)]
    exact h.2.2.2 a c h1 h2 h3 h4
theorem PD.keep {M M' : Mm} (h : PD M) (hS : Sm M M') : PD M' := by
  unfold PD
  rw [hS.row (k := 21) (by decide), hS.row (k := 20) (by decide), hS.row (k := 81) (by decide), hS.at (k := 79) (j := 3) (by decide)]
  exact h
theorem Rel.keep {M M' : Mm} (h : Rel M) (hS : Sm M M') : Rel M' := by
  obtain ⟨h1, h2, h3, h4, h5, h6, h7, h8, h9, h10⟩ := h
  refine ⟨h1.keep (by decide) hS, h2.keep (by decide) hS, h3.keep (by decide) hS, h4.keep hS, h5.keep (by decide) hS, h6.keep (by decide) hS, h7.keep hS, ?_, ?_, ?_, ?_⟩
  · rw [hS.row (k := 19) (by decide), hS.row (k := 94) (by decide)]; exact h8
  · rw [hS.row (k := 19) (by decide), hS.row (k := 94) (by decide)]; exact h9
  · rw [hS.at (k := 38) (j := 0) (by decide)]; exact h10.1
  · rw [hS.at (k := 39) (j := 0) (by decide)]; exact h10.2
/-! what Rel gives the contracts -/
theorem Rel.pad {M : Mm} (h : Rel M) : PadOK (M 21) (M 20 1) := h.2.2.2.2.2.2.1.1
theorem Rel.e21 {M : Mm} (h : Rel M) : M 81 = M 21 := funext fun j => (h.2.2.2.2.2.2.1.2.2 j).symm
theorem Rel.e20 {M : Mm} (h : Rel M) : M 79 3 = M 20 1 := h.2.2.2.2.2.2.1.2.1.symm
theorem Rel.padM {M : Mm} (h : Rel M) : PadOK (M 81) (M 79 3) := by rw [h.e21, h.e20]; exact h.pad
theorem Rel.mok {M : Mm} (h : Rel M) : MOK (M 14 3) (M 15) (M 16) (M 17) := h.1.1
theorem Rel.eB {M : Mm} (h : Rel M) : mB M = M 15 := funext fun j => (h.2.2.2.1.2.2.1.2.1 j).symm
theorem Rel.eI {M : Mm} (h : Rel M) : mI M = M 16 := funext fun j => (h.2.2.2.1.2.2.1.2.2.1 j).symm
theorem Rel.eE {M : Mm} (h : Rel M) : mE M = M 17 := funext fun j => (h.2.2.2.1.2.2.1.2.2.2 j).symm
theorem Rel.e14 {M : Mm} (h : Rel M) : M 79 5 = M 14 3 := h.2.2.2.1.2.2.1.1.symm
theorem Rel.mokM {M : Mm} (h : Rel M) : MOK (M 79 5) (mB M) (mI M) (mE M) := by rw [h.e14, h.eB, h.eI, h.eE]; exact h.mok
theorem Rel.sv {M : Mm} (h : Rel M) : ∀ k, 0 ≤ k → k < 6 → 0 ≤ M 3 k ∧ M 3 k ≤ 999 := fun k h1 h2 => (h.1.2.1 k h1 h2).1
theorem Rel.e3 {M : Mm} (h : Rel M) : (fun k => M 80 (4 * k)) = M 3 := funext fun k => by
  have := h.2.2.2.1.1 0 k (by decide) (by decide)
  rw [Int.add_zero, Int.add_zero] at this
  exact this.symm
theorem Rel.svM {M : Mm} (h : Rel M) : ∀ k, 0 ≤ k → k < 6 → 0 ≤ M 80 (4 * k) ∧ M 80 (4 * k) ≤ 999 := fun k h1 h2 => by
  have e : M 80 (4 * k) = M 3 k := congrFun h.e3 k
  rw [e]
  exact h.sv k h1 h2
theorem Rel.enet {M : Mm} (h : Rel M) {a : Int} (ha : 0 ≤ a ∧ a < 6) : netF (fun x y => M 83 (6 * x + y)) a = netF (fun x y => M (8 + x) y) a := by
  unfold netF
  exact sumN_congr (fun j h1 h2 => by
    show M 83 (6 * a + j) - M 83 (6 * j + a) = M (8 + a) j - M (8 + j) a
    rw [h.2.2.2.1.2.2.2 a j ha.1 ha.2 h1 (by omega), h.2.2.2.1.2.2.2 j a h1 (by omega) ha.1 ha.2])
theorem Rel.netR {M : Mm} (h : Rel M) : ∀ k, 0 ≤ k → k < 6 → -1000 ≤ (netF (fun x y => M (8 + x) y)) k ∧ (netF (fun x y => M (8 + x) y)) k ≤ 1000 := fun k h1 h2 => by
  have := sumN_rng (g := fun j => M (8 + k) j - M (8 + j) k) (a := -99) (b := 99) (n := 6) (fun j h3 h4 => by
    have a := h.1.2.2.2.2 k j h1 h2 h3 (by omega)
    have b := h.1.2.2.2.2 j k h3 (by omega) h1 h2
    rw [show (1 : Int) + 7 + k = 8 + k by omega] at a
    rw [show (1 : Int) + 7 + j = 8 + j by omega] at b
    omega)
  show -1000 ≤ sumN (fun j => M (8 + k) j - M (8 + j) k) 6 ∧ sumN (fun j => M (8 + k) j - M (8 + j) k) 6 ≤ 1000
  omega

/-! the calls that write nothing that lasts -/
theorem rel_same {M M1 M2 : Mm} (h : Rel M) (h1 : M1 = M) (h2 : M2 = M1) : Rel M2 := by rw [h2, h1]; exact h
theorem a_fault {M : Mm} (h : Rel M) (w : Int) : (if w = 0 then sFault (M 21) (M 20 1) else if w = 1 then bFault (M 21) (M 20 1) else -2) = (if w = 0 then sFault (M 81) (M 79 3) else if w = 1 then bFault (M 81) (M 79 3) else -2) := by rw [h.e21, h.e20]
theorem a_about {M : Mm} (h : Rel M) (k w : Int) : (if 0 ≤ k ∧ k < M 14 3 then (if w = 0 then M 15 k else if w = 1 then M 16 k else if w = 2 then M 17 k else -2) else -1) = (if 0 ≤ k ∧ k < M 79 5 then (if w = 0 then M 82 (3 * k) else if w = 1 then M 82 (3 * k + 1) else if w = 2 then M 82 (3 * k + 2) else -2) else -1) := by
  rw [h.e14, ← h.eB, ← h.eI, ← h.eE]
  rfl
theorem a_net {M : Mm} (h : Rel M) (a : Int) : (if 0 ≤ a ∧ a < 6 then netF (fun x y => M (8 + x) y) a + 1000 else -1) = (if 0 ≤ a ∧ a < 6 then netF (fun x y => M 83 (6 * x + y)) a + 1000 else -1) := by
  by_cases e : 0 ≤ a ∧ a < 6
  · rw [if_pos e, if_pos e, h.enet e]
  · rw [if_neg e, if_neg e]
theorem a_floor {M : Mm} (h : Rel M) (s : Int) : (if 0 ≤ s ∧ s < 64 then flr (M 3) s else -2) = (if 0 ≤ s ∧ s < 64 then flr (fun k => M 80 (4 * k)) s else -2) := by rw [h.e3]
theorem a_friends {M : Mm} (h : Rel M) (w z : Int) : (if 0 ≤ w ∧ w < 6 then (if 0 ≤ z ∧ z ≤ 999 then frl (flr (M 3)) w z 63 1 (-6) else -2) else -1) = (if 0 ≤ w ∧ w < 6 then (if 0 ≤ z ∧ z ≤ 999 then frl (flr (fun k => M 80 (4 * k))) w z 63 1 (-6) else -2) else -1) := by rw [h.e3]
theorem a_told {M : Mm} (h : Rel M) (w : Int) : (if 100 ≤ w ∧ w < 136 then M (8 + (w - 100) / 6) ((w - 100) % 6) else if 10 ≤ w ∧ w < 50 ∧ w % 10 < 6 then M (3 + (w / 10 - 1)) (w % 10) else if w = 0 then M 20 1 else if w = 1 then M 14 3 else if w = 2 then M 1 3 else if w = 3 then M 1 4 else -2) = (if 100 ≤ w ∧ w < 136 then M 83 (w - 100) else if 10 ≤ w ∧ w < 50 ∧ w % 10 < 6 then M 80 (4 * (w % 10) + w / 10 - 1) else if w = 0 then M 79 3 else if w = 1 then M 79 5 else if w = 2 then M 79 1 else if w = 3 then M 79 2 else -2) := by
  have hl := h.2.2.2.1
  by_cases e1 : 100 ≤ w ∧ w < 136
  · rw [if_pos e1, if_pos e1, hl.2.2.2 _ _ (by omega) (by omega) (by omega) (by omega)]
    congr 1
    omega
  · rw [if_neg e1, if_neg e1]
    by_cases e2 : 10 ≤ w ∧ w < 50 ∧ w % 10 < 6
    · rw [if_pos e2, if_pos e2, hl.1 _ _ (by omega) (by omega)]
      congr 1
      omega
    · rw [if_neg e2, if_neg e2, h.e20, h.e14, hl.2.1.1, hl.2.1.2]
theorem Rel.sits {M : Mm} (h : Rel M) : SITM M = SITC M := by
  have hl := h.2.2.2.1
  have e : (fun w k => M 80 (4 * k + w) : Mm) = fun w k => M 80 (4 * k + w) := rfl
  unfold SITM SITC
  rw [h.e21, h.e20, hl.2.1.1, hl.2.1.2]
  congr 1
  unfold sit0
  funext w k
  (repeat' split) <;> first | rfl | exact (hl.1 _ _ (by omega) (by omega)).symm
theorem Rel.lc {M : Mm} (h : Rel M) : LcM M = Lc M := by
  unfold LcM Lc
  rw [h.e14, h.eB, h.eI, h.e3]
theorem Rel.ett {M : Mm} (h : Rel M) : tt (M 79 5) (mI M) (full (M 79 5)) = sumN (M 16) (M 14 3).toNat := by
  rw [h.e14, h.eI, tt_full ⟨h.mok.1, h.mok.2.1⟩]
theorem Rel.nh {M : Mm} (h : Rel M) : nM M = nH M := by
  unfold nM nH
  rw [h.e14, h.eB]
theorem Rel.vc {M : Mm} (h : Rel M) : VM M = VC M := by
  unfold VM VC
  rw [h.e14, h.eB, h.eI, h.eE]
theorem GG_congr {f g : Int → Int} (h : ∀ k, 0 ≤ k → k < 6 → f k = g k) (s : Int) : GG f s = GG g s := by
  have hs : ∀ s, sumS f s = sumS g s := fun s => sumN_congr (fun j h1 h2 => by show sb s j * f j = sb s j * g j; rw [h j h1 (by omega)])
  have hG : ∀ n : Nat, Gt f n = Gt g n := fun n => by
    induction n with
    | zero => rfl
    | succ n ih =>
      show (fun s => if s = (n : Int) then vG f (Gt f n) s else Gt f n s) = fun s => if s = (n : Int) then vG g (Gt g n) s else Gt g n s
      rw [ih]
      funext s
      unfold vG
      rw [hs s]
  unfold GG
  rw [hG 64]