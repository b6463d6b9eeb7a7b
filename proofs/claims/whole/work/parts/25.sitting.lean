/-! ===== sittings: the state of a sitting as a function S: rows 0 saved, 1 in, 2 awake, 3 due, 4 spoke; row 5: minutes, without, the first without ===== -/
def absC (M : Mm) : Mm := fun w k => if 0 ≤ w ∧ w < 5 ∧ 0 ≤ k ∧ k < 6 then M (24 + w) k else if w = 5 ∧ 0 ≤ k ∧ k < 3 then M 22 (k + 2) else 0
def absM (M : Mm) : Mm := fun w k => if 0 ≤ w ∧ w < 4 ∧ 0 ≤ k ∧ k < 6 then M 84 (4 * k + w) else if w = 4 ∧ 0 ≤ k ∧ k < 6 then M 85 k else if w = 5 ∧ 0 ≤ k ∧ k < 3 then M 79 (k + 10) else 0
theorem upm_self {M : Mm} {a b : Int} : upm M a b (M a b) = M := by
  funext k j
  unfold upm
  split
  · next h => rw [h.1, h.2]
  · rfl
theorem upm_over {M : Mm} {a b x y : Int} : upm (upm M a b x) a b y = upm M a b y := by
  funext k j
  unfold upm
  split <;> rfl
theorem upm_comm {M : Mm} {a b a' b' x y : Int} (h : a ≠ a' ∨ b ≠ b') : upm (upm M a b x) a' b' y = upm (upm M a' b' y) a b x := by
  funext k j
  unfold upm
  (repeat' split) <;> first | rfl | omega

theorem absC_up0 {M : Mm} {k z : Int} (h : 0 ≤ k ∧ k < 6) : absC (upm M 24 k z) = upm (absC M) 0 k z := by
  funext a b
  dsimp only [absC, upm]
  (repeat' split) <;> first | rfl | omega
theorem absC_rd0 {M : Mm} {k : Int} (h : 0 ≤ k ∧ k < 6) : absC M 0 k = M 24 k := if_pos (by omega)
theorem absC_up1 {M : Mm} {k z : Int} (h : 0 ≤ k ∧ k < 6) : absC (upm M 25 k z) = upm (absC M) 1 k z := by
  funext a b
  dsimp only [absC, upm]
  (repeat' split) <;> first | rfl | omega
theorem absC_rd1 {M : Mm} {k : Int} (h : 0 ≤ k ∧ k < 6) : absC M 1 k = M 25 k := if_pos (by omega)
theorem absC_up2 {M : Mm} {k z : Int} (h : 0 ≤ k ∧ k < 6) : absC (upm M 26 k z) = upm (absC M) 2 k z := by
  funext a b
  dsimp only [absC, upm]
  (repeat' split) <;> first | rfl | omega
theorem absC_rd2 {M : Mm} {k : Int} (h : 0 ≤ k ∧ k < 6) : absC M 2 k = M 26 k := if_pos (by omega)
theorem absC_up3 {M : Mm} {k z : Int} (h : 0 ≤ k ∧ k < 6) : absC (upm M 27 k z) = upm (absC M) 3 k z := by
  funext a b
  dsimp only [absC, upm]
  (repeat' split) <;> first | rfl | omega
theorem absC_rd3 {M : Mm} {k : Int} (h : 0 ≤ k ∧ k < 6) : absC M 3 k = M 27 k := if_pos (by omega)
theorem absC_up4 {M : Mm} {k z : Int} (h : 0 ≤ k ∧ k < 6) : absC (upm M 28 k z) = upm (absC M) 4 k z := by
  funext a b
  dsimp only [absC, upm]
  (repeat' split) <;> first | rfl | omega
theorem absC_rd4 {M : Mm} {k : Int} (h : 0 ≤ k ∧ k < 6) : absC M 4 k = M 28 k := if_pos (by omega)
theorem absC_uf0 {M : Mm} {z : Int} : absC (upm M 22 2 z) = upm (absC M) 5 0 z := by
  funext a b
  dsimp only [absC, upm]
  (repeat' split) <;> first | rfl | omega
theorem absC_rf0 {M : Mm} : absC M 5 0 = M 22 2 := by
  unfold absC
  rw [if_neg (by omega), if_pos (by omega)]
  rfl
theorem absM_uf0 {M : Mm} {z : Int} : absM (upm M 79 10 z) = upm (absM M) 5 0 z := by
  funext a b
  dsimp only [absM, upm]
  (repeat' split) <;> first | rfl | omega
theorem absM_rf0 {M : Mm} : absM M 5 0 = M 79 10 := by
  unfold absM
  rw [if_neg (by omega), if_neg (by omega), if_pos (by omega)]
  rfl
theorem absC_uf1 {M : Mm} {z : Int} : absC (upm M 22 3 z) = upm (absC M) 5 1 z := by
  funext a b
  dsimp only [absC, upm]
  (repeat' split) <;> first | rfl | omega
theorem absC_rf1 {M : Mm} : absC M 5 1 = M 22 3 := by
  unfold absC
  rw [if_neg (by omega), if_pos (by omega)]
  rfl
theorem absM_uf1 {M : Mm} {z : Int} : absM (upm M 79 11 z) = upm (absM M) 5 1 z := by
  funext a b
  dsimp only [absM, upm]
  (repeat' split) <;> first | rfl | omega
theorem absM_rf1 {M : Mm} : absM M 5 1 = M 79 11 := by
  unfold absM
  rw [if_neg (by omega), if_neg (by omega), if_pos (by omega)]
  rfl
theorem absC_uf2 {M : Mm} {z : Int} : absC (upm M 22 4 z) = upm (absC M) 5 2 z := by
  funext a b
  dsimp only [absC, upm]
  (repeat' split) <;> first | rfl | omega
theorem absC_rf2 {M : Mm} : absC M 5 2 = M 22 4 := by
  unfold absC
  rw [if_neg (by omega), if_pos (by omega)]
  rfl
theorem absM_uf2 {M : Mm} {z : Int} : absM (upm M 79 12 z) = upm (absM M) 5 2 z := by
  funext a b
  dsimp only [absM, upm]
  (repeat' split) <;> first | rfl | omega
theorem absM_rf2 {M : Mm} : absM M 5 2 = M 79 12 := by
  unfold absM
  rw [if_neg (by omega), if_neg (by omega), if_pos (by omega)]
  rfl
theorem absM_up0 {M : Mm} {k z : Int} (h : 0 ≤ k ∧ k < 6) : absM (upm M 84 (4 * k) z) = upm (absM M) 0 k z := by
  funext a b
  dsimp only [absM, upm]
  (repeat' split) <;> first | rfl | omega
theorem absM_rd0 {M : Mm} {k : Int} (h : 0 ≤ k ∧ k < 6) : absM M 0 k = M 84 (4 * k) := by
  unfold absM
  rw [if_pos (by omega)]
  simp
theorem absM_up1 {M : Mm} {k z : Int} (h : 0 ≤ k ∧ k < 6) : absM (upm M 84 (4 * k + 1) z) = upm (absM M) 1 k z := by
  funext a b
  dsimp only [absM, upm]
  (repeat' split) <;> first | rfl | omega
theorem absM_rd1 {M : Mm} {k : Int} (h : 0 ≤ k ∧ k < 6) : absM M 1 k = M 84 (4 * k + 1) := by
  unfold absM
  rw [if_pos (by omega)]
theorem absM_up2 {M : Mm} {k z : Int} (h : 0 ≤ k ∧ k < 6) : absM (upm M 84 (4 * k + 2) z) = upm (absM M) 2 k z := by
  funext a b
  dsimp only [absM, upm]
  (repeat' split) <;> first | rfl | omega
theorem absM_rd2 {M : Mm} {k : Int} (h : 0 ≤ k ∧ k < 6) : absM M 2 k = M 84 (4 * k + 2) := by
  unfold absM
  rw [if_pos (by omega)]
theorem absM_up3 {M : Mm} {k z : Int} (h : 0 ≤ k ∧ k < 6) : absM (upm M 84 (4 * k + 3) z) = upm (absM M) 3 k z := by
  funext a b
  dsimp only [absM, upm]
  (repeat' split) <;> first | rfl | omega
theorem absM_rd3 {M : Mm} {k : Int} (h : 0 ≤ k ∧ k < 6) : absM M 3 k = M 84 (4 * k + 3) := by
  unfold absM
  rw [if_pos (by omega)]
theorem absM_up4 {M : Mm} {k z : Int} (h : 0 ≤ k ∧ k < 6) : absM (upm M 85 k z) = upm (absM M) 4 k z := by
  funext a b
  dsimp only [absM, upm]
  (repeat' split) <;> first | rfl | omega
theorem absM_rd4 {M : Mm} {k : Int} (h : 0 ≤ k ∧ k < 6) : absM M 4 k = M 85 k := by
  unfold absM
  rw [if_neg (by omega), if_pos (by omega)]
/-- what is known of a sitting's state: with at most n minutes without -/
def SB (S : Mm) (n : Int) : Prop := (∀ k, 0 ≤ k → k < 6 → 0 ≤ S 0 k ∧ S 0 k ≤ 999 ∧ 0 ≤ S 1 k ∧ S 1 k ≤ 1 ∧ 0 ≤ S 2 k ∧ S 2 k ≤ 1 ∧ 0 ≤ S 3 k ∧ S 3 k ≤ 99) ∧ 0 ≤ S 5 1 ∧ S 5 1 ≤ n ∧ n ≤ 100000
def fSaveN (b : Int) (S : Mm) (n : Int) : Mm := fun w k => if w = 0 ∧ 0 ≤ k ∧ k < n ∧ k ≠ b ∧ S 1 k = 1 ∧ S 2 k = 1 then min 999 (S 0 k + 1) else S w k
def fPay (S : Mm) (k : Int) : Mm := upm (upm S 0 k (S 0 k - (if S 3 k > 0 ∧ (S 3 k - 1) % 2 = 0 then 0 else 1))) 3 k (max 0 (S 3 k - 1))
def noPay (S : Mm) (k : Int) : Prop := ¬ (S 1 k = 1 ∧ S 2 k = 1) ∨ S 0 k < (if S 3 k > 0 ∧ (S 3 k - 1) % 2 = 0 then 0 else 1)
def fWithout (S : Mm) : Mm := upm (upm S 5 2 (if S 5 1 = 0 then S 5 0 else S 5 2)) 5 1 (S 5 1 + 1)
noncomputable def fSpeak (S : Mm) (k : Int) : Mm := @ite Mm (noPay S k) (Classical.propDecidable _) (fWithout (upm S 4 k (S 4 k + 1))) (fPay (upm S 4 k (S 4 k + 1)) k)
theorem fSpeak_n {S : Mm} {k : Int} (h : noPay S k) : fSpeak S k = fWithout (upm S 4 k (S 4 k + 1)) := if_pos h
theorem fSpeak_p {S : Mm} {k : Int} (h : ¬ noPay S k) : fSpeak S k = fPay (upm S 4 k (S 4 k + 1)) k := if_neg h
noncomputable def fMinute (sp : Int) (S : Mm) : Mm := upm (fSaveN sp (if 0 ≤ sp ∧ sp < 6 then fSpeak S sp else S) 6) 5 0 (S 5 0 + 1)
noncomputable def fLast (sp : Int) : Nat → Mm → Mm
  | 0, S => S
  | n + 1, S => fLast sp n (fMinute sp S)
def fStir (h k co : Int) (S : Mm) : Mm := if h = 122 then upm S 2 k 0 else if h = 121 then upm S 2 k 1 else if h = 120 then upm (upm (upm S 1 k 0) 0 k 0) 3 k 0 else if h = 105 then upm (upm S 1 k 1) 2 k 1 else if S 1 k = 1 then upm S 0 k (max 0 (S 0 k - co)) else S
def fAsk (a b due : Int) (S : Mm) : Mm := if (S 1 a = 1 ∧ S 2 a = 1) ∧ S 1 b = 1 ∧ S 2 b = 1 then upm S 3 b due else S
noncomputable def fPart (p : Int → Int) (i co ak : Int) (S : Mm) : Mm := if p i = 46 then fLast 6 (p (i + 1) - 48).toNat S else if 97 ≤ p i ∧ p i < 103 then fLast (p i - 97) (p (i + 1) - 48).toNat S else if p i = 63 then fAsk (p (i + 1) - 97) (p (i + 2) - 97) ak S else fStir (p i) (p (i + 1) - 97) co S
noncomputable def fRun (p : Int → Int) (n co ak : Int) : Nat → Int → Mm → Mm
  | 0, _, S => S
  | f + 1, i, S => if i < n then fRun p n co ak f (i + (if p i = 63 then 3 else 2)) (fPart p i co ak S) else S
def sit0 (o : Mm) : Mm := fun w k => if 0 ≤ w ∧ w < 4 ∧ 0 ≤ k ∧ k < 6 then o w k else if w = 5 ∧ k = 2 then -6 else 0

set_option maxRecDepth 100000 in
set_option maxHeartbeats 4000000 in
theorem c_X6_listens (M : Mm) (k n : Int) (hk : inI k) (hb : SB (absC M) n) : CtI yX6_listens cX6_listens 2 .boolean 2 SH [rv 22, iv k] M (fun r M' => r = b2 ((0 ≤ k ∧ k < 6) ∧ M 25 k = 1 ∧ M 26 k = 1) ∧ M' = M) := by
  refine CtI.of rfl (Nat.le_of_ble_eq_true rfl) (Or.inr rfl) (fun v as E hret => ?_)
  show Ws v as SH 0 0 0 [some (rv 22), some (iv k)] [] M
  refine s_iload_n E dX6_listens_0 rfl ?_
  refine s_callSNi E (c_X7_isOne _ _ (by omega)) dX6_listens_1 mf_X7_isOne ml_X6_66 rfl (Nat.le_of_ble_eq_true rfl) (Nat.le_of_ble_eq_true rfl) rfl (fun r1 M1 h1 => ?_)
  obtain ⟨e1, f1⟩ := h1; subst r1; subst M1
  refine s_ifeqB E 35 dX6_listens_4 (by decide) (fun h4 => ?_) (fun h4 => ?_)
  · refine s_iconst E dX6_listens_35 ?_
    refine hret _ _ ?_ (fun _ => Or.inl rfl) _ _ dX6_listens_36
    exact ⟨by first | exact (b2_pos (by omega)).symm | exact (b2_neg (by omega)).symm, rfl⟩
  · have hk2 : 0 ≤ k ∧ k < 6 := h4
    have b7 := hb.1 k hk2.1 hk2.2
    rw [absC_rd1 hk2, absC_rd2 hk2] at b7
    refine s_aload_n E dX6_listens_7 rfl ?_
    refine s_getR (kf := 0) E dX6_listens_8 rfl inb_X6 (Nat.le_of_ble_eq_true rfl) fl_X6_11 (by decide) sh22 rfl ?_
    refine s_iconst E dX6_listens_11 ?_
    refine s_aald (kd := 0) (r := 25) E dX6_listens_12 (by decide) sh23 (Nat.le_of_ble_eq_true rfl) (by decide) rfl ?_
    refine s_iload_n E dX6_listens_13 rfl ?_
    refine s_iald E dX6_listens_14 (by decide) sh25 (Nat.le_of_ble_eq_true rfl) (by omega) ?_
    refine s_iconst E dX6_listens_15 ?_
    refine s_icmp_ne E 35 dX6_listens_16 (by decide) (by omega) (by omega) (fun h16 => ?_) (fun h16 => ?_)
    · refine s_iconst E dX6_listens_35 ?_
      refine hret _ _ ?_ (fun _ => Or.inl rfl) _ _ dX6_listens_36
      exact ⟨by first | exact (b2_pos (by omega)).symm | exact (b2_neg (by omega)).symm, rfl⟩
    · refine s_aload_n E dX6_listens_19 rfl ?_
      refine s_getR (kf := 0) E dX6_listens_20 rfl inb_X6 (Nat.le_of_ble_eq_true rfl) fl_X6_11 (by decide) sh22 rfl ?_
      refine s_iconst E dX6_listens_23 ?_
      refine s_aald (kd := 0) (r := 26) E dX6_listens_24 (by decide) sh23 (Nat.le_of_ble_eq_true rfl) (by decide) rfl ?_
      refine s_iload_n E dX6_listens_25 rfl ?_
      refine s_iald E dX6_listens_26 (by decide) sh26 (Nat.le_of_ble_eq_true rfl) (by omega) ?_
      refine s_iconst E dX6_listens_27 ?_
      refine s_icmp_ne E 35 dX6_listens_28 (by decide) (by omega) (by omega) (fun h28 => ?_) (fun h28 => ?_)
      · refine s_iconst E dX6_listens_35 ?_
        refine hret _ _ ?_ (fun _ => Or.inl rfl) _ _ dX6_listens_36
        exact ⟨by first | exact (b2_pos (by omega)).symm | exact (b2_neg (by omega)).symm, rfl⟩
      · refine s_iconst E dX6_listens_31 ?_
        refine s_goto E 36 dX6_listens_32 (by decide) ?_
        refine hret _ _ ?_ (fun _ => Or.inr rfl) _ _ dX6_listens_36
        exact ⟨by first | exact (b2_pos (by omega)).symm | exact (b2_neg (by omega)).symm, rfl⟩

set_option maxRecDepth 100000 in
set_option maxHeartbeats 4000000 in
theorem c_X6_pay (M : Mm) (k n : Int) (hk : 0 ≤ k ∧ k < 6) (hb : SB (absC M) n) : CtI yX6_pay cX6_pay 4 .boolean 3 SH [rv 22, iv k] M (fun r M' => r = b2 (¬ noPay (absC M) k) ∧ (¬ noPay (absC M) k → absC M' = fPay (absC M) k) ∧ (noPay (absC M) k → M' = M) ∧ Kp M M') := by
  refine CtI.of rfl (Nat.le_of_ble_eq_true rfl) (Or.inr rfl) (fun v as E hret => ?_)
  show Ws v as SH 0 0 0 [some (rv 22), some (iv k), none, none] [] M
  have b0 := hb.1 k hk.1 hk.2
  have q0 := absC_rd0 (M := M) hk; have q1 := absC_rd1 (M := M) hk; have q2 := absC_rd2 (M := M) hk; have q3 := absC_rd3 (M := M) hk
  refine s_aload_n E dX6_pay_0 rfl ?_
  refine s_iload_n E dX6_pay_1 rfl ?_
  refine s_callVi E (c_X6_listens _ _ _ (by omega) hb) dX6_pay_2 mf_X6_listens ml_X6_74 rfl (Nat.le_of_ble_eq_true rfl) (Nat.le_of_ble_eq_true rfl) (by decide) sh22 rfl rfl (fun r2 M2 h2 => ?_)
  obtain ⟨e2, f2⟩ := h2; subst r2; subst M2
  refine s_ifneB E 10 dX6_pay_5 (by decide) (fun h5 => ?_) (fun h5 => ?_)
  · refine s_aload_n E dX6_pay_10 rfl ?_
    refine s_getR (kf := 0) E dX6_pay_11 rfl inb_X6 (Nat.le_of_ble_eq_true rfl) fl_X6_11 (by decide) sh22 rfl ?_
    refine s_iconst E dX6_pay_14 ?_
    refine s_aald (kd := 0) (r := 27) E dX6_pay_15 (by decide) sh23 (Nat.le_of_ble_eq_true rfl) (by decide) rfl ?_
    refine s_iload_n E dX6_pay_16 rfl ?_
    refine s_iald E dX6_pay_17 (by decide) sh27 (Nat.le_of_ble_eq_true rfl) (by omega) ?_
    refine s_istore_n (ls' := [_, _, _, _]) E dX6_pay_18 (Nat.le_of_ble_eq_true rfl) rfl ?_
    refine s_iload_n E dX6_pay_19 rfl ?_
    refine s_if_le E 35 dX6_pay_20 (by decide) (by omega) (fun h20 => ?_) (fun h20 => ?_)
    · refine s_iconst E dX6_pay_35 ?_
      refine s_istore_n (ls' := [_, _, _, _]) E dX6_pay_36 (Nat.le_of_ble_eq_true rfl) rfl ?_
      refine s_aload_n E dX6_pay_37 rfl ?_
      refine s_getR (kf := 0) E dX6_pay_38 rfl inb_X6 (Nat.le_of_ble_eq_true rfl) fl_X6_11 (by decide) sh22 rfl ?_
      refine s_iconst E dX6_pay_41 ?_
      refine s_aald (kd := 0) (r := 24) E dX6_pay_42 (by decide) sh23 (Nat.le_of_ble_eq_true rfl) (by decide) rfl ?_
      refine s_iload_n E dX6_pay_43 rfl ?_
      refine s_iald E dX6_pay_44 (by decide) sh24 (Nat.le_of_ble_eq_true rfl) (by omega) ?_
      refine s_iload_n E dX6_pay_45 rfl ?_
      refine s_icmp_ge E 51 dX6_pay_46 (by decide) (by omega) (by omega) (fun h46 => ?_) (fun h46 => ?_)
      · refine s_aload_n E dX6_pay_51 rfl ?_
        refine s_getR (kf := 0) E dX6_pay_52 rfl inb_X6 (Nat.le_of_ble_eq_true rfl) fl_X6_11 (by decide) sh22 rfl ?_
        refine s_iconst E dX6_pay_55 ?_
        refine s_aald (kd := 0) (r := 24) E dX6_pay_56 (by decide) sh23 (Nat.le_of_ble_eq_true rfl) (by decide) rfl ?_
        refine s_iload_n E dX6_pay_57 rfl ?_
        refine s_dup2 E dX6_pay_58 ?_
        refine s_iald E dX6_pay_59 (by decide) sh24 (Nat.le_of_ble_eq_true rfl) (by omega) ?_
        refine s_iload_n E dX6_pay_60 rfl ?_
        refine s_isub E dX6_pay_61 ?_
        refine s_iast E dX6_pay_62 (by decide) sh24 (Nat.le_of_ble_eq_true rfl) (by omega) ?_
        refine s_aload_n E dX6_pay_63 rfl ?_
        refine s_getR (kf := 0) E dX6_pay_64 rfl inb_X6 (Nat.le_of_ble_eq_true rfl) fl_X6_11 (by decide) sh22 rfl ?_
        refine s_iconst E dX6_pay_67 ?_
        refine s_aald (kd := 0) (r := 27) E dX6_pay_68 (by decide) sh23 (Nat.le_of_ble_eq_true rfl) (by decide) rfl ?_
        refine s_iload_n E dX6_pay_69 rfl ?_
        refine s_iconst E dX6_pay_70 ?_
        refine s_iload_n E dX6_pay_71 rfl ?_
        refine s_iconst E dX6_pay_72 ?_
        refine s_isub E dX6_pay_73 ?_
        refine s_mmax E dX6_pay_74 ml_X6_77 mw_max (Nat.le_of_ble_eq_true rfl) (Nat.le_of_ble_eq_true rfl) (by omega) (by omega) ?_
        refine s_iast E dX6_pay_77 (by decide) sh27 (Nat.le_of_ble_eq_true rfl) (by omega) ?_
        refine s_iconst E dX6_pay_78 ?_
        refine hret _ _ ?_ (fun _ => Or.inr rfl) _ _ dX6_pay_79
        have hn : ¬ noPay (absC M) k := by unfold noPay; rintro (q | q)
                                           · omega
                                           · revert q; split <;> omega
        refine ⟨(b2_pos hn).symm, fun _ => ?_, fun q => absurd q hn, ((Kp.rf M).up (by decide)).up (by decide)⟩
        rw [absC_up3 hk, absC_up0 hk]
        unfold fPay
        rw [q3, q0]
        congr 3
        split <;> omega
      · refine s_iconst E dX6_pay_49 ?_
        refine hret _ _ ?_ (fun _ => Or.inl rfl) _ _ dX6_pay_50
        have hn : noPay (absC M) k := by unfold noPay; exact Or.inr (by split <;> omega)
        exact ⟨(b2_neg (fun q => q hn)).symm, fun q => absurd hn q, fun _ => rfl, Kp.rf M⟩
    · refine s_iload_n E dX6_pay_23 rfl ?_
      refine s_iconst E dX6_pay_24 ?_
      refine s_isub E dX6_pay_25 ?_
      refine s_iconst E dX6_pay_26 ?_
      refine s_irem E dX6_pay_27 (by omega) (by omega) ?_
      refine s_if_ne E 35 dX6_pay_28 (by decide) (by omega) (fun h28 => ?_) (fun h28 => ?_)
      · refine s_iconst E dX6_pay_35 ?_
        refine s_istore_n (ls' := [_, _, _, _]) E dX6_pay_36 (Nat.le_of_ble_eq_true rfl) rfl ?_
        refine s_aload_n E dX6_pay_37 rfl ?_
        refine s_getR (kf := 0) E dX6_pay_38 rfl inb_X6 (Nat.le_of_ble_eq_true rfl) fl_X6_11 (by decide) sh22 rfl ?_
        refine s_iconst E dX6_pay_41 ?_
        refine s_aald (kd := 0) (r := 24) E dX6_pay_42 (by decide) sh23 (Nat.le_of_ble_eq_true rfl) (by decide) rfl ?_
        refine s_iload_n E dX6_pay_43 rfl ?_
        refine s_iald E dX6_pay_44 (by decide) sh24 (Nat.le_of_ble_eq_true rfl) (by omega) ?_
        refine s_iload_n E dX6_pay_45 rfl ?_
        refine s_icmp_ge E 51 dX6_pay_46 (by decide) (by omega) (by omega) (fun h46 => ?_) (fun h46 => ?_)
        · refine s_aload_n E dX6_pay_51 rfl ?_
          refine s_getR (kf := 0) E dX6_pay_52 rfl inb_X6 (Nat.le_of_ble_eq_true rfl) fl_X6_11 (by decide) sh22 rfl ?_
          refine s_iconst E dX6_pay_55 ?_
          refine s_aald (kd := 0) (r := 24) E dX6_pay_56 (by decide) sh23 (Nat.le_of_ble_eq_true rfl) (by decide) rfl ?_
          refine s_iload_n E dX6_pay_57 rfl ?_
          refine s_dup2 E dX6_pay_58 ?_
          refine s_iald E dX6_pay_59 (by decide) sh24 (Nat.le_of_ble_eq_true rfl) (by omega) ?_
          refine s_iload_n E dX6_pay_60 rfl ?_
          refine s_isub E dX6_pay_61 ?_
          refine s_iast E dX6_pay_62 (by decide) sh24 (Nat.le_of_ble_eq_true rfl) (by omega) ?_
          refine s_aload_n E dX6_pay_63 rfl ?_
          refine s_getR (kf := 0) E dX6_pay_64 rfl inb_X6 (Nat.le_of_ble_eq_true rfl) fl_X6_11 (by decide) sh22 rfl ?_
          refine s_iconst E dX6_pay_67 ?_
          refine s_aald (kd := 0) (r := 27) E dX6_pay_68 (by decide) sh23 (Nat.le_of_ble_eq_true rfl) (by decide) rfl ?_
          refine s_iload_n E dX6_pay_69 rfl ?_
          refine s_iconst E dX6_pay_70 ?_
          refine s_iload_n E dX6_pay_71 rfl ?_
          refine s_iconst E dX6_pay_72 ?_
          refine s_isub E dX6_pay_73 ?_
          refine s_mmax E dX6_pay_74 ml_X6_77 mw_max (Nat.le_of_ble_eq_true rfl) (Nat.le_of_ble_eq_true rfl) (by omega) (by omega) ?_
          refine s_iast E dX6_pay_77 (by decide) sh27 (Nat.le_of_ble_eq_true rfl) (by omega) ?_
          refine s_iconst E dX6_pay_78 ?_
          refine hret _ _ ?_ (fun _ => Or.inr rfl) _ _ dX6_pay_79
          have hn : ¬ noPay (absC M) k := by unfold noPay; rintro (q | q)
                                             · omega
                                             · revert q; split <;> omega
          refine ⟨(b2_pos hn).symm, fun _ => ?_, fun q => absurd q hn, ((Kp.rf M).up (by decide)).up (by decide)⟩
          rw [absC_up3 hk, absC_up0 hk]
          unfold fPay
          rw [q3, q0]
          congr 3
          split <;> omega
        · refine s_iconst E dX6_pay_49 ?_
          refine hret _ _ ?_ (fun _ => Or.inl rfl) _ _ dX6_pay_50
          have hn : noPay (absC M) k := by unfold noPay; exact Or.inr (by split <;> omega)
          exact ⟨(b2_neg (fun q => q hn)).symm, fun q => absurd hn q, fun _ => rfl, Kp.rf M⟩
      · refine s_iconst E dX6_pay_31 ?_
        refine s_goto E 36 dX6_pay_32 (by decide) ?_
        refine s_istore_n (ls' := [_, _, _, _]) E dX6_pay_36 (Nat.le_of_ble_eq_true rfl) rfl ?_
        refine s_aload_n E dX6_pay_37 rfl ?_
        refine s_getR (kf := 0) E dX6_pay_38 rfl inb_X6 (Nat.le_of_ble_eq_true rfl) fl_X6_11 (by decide) sh22 rfl ?_
        refine s_iconst E dX6_pay_41 ?_
        refine s_aald (kd := 0) (r := 24) E dX6_pay_42 (by decide) sh23 (Nat.le_of_ble_eq_true rfl) (by decide) rfl ?_
        refine s_iload_n E dX6_pay_43 rfl ?_
        refine s_iald E dX6_pay_44 (by decide) sh24 (Nat.le_of_ble_eq_true rfl) (by omega) ?_
        refine s_iload_n E dX6_pay_45 rfl ?_
        refine s_icmp_ge E 51 dX6_pay_46 (by decide) (by omega) (by omega) (fun h46 => ?_) (fun h46 => ?_)
        · refine s_aload_n E dX6_pay_51 rfl ?_
          refine s_getR (kf := 0) E dX6_pay_52 rfl inb_X6 (Nat.le_of_ble_eq_true rfl) fl_X6_11 (by decide) sh22 rfl ?_
          refine s_iconst E dX6_pay_55 ?_
          refine s_aald (kd := 0) (r := 24) E dX6_pay_56 (by decide) sh23 (Nat.le_of_ble_eq_true rfl) (by decide) rfl ?_
          refine s_iload_n E dX6_pay_57 rfl ?_
          refine s_dup2 E dX6_pay_58 ?_
          refine s_iald E dX6_pay_59 (by decide) sh24 (Nat.le_of_ble_eq_true rfl) (by omega) ?_
          refine s_iload_n E dX6_pay_60 rfl ?_
          refine s_isub E dX6_pay_61 ?_
          refine s_iast E dX6_pay_62 (by decide) sh24 (Nat.le_of_ble_eq_true rfl) (by omega) ?_
          refine s_aload_n E dX6_pay_63 rfl ?_
          refine s_getR (kf := 0) E dX6_pay_64 rfl inb_X6 (Nat.le_of_ble_eq_true rfl) fl_X6_11 (by decide) sh22 rfl ?_
          refine s_iconst E dX6_pay_67 ?_
          refine s_aald (kd := 0) (r := 27) E dX6_pay_68 (by decide) sh23 (Nat.le_of_ble_eq_true rfl) (by decide) rfl ?_
          refine s_iload_n E dX6_pay_69 rfl ?_
          refine s_iconst E dX6_pay_70 ?_
          refine s_iload_n E dX6_pay_71 rfl ?_
          refine s_iconst E dX6_pay_72 ?_
          refine s_isub E dX6_pay_73 ?_
          refine s_mmax E dX6_pay_74 ml_X6_77 mw_max (Nat.le_of_ble_eq_true rfl) (Nat.le_of_ble_eq_true rfl) (by omega) (by omega) ?_
          refine s_iast E dX6_pay_77 (by decide) sh27 (Nat.le_of_ble_eq_true rfl) (by omega) ?_
          refine s_iconst E dX6_pay_78 ?_
          refine hret _ _ ?_ (fun _ => Or.inr rfl) _ _ dX6_pay_79
          have hn : ¬ noPay (absC M) k := by unfold noPay; rintro (q | q)
                                             · omega
                                             · revert q; split <;> omega
          refine ⟨(b2_pos hn).symm, fun _ => ?_, fun q => absurd q hn, ((Kp.rf M).up (by decide)).up (by decide)⟩
          rw [absC_up3 hk, absC_up0 hk]
          unfold fPay
          rw [q3, q0]
          congr 3
          split <;> omega
        · refine s_iconst E dX6_pay_49 ?_
          refine hret _ _ ?_ (fun _ => Or.inl rfl) _ _ dX6_pay_50
          have hn : noPay (absC M) k := by unfold noPay; exact Or.inr (by split <;> omega)
          exact ⟨(b2_neg (fun q => q hn)).symm, fun q => absurd hn q, fun _ => rfl, Kp.rf M⟩
  · refine s_iconst E dX6_pay_8 ?_
    refine hret _ _ ?_ (fun _ => Or.inl rfl) _ _ dX6_pay_9
    have hn : noPay (absC M) k := by unfold noPay; exact Or.inl (by omega)
    exact ⟨(b2_neg (fun q => q hn)).symm, fun q => absurd hn q, fun _ => rfl, Kp.rf M⟩

theorem fWithout_nz {X : Mm} (h : X 5 1 ≠ 0) : fWithout X = upm X 5 1 (X 5 1 + 1) := by
  unfold fWithout
  rw [if_neg h, upm_self]
theorem fWithout_z {X : Mm} (h : X 5 1 = 0) : fWithout X = upm (upm X 5 2 (X 5 0)) 5 1 (X 5 1 + 1) := by
  unfold fWithout
  rw [if_pos h]

set_option maxRecDepth 100000 in
set_option maxHeartbeats 4000000 in
theorem c_X6_speak (M : Mm) (k n : Int) (hk : inI k) (hb : SB (absC M) n) : CtV yX6_speak cX6_speak 2 4 SH [rv 22, iv k] M (fun M' => absC M' = (if 0 ≤ k ∧ k < 6 then fSpeak (absC M) k else absC M) ∧ Kp M M') := by
  refine CtV.of rfl (Nat.le_of_ble_eq_true rfl) (fun v as E hret => ?_)
  show Ws v as SH 0 0 0 [some (rv 22), some (iv k)] [] M
  refine s_iload_n E dX6_speak_0 rfl ?_
  refine s_callSNi E (c_X7_isOne _ _ (by omega)) dX6_speak_1 mf_X7_isOne ml_X6_66 rfl (Nat.le_of_ble_eq_true rfl) (Nat.le_of_ble_eq_true rfl) rfl (fun r1 M1 h1 => ?_)
  obtain ⟨e1, f1⟩ := h1; subst r1; subst M1
  refine s_ifneB E 8 dX6_speak_4 (by decide) (fun h4 => ?_) (fun h4 => ?_)
  · have hk2 : 0 ≤ k ∧ k < 6 := h4
    refine s_aload_n E dX6_speak_8 rfl ?_
    refine s_getR (kf := 1) E dX6_speak_9 rfl inb_X6 (Nat.le_of_ble_eq_true rfl) fl_X6_16 (by decide) sh22 rfl ?_
    refine s_iload_n E dX6_speak_12 rfl ?_
    refine s_dup2 E dX6_speak_13 ?_
    refine s_iald E dX6_speak_14 (by decide) sh28 (Nat.le_of_ble_eq_true rfl) (by omega) ?_
    refine s_iconst E dX6_speak_15 ?_
    refine s_iadd E dX6_speak_16 ?_
    refine s_iast E dX6_speak_17 (by decide) sh28 (Nat.le_of_ble_eq_true rfl) (by omega) ?_
    refine s_aload_n E dX6_speak_18 rfl ?_
    refine s_iload_n E dX6_speak_19 rfl ?_
    refine s_callVi E (c_X6_pay _ k n hk2 (by rw [absC_up4 hk2]; exact ⟨fun j h1 h2 => by have := hb.1 j h1 h2; simp only [upm_ne (Or.inl (show (0 : Int) ≠ 4 by decide)), upm_ne (Or.inl (show (1 : Int) ≠ 4 by decide)), upm_ne (Or.inl (show (2 : Int) ≠ 4 by decide)), upm_ne (Or.inl (show (3 : Int) ≠ 4 by decide))]; exact this, by rw [upm_ne (Or.inl (by decide))]; exact hb.2⟩)) dX6_speak_20 mf_X6_pay ml_X6_90 rfl (Nat.le_of_ble_eq_true rfl) (Nat.le_of_ble_eq_true rfl) (by decide) sh22 rfl rfl (fun r20 M20 h20 => ?_)
    obtain ⟨e20, f20, g20, i20⟩ := h20; subst r20
    rw [absC_up4 hk2] at f20 g20
    have np : noPay (upm (absC M) 4 k (M 28 k + 1)) k ↔ noPay (absC M) k := by unfold noPay; simp only [upm_ne (Or.inl (show (0 : Int) ≠ 4 by decide)), upm_ne (Or.inl (show (1 : Int) ≠ 4 by decide)), upm_ne (Or.inl (show (2 : Int) ≠ 4 by decide)), upm_ne (Or.inl (show (3 : Int) ≠ 4 by decide))]
    rw [absC_up4 hk2]
    have kp : Kp M M20 := fun a b q => (i20 a b q).trans (upm_ne (Or.inl (by omega)))
    refine s_ifeqB E 27 dX6_speak_23 (by decide) (fun h23 => ?_) (fun h23 => ?_)
    · have hn := Classical.byContradiction h23
      have e27 := g20 hn
      subst e27
      have x51 : (upm (absC M) 4 k (absC M 4 k + 1)) 5 1 = M 22 3 := by rw [upm_ne (Or.inl (by decide)), absC_rf1]
      have x50 : (upm (absC M) 4 k (absC M 4 k + 1)) 5 0 = M 22 2 := by rw [upm_ne (Or.inl (by decide)), absC_rf0]
      have b31 := hb.2
      rw [absC_rf1] at b31
      refine s_aload_n E dX6_speak_27 rfl ?_
      refine s_getI (kf := 3) E 3 rfl dX6_speak_28 rfl inb_X6 (Nat.le_of_ble_eq_true rfl) fl_X6_24 (by decide) sh22 rfl ?_
      simp only [upm_ne (Or.inl (show (22 : Int) ≠ 28 by decide))]
      refine s_if_ne E 42 dX6_speak_31 (by decide) (by omega) (fun h31 => ?_) (fun h31 => ?_)
      · refine s_aload_n E dX6_speak_42 rfl ?_
        refine s_dup E dX6_speak_43 ?_
        refine s_getI (kf := 3) E 3 rfl dX6_speak_44 rfl inb_X6 (Nat.le_of_ble_eq_true rfl) fl_X6_24 (by decide) sh22 rfl ?_
        simp only [upm_ne (Or.inl (show (22 : Int) ≠ 28 by decide))]
        refine s_iconst E dX6_speak_47 ?_
        refine s_iadd E dX6_speak_48 ?_
        refine s_putI (kf := 3) E 3 rfl dX6_speak_49 rfl inb_X6 tyX6_ok nmX6 (Nat.le_of_ble_eq_true rfl) ⟨rfl, rfl⟩ fl_X6_24 (by decide) sh22 rfl ?_
        refine hret _ ?_ _ _ dX6_speak_52
        refine ⟨?_, ((Kp.rf M).up (by decide)).up (by decide)⟩
        rw [if_pos hk2, fSpeak_n (np.mp hn), fWithout_nz (by rw [x51]; exact h31), x51, absC_uf1, absC_up4 hk2, absC_rd4 hk2]
      · refine s_aload_n E dX6_speak_34 rfl ?_
        refine s_aload_n E dX6_speak_35 rfl ?_
        refine s_getI (kf := 2) E 2 rfl dX6_speak_36 rfl inb_X6 (Nat.le_of_ble_eq_true rfl) fl_X6_20 (by decide) sh22 rfl ?_
        simp only [upm_ne (Or.inl (show (22 : Int) ≠ 28 by decide))]
        refine s_putI (kf := 4) E 4 rfl dX6_speak_39 rfl inb_X6 tyX6_ok nmX6 (Nat.le_of_ble_eq_true rfl) ⟨rfl, rfl⟩ fl_X6_27 (by decide) sh22 rfl ?_
        refine s_aload_n E dX6_speak_42 rfl ?_
        refine s_dup E dX6_speak_43 ?_
        refine s_getI (kf := 3) E 3 rfl dX6_speak_44 rfl inb_X6 (Nat.le_of_ble_eq_true rfl) fl_X6_24 (by decide) sh22 rfl ?_
        simp only [upm_ne (Or.inr (show (3 : Int) ≠ 4 by decide))]
        simp only [upm_ne (Or.inl (show (22 : Int) ≠ 28 by decide))]
        refine s_iconst E dX6_speak_47 ?_
        refine s_iadd E dX6_speak_48 ?_
        refine s_putI (kf := 3) E 3 rfl dX6_speak_49 rfl inb_X6 tyX6_ok nmX6 (Nat.le_of_ble_eq_true rfl) ⟨rfl, rfl⟩ fl_X6_24 (by decide) sh22 rfl ?_
        refine hret _ ?_ _ _ dX6_speak_52
        refine ⟨?_, (((Kp.rf M).up (by decide)).up (by decide)).up (by decide)⟩
        rw [if_pos hk2, fSpeak_n (np.mp hn), fWithout_z (by rw [x51]; omega), x51, x50, absC_uf1, absC_uf2, absC_up4 hk2, absC_rd4 hk2]
    · refine hret _ ?_ _ _ dX6_speak_26
      refine ⟨?_, kp⟩
      rw [if_pos hk2, fSpeak_p (fun q => h23 (np.mpr q)), f20 h23, absC_rd4 hk2]
  · refine hret _ ?_ _ _ dX6_speak_7
    exact ⟨(if_neg h4).symm, Kp.rf M⟩

theorem fSaveN_0 {b : Int} {S : Mm} : fSaveN b S 0 = S := by
  funext w k
  exact if_neg (by omega)
theorem fSaveN_go {b n : Int} {S : Mm} (h : 0 ≤ n) (hc : n ≠ b ∧ S 1 n = 1 ∧ S 2 n = 1) : upm (fSaveN b S n) 0 n (min 999 (S 0 n + 1)) = fSaveN b S (n + 1) := by
  funext w k
  by_cases e : w = 0 ∧ k = n
  · obtain ⟨rfl, rfl⟩ := e
    rw [upm_eq]
    exact (if_pos (by omega)).symm
  · rw [upm_ne (by omega)]
    dsimp only [fSaveN]
    (repeat' split) <;> first | rfl | omega
theorem fSaveN_no {b n : Int} {S : Mm} (hc : ¬ (n ≠ b ∧ S 1 n = 1 ∧ S 2 n = 1)) : fSaveN b S n = fSaveN b S (n + 1) := by
  funext w k
  dsimp only [fSaveN]
  by_cases e : k = n
  · subst e
    rw [if_neg (by omega), if_neg (by omega)]
  · (repeat' split) <;> first | rfl | omega
theorem fSaveN_rd {b n w k : Int} {S : Mm} (h : w ≠ 0 ∨ n ≤ k) : fSaveN b S n w k = S w k := if_neg (by omega)
theorem SB.save {S : Mm} {b n j : Int} (h : SB S n) : SB (fSaveN b S j) n := by
  refine ⟨fun k h1 h2 => ?_, ?_⟩
  · have := h.1 k h1 h2
    rw [fSaveN_rd (w := 1) (Or.inl (by decide)), fSaveN_rd (w := 2) (Or.inl (by decide)), fSaveN_rd (w := 3) (Or.inl (by decide))]
    refine ⟨?_, ?_, this.2.2⟩ <;> (dsimp only [fSaveN]; split <;> omega)
  · rw [fSaveN_rd (Or.inl (by decide))]
    exact h.2
theorem SB.mono {S : Mm} {n m : Int} (h : SB S n) (h1 : n ≤ m) (h2 : m ≤ 100000) : SB S m := ⟨h.1, h.2.1, by have := h.2.2; omega, h2⟩
theorem SB.pay {S : Mm} {n k : Int} (h : SB S n) (hk : 0 ≤ k ∧ k < 6) (hp : ¬ noPay S k) : SB (fPay S k) n := by
  have hb := h.1 k hk.1 hk.2
  refine ⟨fun j h1 h2 => ?_, ?_⟩
  · have := h.1 j h1 h2
    unfold noPay at hp
    unfold fPay
    by_cases e : j = k
    · subst e
      simp only [upm_eq, upm_ne (Or.inl (show (0 : Int) ≠ 3 by decide)), upm_ne (Or.inl (show (1 : Int) ≠ 3 by decide)), upm_ne (Or.inl (show (1 : Int) ≠ 0 by decide)), upm_ne (Or.inl (show (2 : Int) ≠ 3 by decide)), upm_ne (Or.inl (show (2 : Int) ≠ 0 by decide))]
      revert hp
      split <;> intro hp <;> omega
    · simp only [upm_ne (Or.inr e)]
      exact this
  · unfold fPay
    simp only [upm_ne (Or.inl (show (5 : Int) ≠ 3 by decide)), upm_ne (Or.inl (show (5 : Int) ≠ 0 by decide))]
    exact h.2
theorem SB.up4 {S : Mm} {n k z : Int} (h : SB S n) : SB (upm S 4 k z) n := by
  refine ⟨fun j h1 h2 => ?_, ?_⟩
  · simp only [upm_ne (Or.inl (show (0 : Int) ≠ 4 by decide)), upm_ne (Or.inl (show (1 : Int) ≠ 4 by decide)), upm_ne (Or.inl (show (2 : Int) ≠ 4 by decide)), upm_ne (Or.inl (show (3 : Int) ≠ 4 by decide))]
    exact h.1 j h1 h2
  · rw [upm_ne (Or.inl (by decide))]
    exact h.2
theorem SB.wo {S : Mm} {n : Int} (h : SB S n) (hn : n < 100000) : SB (fWithout S) (n + 1) := by
  refine ⟨fun j h1 h2 => ?_, ?_⟩
  · unfold fWithout
    simp only [upm_ne (Or.inl (show (0 : Int) ≠ 5 by decide)), upm_ne (Or.inl (show (1 : Int) ≠ 5 by decide)), upm_ne (Or.inl (show (2 : Int) ≠ 5 by decide)), upm_ne (Or.inl (show (3 : Int) ≠ 5 by decide))]
    exact h.1 j h1 h2
  · unfold fWithout
    rw [upm_eq]
    have := h.2
    omega
theorem noPay_up4 {S : Mm} {k z : Int} : noPay (upm S 4 k z) k ↔ noPay S k := by
  unfold noPay
  simp only [upm_ne (Or.inl (show (0 : Int) ≠ 4 by decide)), upm_ne (Or.inl (show (1 : Int) ≠ 4 by decide)), upm_ne (Or.inl (show (2 : Int) ≠ 4 by decide)), upm_ne (Or.inl (show (3 : Int) ≠ 4 by decide))]
theorem SB.speak {S : Mm} {n k : Int} (h : SB S n) (hk : 0 ≤ k ∧ k < 6) (hn : n < 100000) : SB (fSpeak S k) (n + 1) := by
  by_cases hp : noPay S k
  · rw [fSpeak_n hp]
    exact h.up4.wo hn
  · rw [fSpeak_p hp]
    exact (h.up4.pay hk (fun q => hp (noPay_up4.mp q))).mono (by omega) (by omega)
theorem SB.m5 {S : Mm} {n z : Int} (h : SB S n) : SB (upm S 5 0 z) n := by
  refine ⟨fun j h1 h2 => ?_, ?_⟩
  · simp only [upm_ne (Or.inl (show (0 : Int) ≠ 5 by decide)), upm_ne (Or.inl (show (1 : Int) ≠ 5 by decide)), upm_ne (Or.inl (show (2 : Int) ≠ 5 by decide)), upm_ne (Or.inl (show (3 : Int) ≠ 5 by decide))]
    exact h.1 j h1 h2
  · rw [upm_ne (Or.inr (by decide))]
    exact h.2
theorem SB.step {S : Mm} {n sp : Int} (h : SB S n) (hn : n < 100000) : SB (if 0 ≤ sp ∧ sp < 6 then fSpeak S sp else S) (n + 1) := by
  split
  · next hk => exact h.speak hk hn
  · exact h.mono (by omega) (by omega)
theorem fSpeak_50 {S : Mm} {k : Int} : fSpeak S k 5 0 = S 5 0 := by
  by_cases hp : noPay S k
  · rw [fSpeak_n hp]
    unfold fWithout
    rw [upm_ne (Or.inr (by decide)), upm_ne (Or.inr (by decide)), upm_ne (Or.inl (by decide))]
  · rw [fSpeak_p hp]
    unfold fPay
    rw [upm_ne (Or.inl (by decide)), upm_ne (Or.inl (by decide)), upm_ne (Or.inl (by decide))]
theorem step_50 {S : Mm} {sp : Int} : (if 0 ≤ sp ∧ sp < 6 then fSpeak S sp else S) 5 0 = S 5 0 := by
  split
  · exact fSpeak_50
  · rfl
theorem fMinute_eq {S : Mm} {sp : Int} : fMinute sp S = upm (fSaveN sp (if 0 ≤ sp ∧ sp < 6 then fSpeak S sp else S) 6) 5 0 (fSaveN sp (if 0 ≤ sp ∧ sp < 6 then fSpeak S sp else S) 6 5 0 + 1) := by
  rw [fSaveN_rd (Or.inl (by decide)), step_50]
  rfl
theorem SB.minute {S : Mm} {n sp : Int} (h : SB S n) (hn : n < 100000) : SB (fMinute sp S) (n + 1) := (h.step hn).save.m5
theorem fLast_step {sp n i : Int} {S : Mm} (h : i < n) : fLast sp (n - i).toNat S = fLast sp (n - (i + 1)).toNat (fMinute sp S) := by
  rw [show (n - i).toNat = (n - (i + 1)).toNat + 1 by omega]
  rfl
theorem fLast_end {sp n i : Int} {S : Mm} (h : n ≤ i) : fLast sp (n - i).toNat S = S := by
  rw [show (n - i).toNat = 0 by omega]
  rfl
theorem SB.last {sp : Int} : ∀ {f : Nat} {S : Mm} {n : Int}, SB S n → n + f ≤ 100000 → SB (fLast sp f S) (n + f)
  | 0, S, n, h, _ => by
    show SB S (n + ((0 : Nat) : Int))
    simpa using h
  | f + 1, S, n, h, h2 => by
    have := SB.last (sp := sp) (f := f) (h.minute (sp := sp) (by omega)) (by omega)
    show SB (fLast sp f (fMinute sp S)) _
    rw [show n + ((f + 1 : Nat) : Int) = n + 1 + f by omega]
    exact this

set_option maxRecDepth 100000 in
set_option maxHeartbeats 4000000 in
theorem lp_X6_last_in {v : Ev} {as : List Nat} (M0 S : Mm) (sp n i q : Int) (hsp : 0 ≤ sp ∧ sp ≤ 6) (hq : SB S q) (E : Cx v cX6_last 5 yX6_last.cls 5) (hret : ∀ (M : Mm) (o4 : Option Vv), absC M = fSaveN sp S 6 → Kp M0 M → Ws v as SH 0 0 69 [some (rv 22), some (iv sp), some (iv n), some (iv i), o4] [] M) : ∀ (N : Nat) (M : Mm) (j : Int), (6 - j).toNat < N → (0 ≤ j ∧ j ≤ 6) → (absC M = fSaveN sp S j) → (Kp M0 M) → Ws v as SH 0 0 15 [some (rv 22), some (iv sp), some (iv n), some (iv i), some (iv j)] [] M := by
  intro N
  induction N with
  | zero =>
    intro M j hN
    exact absurd hN (Nat.not_lt_zero _)
  | succ N ih =>
    intro M j hN g0 g1 g2
    have hb : SB (absC M) q := by rw [g1]; exact hq.save
    refine s_iload E dX6_last_15 rfl ?_
    refine s_bipush E dX6_last_17 rfl ?_
    refine s_icmp_ge E 69 dX6_last_19 (by decide) (by omega) (by omega) (fun h19 => ?_) (fun h19 => ?_)
    · exact hret M _ (by rw [g1, show j = 6 by omega]) g2
    · refine s_iload E dX6_last_22 rfl ?_
      refine s_iload_n E dX6_last_24 rfl ?_
      refine s_icmp_eq E 63 dX6_last_25 (by decide) (by omega) (by omega) (fun h25 => ?_) (fun h25 => ?_)
      · refine s_iinc (ls' := [_, _, _, _, _]) E dX6_last_63 rfl rfl ?_
        refine s_goto E 15 dX6_last_66 (by decide) ?_
        exact ih _ _ (by omega) (by omega) (by rw [g1]; exact fSaveN_no (by omega)) g2
      · refine s_aload_n E dX6_last_28 rfl ?_
        refine s_iload E dX6_last_29 rfl ?_
        refine s_callVi E (c_X6_listens _ _ _ (by omega) hb) dX6_last_31 mf_X6_listens ml_X6_74 rfl (Nat.le_of_ble_eq_true rfl) (Nat.le_of_ble_eq_true rfl) (by decide) sh22 rfl rfl (fun r31 M31 h31 => ?_)
        obtain ⟨e31, f31⟩ := h31; subst r31; subst M31
        refine s_ifeqB E 63 dX6_last_34 (by decide) (fun h34 => ?_) (fun h34 => ?_)
        · refine s_iinc (ls' := [_, _, _, _, _]) E dX6_last_63 rfl rfl ?_
          refine s_goto E 15 dX6_last_66 (by decide) ?_
          have hj : 0 ≤ j ∧ j < 6 := by omega
          have r1 : S 1 j = M 25 j := by rw [← absC_rd1 (M := M) hj, g1, fSaveN_rd (Or.inl (by decide))]
          have r2 : S 2 j = M 26 j := by rw [← absC_rd2 (M := M) hj, g1, fSaveN_rd (Or.inl (by decide))]
          exact ih _ _ (by omega) (by omega) (by rw [g1]; exact fSaveN_no (by omega)) g2
        · have hj : 0 ≤ j ∧ j < 6 := by omega
          have r1 : S 1 j = 1 := by have t := h34.2.1; rw [← absC_rd1 (M := M) hj, g1, fSaveN_rd (Or.inl (by decide))] at t; exact t
          have r2 : S 2 j = 1 := by have t := h34.2.2; rw [← absC_rd2 (M := M) hj, g1, fSaveN_rd (Or.inl (by decide))] at t; exact t
          have r0 : M 24 j = S 0 j := by rw [← absC_rd0 (M := M) hj, g1, fSaveN_rd (Or.inr (by omega))]
          have b0 := hq.1 j hj.1 hj.2
          refine s_aload_n E dX6_last_37 rfl ?_
          refine s_getR (kf := 0) E dX6_last_38 rfl inb_X6 (Nat.le_of_ble_eq_true rfl) fl_X6_11 (by decide) sh22 rfl ?_
          refine s_iconst E dX6_last_41 ?_
          refine s_aald (kd := 0) (r := 24) E dX6_last_42 (by decide) sh23 (Nat.le_of_ble_eq_true rfl) (by decide) rfl ?_
          refine s_iload E dX6_last_43 rfl ?_
          refine s_sipush E dX6_last_45 rfl ?_
          refine s_aload_n E dX6_last_48 rfl ?_
          refine s_getR (kf := 0) E dX6_last_49 rfl inb_X6 (Nat.le_of_ble_eq_true rfl) fl_X6_11 (by decide) sh22 rfl ?_
          refine s_iconst E dX6_last_52 ?_
          refine s_aald (kd := 0) (r := 24) E dX6_last_53 (by decide) sh23 (Nat.le_of_ble_eq_true rfl) (by decide) rfl ?_
          refine s_iload E dX6_last_54 rfl ?_
          refine s_iald E dX6_last_56 (by decide) sh24 (Nat.le_of_ble_eq_true rfl) (by omega) ?_
          rw [r0]
          refine s_iconst E dX6_last_57 ?_
          refine s_iadd E dX6_last_58 ?_
          refine s_mmin E dX6_last_59 ml_X6_87 mw_min (Nat.le_of_ble_eq_true rfl) (Nat.le_of_ble_eq_true rfl) (by omega) (by omega) ?_
          refine s_iast E dX6_last_62 (by decide) sh24 (Nat.le_of_ble_eq_true rfl) (by omega) ?_
          refine s_iinc (ls' := [_, _, _, _, _]) E dX6_last_63 rfl rfl ?_
          refine s_goto E 15 dX6_last_66 (by decide) ?_
          exact ih _ _ (by omega) (by omega) (by rw [absC_up0 hj, g1]; exact fSaveN_go (by omega) ⟨by omega, r1, r2⟩) (g2.up (by decide))

set_option maxRecDepth 100000 in
set_option maxHeartbeats 4000000 in
theorem lp_X6_last {v : Ev} {as : List Nat} (M0 T : Mm) (sp n q : Int) (hsp : 0 ≤ sp ∧ sp ≤ 6) (hn : 0 ≤ n ∧ n ≤ 9) (hq : q ≤ 99000) (E : Cx v cX6_last 5 yX6_last.cls 5) (hret : RetV v as cX6_last (fun M' => absC M' = T ∧ Kp M0 M')) : ∀ (N : Nat) (M : Mm) (i : Int) (o4 : Option Vv), (n - i).toNat < N → (0 ≤ i ∧ i ≤ n) → (SB (absC M) (q + i)) → (Kp M0 M) → (fLast sp (n - i).toNat (absC M) = T) → Ws v as SH 0 0 2 [some (rv 22), some (iv sp), some (iv n), some (iv i), o4] [] M := by
  intro N
  induction N with
  | zero =>
    intro M i o4 hN
    exact absurd hN (Nat.not_lt_zero _)
  | succ N ih =>
    intro M i o4 hN g0 g1 g2 g3
    refine s_iload_n E dX6_last_2 rfl ?_
    refine s_iload_n E dX6_last_3 rfl ?_
    refine s_icmp_ge E 85 dX6_last_4 (by decide) (by omega) (by omega) (fun h4 => ?_) (fun h4 => ?_)
    · refine hret _ ?_ _ _ dX6_last_85
      exact ⟨by rw [← g3, fLast_end (by omega)], g2⟩
    · refine s_aload_n E dX6_last_7 rfl ?_
      refine s_iload_n E dX6_last_8 rfl ?_
      refine s_callVv E (c_X6_speak M sp _ (by omega) g1) dX6_last_9 mf_X6_speak ml_X6_83 rfl (Nat.le_of_ble_eq_true rfl) (Nat.le_of_ble_eq_true rfl) (by decide) sh22 rfl rfl (fun M9 h9 => ?_)
      obtain ⟨e9, f9⟩ := h9
      refine s_iconst E dX6_last_12 ?_
      refine s_istore (ls' := [_, _, _, _, _]) E dX6_last_13 (Nat.le_of_ble_eq_true rfl) rfl ?_
      refine lp_X6_last_in M0 _ sp n i (q + i + 1) hsp (g1.step (sp := sp) (by omega)) E (fun M2 o hM2 hK2 => ?_) 7 M9 0 (by decide) (by decide) (by rw [e9, fSaveN_0]) (g2.tr f9)
      refine s_aload_n E dX6_last_69 rfl ?_
      refine s_dup E dX6_last_70 ?_
      refine s_getI (kf := 2) E 2 rfl dX6_last_71 rfl inb_X6 (Nat.le_of_ble_eq_true rfl) fl_X6_20 (by decide) sh22 rfl ?_
      refine s_iconst E dX6_last_74 ?_
      refine s_iadd E dX6_last_75 ?_
      refine s_putI (kf := 2) E 2 rfl dX6_last_76 rfl inb_X6 tyX6_ok nmX6 (Nat.le_of_ble_eq_true rfl) ⟨rfl, rfl⟩ fl_X6_20 (by decide) sh22 rfl ?_
      refine s_iinc (ls' := [_, _, _, _, _]) E dX6_last_79 rfl rfl ?_
      refine s_goto E 2 dX6_last_82 (by decide) ?_
      refine ih _ _ _ (by omega) (by omega) ?_ (hK2.up (by decide)) ?_
      · rw [absC_uf0, hM2, ← absC_rf0 (M := M2), hM2, ← fMinute_eq]
        rw [show q + (i + 1) = q + i + 1 by omega]
        exact g1.minute (by omega)
      · rw [absC_uf0, hM2, ← absC_rf0 (M := M2), hM2, ← fMinute_eq, ← g3]
        exact (fLast_step (by omega)).symm

set_option maxRecDepth 100000 in
set_option maxHeartbeats 4000000 in
theorem c_X6_last (M : Mm) (sp n q : Int) (hsp : 0 ≤ sp ∧ sp ≤ 6) (hn : 0 ≤ n ∧ n ≤ 9) (hq : q ≤ 99000) (hb : SB (absC M) q) : CtV yX6_last cX6_last 5 5 SH [rv 22, iv sp, iv n] M (fun M' => absC M' = fLast sp n.toNat (absC M) ∧ Kp M M') := by
  refine CtV.of rfl (Nat.le_of_ble_eq_true rfl) (fun v as E hret => ?_)
  show Ws v as SH 0 0 0 [some (rv 22), some (iv sp), some (iv n), none, none] [] M
  refine s_iconst E dX6_last_0 ?_
  refine s_istore_n (ls' := [_, _, _, _, _]) E dX6_last_1 (Nat.le_of_ble_eq_true rfl) rfl ?_
  exact lp_X6_last M _ sp n q hsp hn hq E hret ((n - 0).toNat + 1) M 0 _ (Nat.lt_succ_self _) (by omega) (by simpa using hb) (Kp.rf M) (by rw [Int.sub_zero])
