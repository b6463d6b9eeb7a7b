/-! ===== words of the constructors; a world behind a prefix ===== -/
theorem cn_L_7 : Cond.classLink RL 7 RX7 ∈ BIG ∧ Cond.instantiable RX7 8 ∈ BIG ∧ Cond.initialized RX7 ∈ BIG := ⟨big_at 44 (by decide +kernel) (by decide +kernel), big_at 45 (by decide +kernel) (by decide +kernel), big_at 32 (by decide +kernel) (by decide +kernel)⟩
theorem cn_X7_7 : Cond.classLink RX7 7 RX2 ∈ BIG ∧ Cond.instantiable RX2 5 ∈ BIG ∧ Cond.initialized RX2 ∈ BIG := ⟨big_at 52 (by decide +kernel) (by decide +kernel), big_at 53 (by decide +kernel) (by decide +kernel), big_at 33 (by decide +kernel) (by decide +kernel)⟩
theorem cn_X2_19 : Cond.classLink RX2 19 RX4 ∈ BIG ∧ Cond.instantiable RX4 4 ∈ BIG ∧ Cond.initialized RX4 ∈ BIG := ⟨big_at 60 (by decide +kernel) (by decide +kernel), big_at 61 (by decide +kernel) (by decide +kernel), big_at 34 (by decide +kernel) (by decide +kernel)⟩
theorem cn_X7_24 : Cond.classLink RX7 24 RX5 ∈ BIG ∧ Cond.instantiable RX5 2 ∈ BIG ∧ Cond.initialized RX5 ∈ BIG := ⟨big_at 112 (by decide +kernel) (by decide +kernel), big_at 113 (by decide +kernel) (by decide +kernel), big_at 35 (by decide +kernel) (by decide +kernel)⟩
theorem cn_X7_31 : Cond.classLink RX7 31 RX6 ∈ BIG ∧ Cond.instantiable RX6 5 ∈ BIG ∧ Cond.initialized RX6 ∈ BIG := ⟨big_at 129 (by decide +kernel) (by decide +kernel), big_at 130 (by decide +kernel) (by decide +kernel), big_at 36 (by decide +kernel) (by decide +kernel)⟩
theorem cn_X7_38 : Cond.classLink RX7 38 RX0 ∈ BIG ∧ Cond.instantiable RX0 10 ∈ BIG ∧ Cond.initialized RX0 ∈ BIG := ⟨big_at 155 (by decide +kernel) (by decide +kernel), big_at 156 (by decide +kernel) (by decide +kernel), big_at 37 (by decide +kernel) (by decide +kernel)⟩
theorem cn_X7_45 : Cond.classLink RX7 45 RX3 ∈ BIG ∧ Cond.instantiable RX3 2 ∈ BIG ∧ Cond.initialized RX3 ∈ BIG := ⟨big_at 197 (by decide +kernel) (by decide +kernel), big_at 198 (by decide +kernel) (by decide +kernel), big_at 38 (by decide +kernel) (by decide +kernel)⟩
theorem cn_X7_52 : Cond.classLink RX7 52 RX1 ∈ BIG ∧ Cond.instantiable RX1 5 ∈ BIG ∧ Cond.initialized RX1 ∈ BIG := ⟨big_at 210 (by decide +kernel) (by decide +kernel), big_at 211 (by decide +kernel) (by decide +kernel), big_at 39 (by decide +kernel) (by decide +kernel)⟩
theorem cn_L_10 : Cond.classLink RL 10 RX8 ∈ BIG ∧ Cond.instantiable RX8 22 ∈ BIG ∧ Cond.initialized RX8 ∈ BIG := ⟨big_at 567 (by decide +kernel) (by decide +kernel), big_at 568 (by decide +kernel) (by decide +kernel), big_at 40 (by decide +kernel) (by decide +kernel)⟩
theorem cl_X2_9 : Cond.classLink RX2 9 "[[I" ∈ BIG := big_at 58 (by decide +kernel) (by decide +kernel)
theorem cl_X6_9 : Cond.classLink RX6 9 "[[I" ∈ BIG := big_at 135 (by decide +kernel) (by decide +kernel)
theorem aw_0 : Cond.arrayClass (tyK 0) ∈ BIG := big_at 86 (by decide +kernel) (by decide +kernel)
theorem aw_1 : Cond.arrayClass (tyK 1) ∈ BIG := big_at 128 (by decide +kernel) (by decide +kernel)
theorem mi_X0 : MfI yX0_init cX0_init 1 := ⟨big_at 158 (by decide +kernel) (by decide +kernel), big_at 37 (by decide +kernel) (by decide +kernel), big_at 159 (by decide +kernel) (by decide +kernel), ⟨by decide +kernel, by decide +kernel, by decide +kernel⟩, rfl, by decide⟩
theorem mi_X1 : MfI yX1_init cX1_init 1 := ⟨big_at 213 (by decide +kernel) (by decide +kernel), big_at 39 (by decide +kernel) (by decide +kernel), big_at 214 (by decide +kernel) (by decide +kernel), ⟨by decide +kernel, by decide +kernel, by decide +kernel⟩, rfl, by decide⟩
theorem mi_X2 : MfI yX2_init cX2_init 2 := ⟨big_at 55 (by decide +kernel) (by decide +kernel), big_at 33 (by decide +kernel) (by decide +kernel), big_at 56 (by decide +kernel) (by decide +kernel), ⟨by decide +kernel, by decide +kernel, by decide +kernel⟩, rfl, by decide⟩
theorem mi_X3 : MfI yX3_init cX3_init 1 := ⟨big_at 200 (by decide +kernel) (by decide +kernel), big_at 38 (by decide +kernel) (by decide +kernel), big_at 201 (by decide +kernel) (by decide +kernel), ⟨by decide +kernel, by decide +kernel, by decide +kernel⟩, rfl, by decide⟩
theorem mi_X4 : MfI yX4_init cX4_init 1 := ⟨big_at 63 (by decide +kernel) (by decide +kernel), big_at 34 (by decide +kernel) (by decide +kernel), big_at 64 (by decide +kernel) (by decide +kernel), ⟨by decide +kernel, by decide +kernel, by decide +kernel⟩, rfl, by decide⟩
theorem mi_X5 : MfI yX5_init cX5_init 1 := ⟨big_at 115 (by decide +kernel) (by decide +kernel), big_at 35 (by decide +kernel) (by decide +kernel), big_at 116 (by decide +kernel) (by decide +kernel), ⟨by decide +kernel, by decide +kernel, by decide +kernel⟩, rfl, by decide⟩
theorem mi_X6 : MfI yX6_init cX6_init 1 := ⟨big_at 132 (by decide +kernel) (by decide +kernel), big_at 36 (by decide +kernel) (by decide +kernel), big_at 133 (by decide +kernel) (by decide +kernel), ⟨by decide +kernel, by decide +kernel, by decide +kernel⟩, rfl, by decide⟩
theorem mi_X7 : MfI yX7_init cX7_init 2 := ⟨big_at 47 (by decide +kernel) (by decide +kernel), big_at 32 (by decide +kernel) (by decide +kernel), big_at 48 (by decide +kernel) (by decide +kernel), ⟨by decide +kernel, by decide +kernel, by decide +kernel⟩, rfl, by decide⟩
theorem mi_X8 : MfI yX8_init cX8_init 2 := ⟨big_at 570 (by decide +kernel) (by decide +kernel), big_at 40 (by decide +kernel) (by decide +kernel), big_at 571 (by decide +kernel) (by decide +kernel), ⟨by decide +kernel, by decide +kernel, by decide +kernel⟩, rfl, by decide⟩
theorem cloS_mono {n m : Nat} {S : Sh} (h : n ≤ m) (hc : cloS n S = true) : cloS m S = true := by
  rcases S with ⟨ci, fs⟩ | ⟨kd, N, es⟩
  · refine List.all_eq_true.mpr (fun f hf => ?_)
    have := List.all_eq_true.mp hc f hf
    rcases f with _ | _ | r
    · rfl
    · rfl
    · have h1 : r < (n : Int) := of_decide_eq_true this
      exact decide_eq_true (show r < (m : Int) by omega)
  · refine List.all_eq_true.mpr (fun f hf => ?_)
    have := List.all_eq_true.mp hc f hf
    rcases f with _ | r
    · rfl
    · have h1 : r < (n : Int) := of_decide_eq_true this
      exact decide_eq_true (show r < (m : Int) by omega)
theorem clo_mono {n m : Nat} {P : List Sh} (h : n ≤ m) (hc : clo n P = true) : clo m P = true := List.all_eq_true.mpr (fun S hS => cloS_mono h (List.all_eq_true.mp hc S hS))
theorem gP {P L : List Sh} {n k : Nat} {S : Sh} (hP : P.length = n) (h : L[k]? = some S) : (P ++ L)[n + k]? = some S := by
  rw [List.getElem?_append_right (by omega), hP, Nat.add_sub_cancel_left]
  exact h
theorem gL {P L : List Sh} {n m : Nat} (hP : P.length = n) (h : n + L.length = m) : (P ++ L).length = m := by
  rw [List.length_append, hP, h]
theorem gC {P L : List Sh} {n m : Nat} (hc : clo n P = true) (h : n ≤ m) (hL : clo m L = true) : clo m (P ++ L) = true := by
  unfold clo
  rw [List.all_append, Bool.and_eq_true]
  exact ⟨clo_mono h hc, hL⟩
theorem gS {P L L' : List Sh} {n k : Nat} {S : Sh} (hP : P.length = n) (h : L.set k S = L') : (P ++ L).set (n + k) S = P ++ L' := by
  rw [List.set_append_right _ _ (by omega), hP, Nat.add_sub_cancel_left, h]
theorem gA {P L T L' : List Sh} (h : L ++ T = L') : (P ++ L) ++ T = P ++ L' := by rw [List.append_assoc, h]
def Zr (M : Mm) (n : Nat) : Prop := ∀ k j : Int, (n : Int) ≤ k → M k j = 0
theorem Zr.mono {M : Mm} {n m : Nat} (h : Zr M n) (hm : n ≤ m) : Zr M m := fun k j hk => h k j (by omega)
theorem Zr.up {M : Mm} {n : Nat} {a b v : Int} (h : Zr M n) (ha : a < (n : Int)) : Zr (upm M a b v) n := fun k j hk => by
  rw [upm_ne (Or.inl (by omega))]
  exact h k j hk
theorem Zr.eq {M M' : Mm} {n : Nat} {b : Int} (h : Zr M n) (hb : b < (n : Int)) (he : ∀ k, k ≠ b → M' k = M k) : Zr M' n := fun k j hk => by
  rw [he k (by omega)]
  exact h k j hk
theorem ex0 {as : List Nat} : ∃ t, as ++ t = as := ⟨[], List.append_nil _⟩
theorem exa {as X Y : List Nat} (h : ∃ t, as ++ t = X) : ∃ t, as ++ t = X ++ Y := by
  obtain ⟨t, rfl⟩ := h
  exact ⟨t ++ Y, (List.append_assoc _ _ _).symm⟩
theorem rf_nf {ty : FieldType} (h : ty = .array .int ∨ ty = .array .boolean ∨ ty = .array (.array .int) ∨ ty = .array (.object RX2) ∨ (∃ C, ty = .object C)) : ∀ a, narrow ty (.ref a) = .ref a ∧ fits ty (.ref a) = true := by
  intro a
  rcases h with rfl | rfl | rfl | rfl | ⟨C, rfl⟩ <;> exact ⟨rfl, rfl⟩
