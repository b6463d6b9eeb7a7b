/-! ===== what a loop gives back; what stays ===== -/
def RetI (v : Ev) (as : List Nat) (bytes : ByteArray) (rt : FieldType) (post : Int → Mm → Prop) : Prop := ∀ r M', post r M' → (rt = .boolean → r = 0 ∨ r = 1) → ∀ pc ls, decode bytes pc = .ok (.ireturn, 1) → Ws v as SH 0 0 pc ls [iv r] M'
def RetV (v : Ev) (as : List Nat) (bytes : ByteArray) (post : Mm → Prop) : Prop := ∀ M', post M' → ∀ pc ls, decode bytes pc = .ok (.return_, 1) → Ws v as SH 0 0 pc ls [] M'
/-- a call of the class that writes nothing but what it works in -/
def Kp (M M' : Mm) : Prop := ∀ k j, ¬ ((22 ≤ k ∧ k ≤ 36) ∨ (40 ≤ k ∧ k ≤ 44) ∨ ((k = 38 ∨ k = 39) ∧ j ≠ 0)) → M' k j = M k j
/-- a call of the reference that writes nothing but what it works in -/
def KpM (M M' : Mm) : Prop := ∀ k j, ¬ (84 ≤ k ∧ k ≤ 92) → ¬ (k = 79 ∧ 10 ≤ j ∧ j ≤ 12) → M' k j = M k j
theorem Kp.rf (M : Mm) : Kp M M := fun _ _ _ => rfl
theorem KpM.rf (M : Mm) : KpM M M := fun _ _ _ _ => rfl
theorem Kp.tr {M M1 M2 : Mm} (h : Kp M M1) (h2 : Kp M1 M2) : Kp M M2 := fun k j q => (h2 k j q).trans (h k j q)
theorem KpM.tr {M M1 M2 : Mm} (h : KpM M M1) (h2 : KpM M1 M2) : KpM M M2 := fun k j q w => (h2 k j q w).trans (h k j q w)
theorem Kp.up {M M1 : Mm} {a b z : Int} (h : Kp M M1) (ha : (22 ≤ a ∧ a ≤ 36) ∨ (40 ≤ a ∧ a ≤ 44)) : Kp M (upm M1 a b z) := fun k j q => (upm_ne (Or.inl (fun e => q (by omega)))).trans (h k j q)
theorem KpM.up {M M1 : Mm} {a b z : Int} (h : KpM M M1) (ha : 84 ≤ a ∧ a ≤ 92) : KpM M (upm M1 a b z) := fun k j q w => (upm_ne (Or.inl (fun e => q (by omega)))).trans (h k j q w)
theorem KpM.upf {M M1 : Mm} {b z : Int} (h : KpM M M1) (hb : 10 ≤ b ∧ b ≤ 12) : KpM M (upm M1 79 b z) := fun k j q w => (upm_ne (by
  by_cases e : k = 79
  · exact Or.inr (fun e2 => w ⟨e, by omega⟩)
  · exact Or.inl e)).trans (h k j q w)
