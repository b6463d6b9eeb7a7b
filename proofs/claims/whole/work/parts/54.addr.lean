/-! ===== the special address: the world does not depend on it ===== -/
def okS : Sh → Bool
  | .inl (_, fs) => fs.all (fun f => match f with
    | some (some r) => decide (0 ≤ r)
    | _ => true)
  | .inr (_, _, es) => es.all (fun e => match e with
    | some r => decide (0 ≤ r)
    | none => true)
theorem adr_x {x y : Nat} {as : List Nat} {k : Int} (h : 0 ≤ k) : adr x as k = adr y as k := by
  unfold adr
  rw [if_neg (by omega), if_neg (by omega)]
theorem fval_x {x y : Nat} {as : List Nat} {M : Mm} {k : Int} {j : Nat} {f : Option (Option Int)} (h : ∀ r, f = some (some r) → 0 ≤ r) : fval x as M k j f = fval y as M k j f := by
  rcases f with _ | _ | r
  · rfl
  · rfl
  · show Value.ref (adr x as r) = Value.ref (adr y as r)
    rw [adr_x (h r rfl)]
theorem ecell_x {cA : Nat → ClassId} {x y : Nat} {as : List Nat} {M : Mm} {k : Int} {S : Sh} (h : okS S = true) : ecell cA x as M k S = ecell cA y as M k S := by
  rcases S with ⟨ci, fs⟩ | ⟨kd, n, es⟩
  · have hf : ∀ f ∈ fs, ∀ r, f = some (some r) → 0 ≤ r := fun f hf r e => by
      have q := List.all_eq_true.mp h f hf
      subst e
      exact of_decide_eq_true q
    show Sum.inr (ci, fs.mapIdx (fun j f => fval x as M k j f)) = Sum.inr (ci, fs.mapIdx (fun j f => fval y as M k j f))
    have e : fs.mapIdx (fun j f => fval x as M k j f) = fs.mapIdx (fun j f => fval y as M k j f) := by
      apply List.ext_getElem?
      intro i
      rw [List.getElem?_mapIdx, List.getElem?_mapIdx]
      cases hg : fs[i]? with
      | none => rfl
      | some f =>
        show some (fval x as M k i f) = some (fval y as M k i f)
        rw [fval_x (hf f (List.mem_of_getElem? hg))]
    rw [e]
  · have hf : ∀ e ∈ es, ∀ r, e = some r → 0 ≤ r := fun f hf r e => by
      have q := List.all_eq_true.mp h f hf
      subst e
      exact of_decide_eq_true q
    have e : (fun j : Nat => (es.getD j none).map (adr x as)) = fun j : Nat => (es.getD j none).map (adr y as) := by
      funext j
      rw [List.getD_eq_getElem?_getD]
      cases hg : es[j]? with
      | none => rfl
      | some e =>
        cases e with
        | none => rfl
        | some r =>
          show some (adr x as r) = some (adr y as r)
          rw [adr_x (hf _ (List.mem_of_getElem? hg) r rfl)]
    simp only [ecell]
    rw [e]
theorem wld_x {cA : Nat → ClassId} {x y : Nat} {as : List Nat} {sh : List Sh} {M : Mm} (h : sh.all okS = true) : wld cA x as sh M = wld cA y as sh M := by
  unfold wld
  apply List.ext_getElem?
  intro i
  rw [List.getElem?_mapIdx, List.getElem?_mapIdx]
  cases hg : (as.zip sh)[i]? with
  | none => rfl
  | some p =>
    show some (p.1, ecell cA x as M (i : Int) p.2) = some (p.1, ecell cA y as M (i : Int) p.2)
    have hm : p.2 ∈ sh := (List.of_mem_zip (List.mem_of_getElem? hg)).2
    rw [ecell_x (List.all_eq_true.mp h _ hm)]
theorem SH_ok : SH.all okS = true := by decide +kernel
theorem WP_x {D : va_G} {cA : Nat → ClassId} {x y : Nat} {as : List Nat} {M : Mm} {A : Nat → Prop} {s : State} {H : Heap} (h : WP D cA x as SH M A s H) : WP D cA y as SH M A s H := by
  unfold WP at h ⊢
  rw [wld_x (y := x) SH_ok]
  exact h
