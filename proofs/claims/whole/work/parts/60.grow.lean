/-! ===== the world grows: closed shapes, cells put behind ===== -/
def cloS (n : Nat) : Sh → Bool
  | .inl (_, fs) => fs.all (fun f => match f with
    | some (some r) => decide (r < (n : Int))
    | _ => true)
  | .inr (_, _, es) => es.all (fun e => match e with
    | some r => decide (r < (n : Int))
    | none => true)
def clo (n : Nat) (sh : List Sh) : Bool := sh.all (cloS n)
def okV (n : Nat) : Vv → Bool
  | .inl _ => true
  | .inr k => decide (k < (n : Int))
def okSt (n : Nat) (st : List Vv) : Bool := st.all (okV n)
def okO (n : Nat) : Option Vv → Bool
  | some v => okV n v
  | none => true
def okLs (n : Nat) (ls : List (Option Vv)) : Bool := ls.all (okO n)
theorem adr_app {x : Nat} {as t : List Nat} {k : Int} (h : k < (as.length : Int)) : adr x (as ++ t) k = adr x as k := by
  unfold adr
  by_cases hk : k < 0
  · rw [if_pos hk, if_pos hk]
  · rw [if_neg hk, if_neg hk, List.getD_eq_getElem?_getD, List.getD_eq_getElem?_getD, List.getElem?_append_left (by omega)]
theorem adr_push {x q n : Nat} {as : List Nat} (h : as.length = n) : adr x (as ++ [q]) (n : Int) = q := by
  unfold adr
  rw [if_neg (by omega), List.getD_eq_getElem?_getD, Int.toNat_natCast, List.getElem?_append_right (by omega), h, Nat.sub_self]
  rfl
theorem fval_app {x : Nat} {as t : List Nat} {M : Mm} {k : Int} {j : Nat} {f : Option (Option Int)} (h : ∀ r, f = some (some r) → r < (as.length : Int)) : fval x (as ++ t) M k j f = fval x as M k j f := by
  rcases f with _ | _ | r
  · rfl
  · rfl
  · show Value.ref (adr x (as ++ t) r) = Value.ref (adr x as r)
    rw [adr_app (h r rfl)]
theorem ecell_app {cA : Nat → ClassId} {x : Nat} {as t : List Nat} {M : Mm} {k : Int} {S : Sh} (h : cloS as.length S = true) : ecell cA x (as ++ t) M k S = ecell cA x as M k S := by
  rcases S with ⟨ci, fs⟩ | ⟨kd, n, es⟩
  · have hf : ∀ f ∈ fs, ∀ r, f = some (some r) → r < (as.length : Int) := fun f hf r e => by
      have q := List.all_eq_true.mp h f hf
      subst e
      exact of_decide_eq_true q
    show Sum.inr (ci, fs.mapIdx (fun j f => fval x (as ++ t) M k j f)) = Sum.inr (ci, fs.mapIdx (fun j f => fval x as M k j f))
    have e : fs.mapIdx (fun j f => fval x (as ++ t) M k j f) = fs.mapIdx (fun j f => fval x as M k j f) := by
      apply List.ext_getElem?
      intro i
      rw [List.getElem?_mapIdx, List.getElem?_mapIdx]
      cases hg : fs[i]? with
      | none => rfl
      | some f =>
        show some (fval x (as ++ t) M k i f) = some (fval x as M k i f)
        rw [fval_app (hf f (List.mem_of_getElem? hg))]
    rw [e]
  · have hf : ∀ e ∈ es, ∀ r, e = some r → r < (as.length : Int) := fun f hf r e => by
      have q := List.all_eq_true.mp h f hf
      subst e
      exact of_decide_eq_true q
    have e : (fun j : Nat => (es.getD j none).map (adr x (as ++ t))) = fun j : Nat => (es.getD j none).map (adr x as) := by
      funext j
      rw [List.getD_eq_getElem?_getD]
      cases hg : es[j]? with
      | none => rfl
      | some e =>
        cases e with
        | none => rfl
        | some r =>
          show some (adr x (as ++ t) r) = some (adr x as r)
          rw [adr_app (hf _ (List.mem_of_getElem? hg) r rfl)]
    simp only [ecell]
    rw [e]
theorem wld_old {cA : Nat → ClassId} {x : Nat} {as t : List Nat} {sh : List Sh} {M : Mm} (hc : clo as.length sh = true) : (as.zip sh).mapIdx (fun k p => (p.1, ecell cA x (as ++ t) M (k : Int) p.2)) = wld cA x as sh M := by
  unfold wld
  apply List.ext_getElem?
  intro i
  rw [List.getElem?_mapIdx, List.getElem?_mapIdx]
  cases hg : (as.zip sh)[i]? with
  | none => rfl
  | some p =>
    show some (p.1, ecell cA x (as ++ t) M (i : Int) p.2) = some (p.1, ecell cA x as M (i : Int) p.2)
    have hm : p.2 ∈ sh := (List.of_mem_zip (List.mem_of_getElem? hg)).2
    rw [ecell_app (List.all_eq_true.mp hc _ hm)]
theorem wld_app {cA : Nat → ClassId} {x : Nat} {as t : List Nat} {sh T : List Sh} {M : Mm} (hl : as.length = sh.length) (hc : clo as.length sh = true) : wld cA x (as ++ t) (sh ++ T) M = wld cA x as sh M ++ (t.zip T).mapIdx (fun k p => (p.1, ecell cA x (as ++ t) M ((k + as.length : Nat) : Int) p.2)) := by
  rw [← wld_old (t := t) hc]
  have hz : (as.zip sh).length = as.length := by rw [List.length_zip, ← hl, Nat.min_self]
  show ((as ++ t).zip (sh ++ T)).mapIdx (fun k p => (p.1, ecell cA x (as ++ t) M (k : Int) p.2)) = _
  rw [List.zip_append hl, List.mapIdx_append, hz]
theorem wld_push {cA : Nat → ClassId} {x q : Nat} {as : List Nat} {sh : List Sh} {S : Sh} {M : Mm} (hl : as.length = sh.length) (hc : clo as.length sh = true) : wld cA x (as ++ [q]) (sh ++ [S]) M = wld cA x as sh M ++ [(q, ecell cA x (as ++ [q]) M (as.length : Int) S)] := by
  rw [wld_app hl hc]
  show _ ++ [(q, ecell cA x (as ++ [q]) M ((0 + as.length : Nat) : Int) S)] = _
  rw [Nat.zero_add]
theorem enc_app {x : Nat} {as t : List Nat} {v : Vv} (h : okV as.length v = true) : enc x (as ++ t) v = enc x as v := by
  rcases v with z | k
  · rfl
  · show Value.ref (adr x (as ++ t) k) = Value.ref (adr x as k)
    rw [adr_app (of_decide_eq_true h)]
theorem st_app {x n : Nat} {as t : List Nat} {st : List Vv} (hn : as.length = n) (h : okSt n st = true) : st.map (enc x (as ++ t)) = st.map (enc x as) := by
  subst hn
  exact List.map_congr_left (fun a ha => enc_app (List.all_eq_true.mp h a ha))
theorem hasL.app {x n nL : Nat} {as t : List Nat} {lsA : Array Slot} {ls : List (Option Vv)} (hn : as.length = n) (h : okLs n ls = true) (hl : hasL x as lsA nL ls) : hasL x (as ++ t) lsA nL ls := by
  subst hn
  refine ⟨hl.1, hl.2.1, hl.2.2.1, fun i v q => ?_⟩
  have := List.all_eq_true.mp h _ (List.mem_of_getElem? q)
  rw [enc_app this]
  exact hl.2.2.2 i v q
theorem WP.push {D : va_G} {cA : Nat → ClassId} {x q : Nat} {as : List Nat} {sh : List Sh} {M : Mm} {A : Nat → Prop} {s : State} {H1 : Heap} {S : Sh} {e : va_E} (hl : as.length = sh.length) (hc : clo as.length sh = true) (hk : kndOK cA sh s) (hS : ∀ kd n es, S = .inr (kd, n, es) → ArrOfT s (cA kd) (tyK kd) ∧ va_RA s (cA kd) (tyK kd)) (hP : va_P D vwCl (wld cA x as sh M ++ [(q, e)]) H1) (hD : va_D A (wld cA x as sh M ++ [(q, e)])) (he : e = ecell cA x (as ++ [q]) M (as.length : Int) S) : WP D cA x (as ++ [q]) (sh ++ [S]) M A s H1 := by
  subst he
  unfold WP
  rw [wld_push hl hc]
  refine ⟨by rw [List.length_append, List.length_append, hl]; rfl, hP, hD, fun kd n es h => ?_⟩
  rcases List.mem_append.mp h with h | h
  · exact hk kd n es h
  · exact hS kd n es (List.mem_singleton.mp h).symm
def KA (cA : Nat → ClassId) (s : State) : Prop := ∀ kd, kd < 4 → ArrOfT s (cA kd) (tyK kd) ∧ va_RA s (cA kd) (tyK kd)
theorem KA.moved {cA : Nat → ClassId} {u U : State} (hvm : u.vm.Alike U.vm) (h : KA cA u) : KA cA U := fun kd hk => ⟨arrOfT_moved hvm (h kd hk).1, (h kd hk).2.moved hvm⟩
theorem AOA_moved {t : FieldType} {u U : State} (hvm : u.vm.Alike U.vm) (h : va_AOA t u) : va_AOA t U :=
  (show (Cond.arrayOver (.array t)).before #[] U = (Cond.arrayOver (.array t)).before #[] (u.setVm U.vm) from rfl).trans ((Cond.arrayOver_setVmC (args := #[]) hvm (.array t)).trans h)
theorem ra_name {s : State} {cA : ClassId} {ty : FieldType} (h : va_RA s cA ty) : s.vm.findClass ("[" ++ ty.toString) = some cA := by
  cases ty with
  | object C =>
    obtain ⟨_, _, _, _, _, h⟩ := h
    exact h
  | _ => exact h
def GXs (cA : Nat → ClassId) (s : State) : Prop := KA cA s ∧ va_AO RX2 s ∧ va_AOA .int s
theorem GXs.moved {cA : Nat → ClassId} {u U : State} (hvm : u.vm.Alike U.vm) (h : GXs cA u) : GXs cA U := ⟨h.1.moved hvm, h.2.1.moved hvm, AOA_moved hvm h.2.2⟩
def GX : Ev → Prop
  | (_, _, _, _, s, _, _, _, _, _, _, _, _, cA, _) => GXs cA s
def Ini : Ev → Prop
  | (_, _, _, _, _, _, _, _, meth, _, _, _, _, _, _) => meth.name = "<init>"
def dfl : Option (Option Int) → Value
  | none => .int 0
  | some _ => .null
def nul : Option (Option Int) → Bool
  | some (some _) => false
  | _ => true
theorem cloS_nul {n ci : Nat} {fs : List (Option (Option Int))} (h : fs.all nul = true) : cloS n (.inl (ci, fs)) = true := by
  refine List.all_eq_true.mpr (fun f hf => ?_)
  have := List.all_eq_true.mp h f hf
  rcases f with _ | _ | r
  · rfl
  · rfl
  · cases this
theorem cloS_nil {n kd N : Nat} : cloS n (.inr (kd, N, [])) = true := rfl
theorem RMk.le {mc ms mc' ms' : Nat} {v : Ev} (h : RMk mc ms v) (h1 : mc' ≤ mc) (h2 : ms' ≤ ms) : RMk mc' ms' v := by
  obtain ⟨p, l, e, R, s, m, args, below, meth, c, Q, A, D, cA, x⟩ := v
  exact ⟨Nat.le_trans h1 h.1, Nat.le_trans h2 h.2⟩
section GROW
variable {v : Ev} {cc : ByteArray} {nL d pc : Nat} {own : String} {as : List Nat} {sh : List Sh} {mc ms : Nat} {ls : List (Option Vv)} {st : List Vv} {M : Mm}
theorem s_objI (E : Cx v cc nL own d) {idx : Nat} {o : Int} (hd : decode cc pc = .ok (.invokespecial idx, 3)) (hlk : Cond.methodLink own idx objectInit ∈ BIG) (h1 : 1 ≤ d) (hst : st.length ≤ 20)
    (k : Ws v as sh mc ms (pc + 3) ls st M) : Ws v as sh mc ms pc ls (rv o :: st) M := by
  obtain ⟨p, l, e, R, s, m, args, below, meth, c, Q, A, D, cA, x⟩ := v
  obtain ⟨hx, hb, hml, hown, hts, hK, hA, hfr, hlo, hNs⟩ := E
  intro H locs lsA hW hS hl
  have h := k H locs lsA hW hS hl
  refine W.objInit hx hb hown (hts _ hlk) (hts _ (big_at 50 (by decide +kernel) (by decide +kernel))) (hts _ (big_at 51 (by decide +kernel) (by decide +kernel))) rfl hl.1 (a := adr x as o) (rest := st.map (enc x as)) rfl hd (Nat.le_trans h1 hfr) ?_ h
  rw [cat_sum]
  have : (F0 m pc lsA (Value.ref (adr x as o) :: st.map (enc x as))).monitorRoom = 0 := rfl
  show 2 * (F0 m pc lsA (Value.ref (adr x as o) :: st.map (enc x as))).monitorRoom + st.length + 12 ≤ R.locals
  rw [this]
  omega
theorem s_new {sh' : List Sh} {wz : Int} (E : Cx v cc nL own d) {ci N idx n : Nat} {C : String} {T : u_T} {ty0 : Nat → FieldType} {fs : List (Option (Option Int))} (hd : decode cc pc = .ok (.new idx, 3)) (hc : vwCl[ci]? = some (C, T, N)) (hin : ∀ w ∈ u_ws C T N, w ∈ BIG) (hty : ∀ k, k < N → parseFieldDescriptor (T k).2.2.1 = some (ty0 k)) (hw : Cond.classLink own idx C ∈ BIG ∧ Cond.instantiable C N ∈ BIG ∧ Cond.initialized C ∈ BIG) (hn : sh.length = n) (hcl : clo n sh = true) (hls : okLs n ls = true) (hst : okSt n st = true) (hM : ∀ j : Int, M n j = 0) (hfs : fs.map dfl = (List.range N).map (fun j => defaultValue (ty0 j))) (hnu : fs.all nul = true) (hRM : RMk (mc + 1) (ms + N) v) (hwz : wz = (n : Int)) (hsh : sh ++ [.inl (ci, fs)] = sh')
    (k : ∀ q, Ws v (as ++ [q]) sh' (mc + 1) (ms + N) (pc + 3) ls (rv wz :: st) M) : Ws v as sh mc ms pc ls st M := by
  subst hsh hwz
  obtain ⟨p, l, e, R, s, m, args, below, meth, c, Q, A, D, cA, x⟩ := v
  obtain ⟨hx, hb, hml, hown, hts, hK, hA, hfr, hlo, hNs⟩ := E
  intro H locs lsA hW hS hl
  have hal : as.length = n := hW.1.trans hn
  have hcl' : clo as.length sh = true := by rw [hal]; exact hcl
  refine va_new (D := D) (ci := ci) (fs := fs.mapIdx (fun j f => fval x as M n j f)) hx hb hts hin ty0 hty hown (hts _ hw.1) (hts _ hw.2.1) (hts _ hw.2.2) hK hW.2.1 hW.2.2.1 hS hA hc ?_ hRM.1 hRM.2 hd (fun q H1 hP hD hS1 => ?_)
  · intro j hj
    have h1 : (fs.map dfl)[j]? = some (defaultValue (ty0 j)) := by
      rw [hfs, List.getElem?_map, List.getElem?_range hj]
      rfl
    rw [List.getElem?_map] at h1
    cases hg : fs[j]? with
    | none => rw [hg] at h1; cases h1
    | some f =>
      rw [hg] at h1
      have h2 : defaultValue (ty0 j) = dfl f := (Option.some.inj h1).symm
      show defaultValue (ty0 j) = (fs.mapIdx (fun j f => fval x as M n j f)).getD j .null
      rw [List.getD_eq_getElem?_getD, List.getElem?_mapIdx, hg, h2]
      have h3 := List.all_eq_true.mp hnu f (List.mem_of_getElem? hg)
      rcases f with _ | _ | r
      · show Value.int 0 = Value.int (Int32.ofInt (M n j))
        rw [hM]
        rfl
      · rfl
      · cases h3
  · have key := k q H1 locs lsA (WP.push hW.1 hcl' hW.2.2.2 (fun kd n es q => by cases q) hP hD ?_) hS1 (hl.app hal hls)
    · rw [show (rv n :: st).map (enc x (as ++ [q])) = .ref q :: st.map (enc x as) by
        rw [List.map_cons, st_app hal hst]
        show Value.ref (adr x (as ++ [q]) n) :: _ = _
        rw [adr_push hal]] at key
      exact key
    · rw [hal, ecell_app (by exact cloS_nul hnu)]
      rfl
theorem s_newa {sh' : List Sh} {wz : Int} (E : Cx v cc nL own d) (G : GX v) {N n kd : Nat} {z : Int} {atype : ArrayType} (hd : decode cc pc = .ok (.newarray atype, 2)) (hkd : kd = 0 ∨ kd = 1) (hat : newarray.typeOf atype = tyK kd) (hw : Cond.arrayClass (tyK kd) ∈ BIG) (hz : z = (N : Int)) (hN : N ≤ 65536) (hn : sh.length = n) (hcl : clo n sh = true) (hls : okLs n ls = true) (hst : okSt n st = true) (hM : ∀ j : Int, M n j = 0) (hRM : RMk (mc + 1) (ms + N) v) (hwz : wz = (n : Int)) (hsh : sh ++ [.inr (kd, N, [])] = sh')
    (k : ∀ q, Ws v (as ++ [q]) sh' (mc + 1) (ms + N) (pc + 2) ls (rv wz :: st) M) : Ws v as sh mc ms pc ls (iv z :: st) M := by
  subst hsh hwz
  subst hz
  obtain ⟨p, l, e, R, s, m, args, below, meth, c, Q, A, D, cA, x⟩ := v
  obtain ⟨hx, hb, hml, hown, hts, hK, hA, hfr, hlo, hNs⟩ := E
  intro H locs lsA hW hS hl
  have hal : as.length = n := hW.1.trans hn
  have hcl' : clo as.length sh = true := by rw [hal]; exact hcl
  have hNi : inI (N : Int) := ⟨by omega, by omega⟩
  have hcb : N * componentBytes (tyK kd) ≤ 536870912 := by
    rcases hkd with rfl | rfl
    · show N * 4 ≤ 536870912
      omega
    · show N * 1 ≤ 536870912
      omega
  refine va_newa (tys := []) (a0 := (N, .inl (fun j => Int32.ofInt (M n j)))) (N' := N) hx hb (atype := atype) (by rw [hat]; exact hts _ hw) hat hK hW.2.1 hW.2.2.1 hS hA ?_ ?_ ?_ hcb hRM.1 hRM.2 hd (fun q cA' H1 hK1 hP hD hS1 => ?_)
  · intro c1
    rw [vp_cell_i]
    have : (fun j : Nat => Value.int (Int32.ofInt (M n j))) = fun _ => defaultValue (tyK kd) := by
      funext j
      rw [hM]
      rcases hkd with rfl | rfl <;> rfl
    rw [this]
  · rw [i_lt0 hNi]
    omega
  · rw [i_nat hNi]
    rfl
  · have hty : ArrOfT s cA' (tyK kd) ∧ va_RA s cA' (tyK kd) := hK1.2 0 (cA', tyK kd) rfl
    have hcA : cA' = cA kd := Option.some.inj ((ra_name hty.2).symm.trans (ra_name (G.1 kd (by omega)).2))
    subst hcA
    have key := k q H1 locs lsA (WP.push (S := .inr (kd, N, [])) hW.1 hcl' hW.2.2.2 (fun kd1 n1 es1 q => by cases q; exact hty) hP hD ?_) hS1 (hl.app hal hls)
    · rw [show (rv n :: st).map (enc x (as ++ [q])) = .ref q :: st.map (enc x as) by
        rw [List.map_cons, st_app hal hst]
        show Value.ref (adr x (as ++ [q]) n) :: _ = _
        rw [adr_push hal]] at key
      exact key
    · rw [hal]
      rcases hkd with rfl | rfl <;> rfl
theorem s_anew {sh' : List Sh} {wz : Int} (E : Cx v cc nL own d) (G : GX v) {N n idx : Nat} {z : Int} (hd : decode cc pc = .ok (.anewarray idx, 3)) (hw : Cond.classLink own idx RX2 ∈ BIG) (hz : z = (N : Int)) (hN : N ≤ 65536) (hn : sh.length = n) (hcl : clo n sh = true) (hls : okLs n ls = true) (hst : okSt n st = true) (hRM : RMk (mc + 1) (ms + N) v) (hwz : wz = (n : Int)) (hsh : sh ++ [.inr (3, N, List.replicate N none)] = sh')
    (k : ∀ q, Ws v (as ++ [q]) sh' (mc + 1) (ms + N) (pc + 3) ls (rv wz :: st) M) : Ws v as sh mc ms pc ls (iv z :: st) M := by
  subst hsh hwz
  subst hz
  obtain ⟨p, l, e, R, s, m, args, below, meth, c, Q, A, D, cA, x⟩ := v
  obtain ⟨hx, hb, hml, hown, hts, hK, hA, hfr, hlo, hNs⟩ := E
  intro H locs lsA hW hS hl
  have hal : as.length = n := hW.1.trans hn
  have hcl' : clo as.length sh = true := by rw [hal]; exact hcl
  have hNi : inI (N : Int) := ⟨by omega, by omega⟩
  refine va_newq (C := RX2) (tys := []) (N' := N) hx hb hown (hts _ hw) G.2.1 hK hW.2.1 hW.2.2.1 hS hA ?_ ?_ (by omega) hRM.1 hRM.2 hd (fun q cA' H1 hK1 hP hD hS1 => ?_)
  · rw [i_lt0 hNi]
    omega
  · rw [i_nat hNi]
    rfl
  · have hty : ArrOfT s cA' (tyK 3) ∧ va_RA s cA' (tyK 3) := hK1.2 0 (cA', .object RX2) rfl
    have hcA : cA' = cA 3 := Option.some.inj ((ra_name hty.2).symm.trans (ra_name (G.1 3 (by omega)).2))
    subst hcA
    have key := k q H1 locs lsA (WP.push (S := .inr (3, N, List.replicate N none)) hW.1 hcl' hW.2.2.2 (fun kd1 n1 es1 q => by cases q; exact hty) hP hD ?_) hS1 (hl.app hal hls)
    · rw [show (rv n :: st).map (enc x (as ++ [q])) = .ref q :: st.map (enc x as) by
        rw [List.map_cons, st_app hal hst]
        show Value.ref (adr x (as ++ [q]) n) :: _ = _
        rw [adr_push hal]] at key
      exact key
    · have : (fun j : Nat => ((List.replicate N (none : Option Int)).getD j none).map (adr x (as ++ [q]))) = fun _ => none := by
        funext j
        rw [List.getD_eq_getElem?_getD, List.getElem?_replicate]
        by_cases hj : j < N
        · rw [if_pos hj]; rfl
        · rw [if_neg hj]; rfl
      simp only [ecell]
      rw [this]
      rfl
end GROW
