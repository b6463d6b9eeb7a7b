/-! ===== the world grows: arrays of arrays, fields and places that take a reference, calls of constructors ===== -/
theorem wld_setS {cA : Nat → ClassId} {x : Nat} {as : List Nat} {sh : List Sh} {M : Mm} {S S' : Sh} {o : Int} (hl : as.length = sh.length) (ho : 0 ≤ o) (hs : sh[o.toNat]? = some S) : (wld cA x as sh M).set o.toNat (adr x as o, ecell cA x as M o S') = wld cA x as (sh.set o.toNat S') M := by
  have hk := (List.getElem?_eq_some_iff.mp hs).1
  have hl' : as.length = (sh.set o.toNat S').length := by rw [List.length_set]; exact hl
  apply List.ext_getElem?
  intro i
  by_cases hi : i = o.toNat
  · subst hi
    rw [List.getElem?_set_self (List.getElem?_eq_some_iff.mp (wld_at (M := M) (cA := cA) (x := x) hl ho hs)).1, wld_at hl' ho (List.getElem?_set_self hk)]
  · rw [List.getElem?_set_ne (Ne.symm hi)]
    unfold wld
    rw [List.getElem?_mapIdx, List.getElem?_mapIdx]
    have : (as.zip (sh.set o.toNat S'))[i]? = (as.zip sh)[i]? := by
      simp only [List.zip, List.getElem?_zipWith]
      rw [List.getElem?_set_ne (Ne.symm hi)]
    rw [this]
theorem WP.setS {D : va_G} {cA : Nat → ClassId} {x : Nat} {as : List Nat} {sh sh' : List Sh} {M : Mm} {A : Nat → Prop} {s : State} {H1 : Heap} {S S' : Sh} {o : Int} (hl : as.length = sh.length) (ho : 0 ≤ o) (hs : sh[o.toNat]? = some S) (hk : kndOK cA sh s) (hS : ∀ kd n es, S' = .inr (kd, n, es) → ArrOfT s (cA kd) (tyK kd) ∧ va_RA s (cA kd) (tyK kd)) (hP : va_P D vwCl ((wld cA x as sh M).set o.toNat (adr x as o, ecell cA x as M o S')) H1) (hD : va_D A ((wld cA x as sh M).set o.toNat (adr x as o, ecell cA x as M o S'))) (hset : sh.set o.toNat S' = sh') : WP D cA x as sh' M A s H1 := by
  subst hset
  rw [wld_setS hl ho hs] at hP hD
  refine ⟨by rw [List.length_set]; exact hl, hP, hD, fun kd n es h => ?_⟩
  rcases List.mem_or_eq_of_mem_set h with h | h
  · exact hk kd n es h
  · exact hS kd n es h.symm
section GROW2
variable {v : Ev} {cc : ByteArray} {nL d pc : Nat} {own : String} {as : List Nat} {sh : List Sh} {mc ms : Nat} {ls : List (Option Vv)} {st : List Vv} {M : Mm}
theorem s_putR (E : Cx v cc nL own d) (I : Ini v) {ci kf N idx : Nat} {C : String} {T : u_T} {ty0 : Nat → FieldType} {fs : List (Option (Option Int))} {f0 : Option Int} {o r : Int} {sh' : List Sh} (hd : decode cc pc = .ok (.putfield idx, 3)) (hc : vwCl[ci]? = some (C, T, N)) (hin : ∀ w ∈ u_ws C T N, w ∈ BIG) (hty : ∀ k, k < N → parseFieldDescriptor (T k).2.2.1 = some (ty0 k)) (hnm : ∀ a, a < N → ∀ b, b < N → a ≠ b → (T a).2.1 ≠ (T b).2.1) (hk : kf < N) (hfin : (T kf).2.2.2 = true ∧ (T kf).1 = own) (hlink : Cond.fieldLink own idx (T kf).1 (T kf).2.1 (T kf).2.2.1 ∈ BIG) (hnf : ∀ a, narrow (ty0 kf) (.ref a) = .ref a ∧ fits (ty0 kf) (.ref a) = true) (ho : 0 ≤ o) (hs : sh[o.toNat]? = some (.inl (ci, fs))) (hf : fs[kf]? = some (some f0)) (hset : sh.set o.toNat (.inl (ci, fs.set kf (some (some r)))) = sh')
    (k : Ws v as sh' mc ms (pc + 3) ls st M) : Ws v as sh mc ms pc ls (rv r :: rv o :: st) M := by
  obtain ⟨p, l, e, R, s, m, args, below, meth, c, Q, A, D, cA, x⟩ := v
  obtain ⟨hx, hb, hml, hown, hts, hK, hA, hfr, hlo, hNs⟩ := E
  intro H locs lsA hW hS hl
  have hlen : kf < fs.length := (List.getElem?_eq_some_iff.mp hf).1
  refine va_putF (D := D) (v := .ref (adr x as r)) (ty := ty0 kf) hx hb hts hin ty0 hty hnm hown hK hW.2.1 hW.2.2.1 hS o.toNat (wld_at hW.1 ho hs) hc kf hk (hts _ hlink) (fun _ h9 => h9) hfin.1 I hfin.2 (hty kf hk) (hnf _).1 (hnf _).2 (by rw [List.length_mapIdx]; exact hlen) hd (fun H1 locs1 hP1 hD1 hS1 => ?_)
  have e : (fs.mapIdx (fun j f => fval x as M o j f)).set kf (Value.ref (adr x as r)) = (fs.set kf (some (some r))).mapIdx (fun j f => fval x as M o j f) := by
    apply List.ext_getElem?
    intro i
    by_cases hi : i = kf
    · subst hi
      rw [List.getElem?_set_self (by rw [List.length_mapIdx]; exact hlen), List.getElem?_mapIdx, List.getElem?_set_self hlen]
      rfl
    · rw [List.getElem?_set_ne (Ne.symm hi), List.getElem?_mapIdx, List.getElem?_mapIdx, List.getElem?_set_ne (Ne.symm hi)]
  rw [e] at hP1 hD1
  exact k H1 locs1 lsA (WP.setS (S' := .inl (ci, fs.set kf (some (some r)))) hW.1 ho hs hW.2.2.2 (fun kd n es q => by cases q) hP1 hD1 hset) hS1 hl
theorem s_astR (E : Cx v cc nL own d) {n : Nat} {es : List (Option Int)} {o j r : Int} {fs : List (Option (Option Int))} {sh' : List Sh} (hd : decode cc pc = .ok (.aastore, 1)) (ho : 0 ≤ o) (hs : sh[o.toNat]? = some (.inr (3, n, es))) (hes : es.length = n) (hn : n ≤ 65536) (hj : 0 ≤ j ∧ j < (n : Int)) (hr0 : 0 ≤ r) (hr : sh[r.toNat]? = some (.inl (2, fs))) (hset : sh.set o.toNat (.inr (3, n, es.set j.toNat (some r))) = sh')
    (k : Ws v as sh' mc ms (pc + 1) ls st M) : Ws v as sh mc ms pc ls (rv r :: iv j :: rv o :: st) M := by
  obtain ⟨p, l, e, R, s, m, args, below, meth, c, Q, A, D, cA, x⟩ := v
  obtain ⟨hx, hb, hml, hown, hts, hK, hA, hfr, hlo, hNs⟩ := E
  intro H locs lsA hW hS hl
  have hji : inI j := ⟨by omega, by omega⟩
  have hty := hW.2.2.2 _ _ _ (List.mem_of_getElem? hs)
  have e : (wld cA x as sh M)[o.toNat]? = some (adr x as o, .inl (cA 3, n, .inr (.inr (.inr (.inr (fun j => (es.getD j none).map (adr x as))))))) := by
    rw [wld_at hW.1 ho hs]
    rfl
  refine va_astq (D := D) (r := (RX2, TX2, 5)) hx hb (hW.tys hK hs) hW.2.1 hW.2.2.1 hS o.toNat 0 r.toNat 2 e rfl (wld_at hW.1 hr0 hr) rfl (i_in hji hj) hd (fun H1 locs1 hP1 hD1 hS1 => ?_)
  rw [i_nat hji] at hP1 hD1
  have e2 : va_up (fun j : Nat => (es.getD j none).map (adr x as)) j.toNat (some (adr x as r)) = fun i : Nat => ((es.set j.toNat (some r)).getD i none).map (adr x as) := by
    funext i
    rw [List.getD_eq_getElem?_getD]
    by_cases hi : i = j.toNat
    · subst hi
      rw [List.getElem?_set_self (by omega)]
      simp [va_up]
    · rw [List.getElem?_set_ne (Ne.symm hi)]
      simp [va_up, hi]
  rw [e2] at hP1 hD1
  exact k H1 locs1 lsA (WP.setS (S' := .inr (3, n, es.set j.toNat (some r))) hW.1 ho hs hW.2.2.2 (fun kd n es q => by cases q; exact hty) hP1 hD1 hset) hS1 hl
theorem arr2 : ("[" ++ (FieldType.array .int).toString) = "[[I" := by decide +kernel
theorem arr1 : (FieldType.array .int).toString = ("[" ++ (tyK 0).toString) := by decide +kernel
theorem s_mna {sh' : List Sh} {wz : Int} (E : Cx v cc nL own d) (G : GX v) {N K n idx : Nat} {z1 z2 r0 : Int} (hd : decode cc pc = .ok (.multianewarray idx 2, 4)) (hw : Cond.classLink own idx "[[I" ∈ BIG) (hw2 : Cond.arrayClass .int ∈ BIG) (hz1 : z1 = (N : Int)) (hz2 : z2 = (K : Int)) (hN : N ≤ 65536) (hK6 : K ≤ 65536) (hn : sh.length = n) (hcl : clo n sh = true) (hls : okLs n ls = true) (hst : okSt n st = true) (hM : ∀ i j : Int, (n : Int) < i → M i j = 0) (hr0 : r0 = (n : Int) + 1) (hRM : RMk (mc + (1 + N)) (ms + (N + N * K)) v) (hwz : wz = (n : Int)) (hsh : sh ++ (.inr (2, N, esr r0 N) :: List.replicate N (.inr (0, K, []))) = sh')
    (k : ∀ t, Ws v (as ++ t) sh' (mc + (1 + N)) (ms + (N + N * K)) (pc + 4) ls (rv wz :: st) M) : Ws v as sh mc ms pc ls (iv z2 :: iv z1 :: st) M := by
  subst hsh hwz
  subst hz1 hz2 hr0
  obtain ⟨p, l, e, R, s, m, args, below, meth, c, Q, A, D, cA, x⟩ := v
  obtain ⟨hx, hb, hml, hown, hts, hK, hA, hfr, hlo, hNs⟩ := E
  intro H locs lsA hW hS hl
  have hal : as.length = n := hW.1.trans hn
  have hcl' : clo as.length sh = true := by rw [hal]; exact hcl
  have hNi : inI (N : Int) := ⟨by omega, by omega⟩
  have hKi : inI (K : Int) := ⟨by omega, by omega⟩
  have e0 : va_pl [] (fun _ => (.inl (cA 0, (0, .inl (fun _ => 0))) : va_E)) = [] := rfl
  refine va_mna (X := wld cA x as sh M) (L := []) (f := fun _ => .inl (cA 0, (0, .inl (fun _ => 0)))) (ty := .int) (cy := cA 0) (tys := []) (N' := N) (K' := K) (z := (K, .inl (fun _ => 0))) hx hb hown (by rw [arr2]; exact hts _ hw) G.2.2 (hts _ hw2) (by rw [arr1]; exact ra_name (G.1 0 (by omega)).2) hK (by rw [e0, List.append_nil]; exact hW.2.1) (by rw [e0, List.append_nil]; exact hW.2.2.1) hS hA ?_ ?_ ?_ ?_ (by omega) (by show K * 4 ≤ _; omega) (by omega) rfl rfl hRM.1 hRM.2 ?_ hd (fun q r cA' H1 hinj hnl hK1 hP hD hS1 => ?_)
  · rw [i_lt0 hNi]
    omega
  · rw [i_lt0 hKi]
    omega
  · rw [i_nat hNi]
    rfl
  · rw [i_nat hKi]
    rfl
  · intro c1
    rw [vp_cell_i]
    exact arrV_new _ _ _
  · have hty : ArrOfT s cA' (tyK 2) ∧ va_RA s cA' (tyK 2) := hK1.2 0 (cA', .array .int) rfl
    have hcA : cA' = cA 2 := Option.some.inj ((ra_name hty.2).symm.trans (ra_name (G.1 2 (by omega)).2))
    subst hcA
    have hadr : ∀ j : Nat, j < N → adr x (as ++ q :: (List.range N).map r) ((n : Int) + 1 + (j : Int)) = r j := by
      intro j hj
      rw [adr_nat (by omega), List.getD_eq_getElem?_getD, List.getElem?_append_right (by omega), show ((n : Int) + 1 + (j : Int)).toNat - as.length = j + 1 by omega, List.getElem?_cons_succ, List.getElem?_map, List.getElem?_range hj]
      rfl
    have hwld : wld cA x (as ++ q :: (List.range N).map r) (sh ++ (.inr (2, N, esr ((n : Int) + 1) N) :: List.replicate N (.inr (0, K, [])))) M = (wld cA x as sh M ++ [(q, .inl (cA 2, N, .inr (.inr (.inr (.inr (fun i => if i < N then some (r i) else none))))))]) ++ va_pl ([] ++ (List.range N).map r) (vr_up (fun _ => .inl (cA 0, (0, .inl (fun _ => 0)))) ((List.range N).map r) (.inl (cA 0, (K, .inl (fun _ => 0))))) := by
      rw [wld_app hW.1 hcl', List.append_assoc, List.zip_cons_cons, List.mapIdx_cons]
      refine congrArg (wld cA x as sh M ++ ·) ?_
      show _ :: _ = _ :: _
      congr 1
      · show (q, _) = (q, _)
        have : (fun j : Nat => ((esr ((n : Int) + 1) N).getD j none).map (adr x (as ++ q :: (List.range N).map r))) = fun i => if i < N then some (r i) else none := by
          funext j
          unfold esr
          rw [List.getD_eq_getElem?_getD, List.getElem?_map]
          by_cases hj : j < N
          · rw [if_pos hj, List.getElem?_range hj]
            show some (adr x _ ((n : Int) + 1 + (j : Int))) = some (r j)
            rw [hadr j hj]
          · rw [if_neg hj, List.getElem?_eq_none (by rw [List.length_range]; omega)]
            rfl
        simp only [ecell]
        rw [this]
        rfl
      · apply List.ext_getElem?
        intro i
        rw [List.getElem?_mapIdx]
        show _ = (List.map _ ((List.range N).map r))[i]?
        rw [List.getElem?_map, List.getElem?_map]
        by_cases hi : i < N
        · have hz : (((List.range N).map r).zip (List.replicate N (.inr (0, K, []) : Sh)))[i]? = some (r i, .inr (0, K, [])) := by
            refine List.getElem?_zip_eq_some.mpr ⟨?_, ?_⟩
            · rw [List.getElem?_map, List.getElem?_range hi]
              rfl
            · rw [List.getElem?_replicate, if_pos hi]
          rw [hz, List.getElem?_range hi]
          show some (r i, _) = some (r i, _)
          rw [vr_up_in (List.mem_map.mpr ⟨i, List.mem_range.mpr hi, rfl⟩)]
          have : (fun j : Nat => Int32.ofInt (M (((i + 1 + as.length : Nat)) : Int) j)) = fun _ => 0 := by
            funext j
            rw [hM _ _ (by omega)]
            rfl
          show some (r i, (.inl (cA 0, K, .inl (fun j : Nat => Int32.ofInt (M (((i + 1 + as.length : Nat)) : Int) j))) : va_E)) = _
          rw [this]
        · rw [List.getElem?_eq_none (l := List.range N) (by rw [List.length_range]; omega), List.getElem?_eq_none (l := List.zip _ _) (by rw [List.length_zip, List.length_map, List.length_range]; omega)]
          rfl
    rw [← hwld] at hP hD
    have key := k (q :: (List.range N).map r) H1 locs lsA ⟨by simp [hW.1], hP, hD, fun kd n1 es h => ?_⟩ hS1 (hl.app hal hls)
    · rw [show (rv n :: st).map (enc x (as ++ q :: (List.range N).map r)) = .ref q :: st.map (enc x as) by
        rw [List.map_cons, st_app hal hst]
        show Value.ref (adr x (as ++ q :: (List.range N).map r) n) :: _ = _
        rw [adr_nat (by omega), List.getD_eq_getElem?_getD, List.getElem?_append_right (by omega), show ((n : Int)).toNat - as.length = 0 by omega]
        rfl] at key
      rw [← Nat.add_assoc mc 1 N, ← Nat.add_assoc ms N (N * K)] at key
      exact key
    · rcases List.mem_append.mp h with h | h
      · exact hW.2.2.2 kd n1 es h
      · rcases List.mem_cons.mp h with h | h
        · cases h
          exact G.1 2 (by omega)
        · have := List.eq_of_mem_replicate h
          cases this
          exact G.1 0 (by omega)
end GROW2
-- contracts of constructors
def rmg (d nc ns : Nat) : Room := { frames := d, cells := nc, slots := ns, locals := 40 * d }
def PcG (D : va_G) (cA : Nat → ClassId) (x : Nat) (as : List Nat) (sh : List Sh) (M : Mm) (sz : Nat) (U : State) : Prop := PcB D cA x as sh M sz U ∧ GXs cA U
def CtG (y : MethodName) (bytes : ByteArray) (maxL : Nat) (d nc ns : Nat) (sh0 : List Sh) (av : List Vv) (M : Mm) (sh1 : List Sh) (post : Mm → Prop) : Prop :=
  ∀ (l : Launch) (D : va_G) (cA : Nat → ClassId) (x : Nat) (as : List Nat) (sz : Nat), Met l y (wsB y bytes maxL none) (rmg d nc ns) (va_Pc (av.map (enc x as)) (PcG D cA x as sh0 M sz))
    (va_Qv (fun q : List Nat × Mm => (∃ t, as ++ t = q.1) ∧ post q.2) (fun q => QcB D cA x q.1 sh1 (va_A (wld cA x as sh0 M) sz) q.2) (va_A (wld cA x as sh0 M) sz)) nc ns (va_A (wld cA x as sh0 M) sz)
theorem PcG_blind {D : va_G} {cA : Nat → ClassId} {x : Nat} {as : List Nat} {sh : List Sh} {M : Mm} {sz : Nat} {av : List Value} : FrameBlind (va_Pc av (PcG D cA x as sh M sz)) := by
  intro a U g mk q
  obtain ⟨q0, ⟨q1, qW, qK, qN⟩, qG⟩ := q
  exact ⟨q0, ⟨q1, WP.moved (u := U) (U := U.calling g mk a) (Vm.Alike.refl U.vm) qW, va_K.moved (u := U) (U := U.calling g mk a) (Vm.Alike.refl U.vm) qK, fun o i y h w => va_Nw.same rfl (u := U) (U := U.calling g mk a) rfl (qN o i y h w)⟩, GXs.moved (u := U) (U := U.calling g mk a) (Vm.Alike.refl U.vm) qG⟩
theorem CtG.of {y : MethodName} {bytes : ByteArray} {maxL d nc ns : Nat} {sh0 sh1 : List Sh} {av : List Vv} {M : Mm} {post : Mm → Prop} (hy : plainName y.cls = true) (hyn : y.name = "<init>") (hav : av.length ≤ maxL)
    (body : ∀ (v : Ev) (as : List Nat), Cx v bytes maxL y.cls d → GX v → Ini v → RMk nc ns v → (∀ as' M', (∃ t, as ++ t = as') → post M' → ∀ pc ls, decode bytes pc = .ok (.return_, 1) → Ws v as' sh1 nc ns pc ls [] M') → Ws v as sh0 0 0 0 (av.map some ++ List.replicate (maxL - av.length) none) [] M) :
    CtG y bytes maxL d nc ns sh0 av M sh1 post := by
  intro l D cA x as sz
  refine Met.ofW (cc := bytes) (maxL := maxL) (ret := none) hy rfl ?_
  intro p e s m args below meth c s₁ B hml hv
  obtain ⟨rfl, ⟨hsz, hWP, hK, hNs⟩, hG⟩ := hv
  subst hsz
  have hts := atoms_spec (ws := wsB y bytes maxL none) B.pre
  have hown : s.vm.findClass y.cls = some m.cls := findClass_of_methodNamed B.named
  have hlocks := B.notSynchronized
  have hin : meth.name = "<init>" := (name_of_methodNamed B.named B.method).1.trans hyn
  have hW : WP D cA x as sh0 M (va_A (wld cA x as sh0 M) s.heap.size) s s.heap := hWP.self
  have key := body (p, l, e, (headSpec (wsB y bytes maxL none) (rmg d nc ns)).room, s, m, (av.map (enc x as)).toArray, below, meth, c, MQ below (va_Qv (fun q : List Nat × Mm => (∃ t, as ++ t = q.1) ∧ post q.2) (fun q => QcB D cA x q.1 sh1 (va_A (wld cA x as sh0 M) s.heap.size) q.2) (va_A (wld cA x as sh0 M) s.heap.size)) (av.map (enc x as)).toArray s nc ns (va_A (wld cA x as sh0 M) s.heap.size), va_A (wld cA x as sh0 M) s.heap.size, D, cA, x) as
    ⟨B.exec, B.bytes, hml, hown, fun w hw => hts w (List.mem_cons_of_mem _ hw), hK, fun q h => Or.inr h, Nat.le_refl _, Nat.le_refl _, hNs⟩ hG hin ⟨Nat.le_refl _, Nat.le_refl _⟩ ?_
  · rw [lg_entry_eq]
    exact key s.heap [] _ hW va_S.rf (by rw [hml]; exact hasL.entry hav _ (by omega))
  · intro as' M' ht0 hp pc ls hd H locs lsA hW' hS hl
    exact W.vret B.exec B.bytes B.returns (fun t ht hWm => ⟨⟨(as', M'), rfl, ⟨ht0, hp⟩, ⟨by rw [ht]; exact WP.moved hWm.alike hW', va_K.moved hWm.alike hK⟩⟩, hS.F ht⟩) hS.2.2 hd
def MfI (y : MethodName) (bytes : ByteArray) (maxL : Nat) : Prop := Cond.instanceMethod y ∈ BIG ∧ Cond.initialized y.cls ∈ BIG ∧ Cond.code y bytes maxL none ∈ BIG ∧ (y.cls ≠ "java/lang/invoke/MethodHandle" ∧ y.cls ≠ "java/lang/invoke/VarHandle" ∧ (parseMethodDescriptor y.desc).map (fun d => d.parameters.length) = some 0) ∧ y.name = "<init>" ∧ maxL ≤ 21
section CALLG
variable {v : Ev} {cc : ByteArray} {nL d pc : Nat} {own host : String} {as : List Nat} {sh0 sh1 : List Sh} {mc ms nc ns n : Nat} {ls : List (Option Vv)} {rest : List Vv} {M : Mm} {y : MethodName} {bytes : ByteArray} {maxL dd idx : Nat} {post : Mm → Prop}
theorem s_callG (E : Cx v cc nL own d) (G : GX v) {st : List Vv} {o : Int} (hC : CtG y bytes maxL dd nc ns sh0 [rv o] M sh1 post) (hd : decode cc pc = .ok (.invokespecial idx, 3)) (hm : MfI y bytes maxL) (hlk : Cond.methodLink own idx y ∈ BIG) (hn : sh0.length = n) (hls : okLs n ls = true) (hsr : okSt n rest = true) (hdd : dd + 1 ≤ d) (hrest : rest.length ≤ 8) (hRM : RMk (mc + nc) (ms + ns) v)
    (hst : st = rv o :: rest)
    (k : ∀ t M', post M' → Ws v (as ++ t) sh1 (mc + nc) (ms + ns) (pc + 3) ls rest M') : Ws v as sh0 mc ms pc ls st M := by
  subst hst
  obtain ⟨p, l, e, R, s, m, args, below, meth, c, Q, A, D, cA, x⟩ := v
  obtain ⟨hx, hb, hml, hown, hts, hK, hA, hfr, hlo, hNs⟩ := E
  intro H locs lsA hW hS hl
  have hal : as.length = n := hW.1.trans hn
  obtain ⟨hm1, hini, hcode, ⟨hy1, hy2, hy3⟩, hyn, hmx⟩ := hm
  have hG := good_wsB hcode
  have hroom : (rmg dd nc ns).frames + 1 ≤ R.frames ∧ 8 + (maxL + 11) + (rmg dd nc ns).locals ≤ R.locals := ⟨Nat.le_trans hdd hfr, by show 8 + (maxL + 11) + 40 * dd ≤ R.locals; omega⟩
  have hsz : lsA.size = nL := hl.1.trans hml
  have hrs : 2 * (F0 m pc lsA (List.map (enc x as) (rv o :: rest))).monitorRoom + ((rest.map (enc x as)).map fun v => v.category).sum ≤ 8 := lv_room (by rw [cat_sum]; exact hrest)
  have hWt : WP D cA x as sh0 M (fun _ => True) s H := hW.weaken (fun _ _ => trivial)
  have hr : va_Run p l e R s m args below meth c H locs mc ms nc ns (F0 m pc lsA (List.map (enc x as) (rv o :: rest))) (rest.map (enc x as)) ((va_Qv (fun q : List Nat × Mm => (∃ t, as ++ t = q.1) ∧ post q.2) (fun q => QcB D cA x q.1 sh1 (va_A (wld cA x as sh0 M) H.size) q.2) (va_A (wld cA x as sh0 M) H.size)) (Value.ref (adr x as o) :: ([] : List Value)).toArray) (va_A (wld cA x as sh0 M) H.size) := va_runI (As := []) (rest := rest.map (enc x as)) ⟨hx, hb, hml, hown, hts⟩ (hC l D cA x as H.size) (cwI 0 hts hG rfl rfl rfl (hts _ hini) (hts _ hlk) (hts _ hm1) hyn ⟨hy1, hy2, hy3⟩ hroom) ⟨PcG_blind, fun U hU hWm => ⟨rfl, ⟨by rw [hU], WP.moved hWm.alike (by rw [hU]; exact hWt), va_K.moved hWm.alike hK, NsOK.warm hWm hNs⟩, GXs.moved hWm.alike G⟩⟩ rfl rfl hsz rfl hrs hd hRM
  refine va_callv hr hS (fun q _ h => hW.free hS hA q h) (hW.free hS hA) (fun u t H1 locs1 ht hvm hp hB hsz1 hk1 hS1 => ?_)
  subst ht
  obtain ⟨as', M'⟩ := u
  obtain ⟨⟨t1, rfl⟩, hp⟩ := hp
  have key := k t1 M' hp t.heap locs1 lsA (WP.moved hvm.symm (hB.1.weaken (hW.free hS hA))) hS1 (hl.app hal hls)
  rw [st_app hal hsr] at key
  exact key
theorem s_callGN (E : Cx v cc nL own d) (G : GX v) {st : List Vv} {o : Int} (hC : CtG y bytes maxL dd nc ns sh0 [rv o] M sh1 post) (hd : decode cc pc = .ok (.invokespecial idx, 3)) (hm : MfI y bytes maxL) (hlk : Cond.methodLinkNest own idx y host ∈ lw_tbl) (hn : sh0.length = n) (hls : okLs n ls = true) (hsr : okSt n rest = true) (hdd : dd + 1 ≤ d) (hrest : rest.length ≤ 8) (hRM : RMk (mc + nc) (ms + ns) v)
    (hst : st = rv o :: rest)
    (k : ∀ t M', post M' → Ws v (as ++ t) sh1 (mc + nc) (ms + ns) (pc + 3) ls rest M') : Ws v as sh0 mc ms pc ls st M := by
  subst hst
  obtain ⟨p, l, e, R, s, m, args, below, meth, c, Q, A, D, cA, x⟩ := v
  obtain ⟨hx, hb, hml, hown, hts, hK, hA, hfr, hlo, hNs⟩ := E
  intro H locs lsA hW hS hl
  have hal : as.length = n := hW.1.trans hn
  obtain ⟨hm1, hini, hcode, ⟨hy1, hy2, hy3⟩, hyn, hmx⟩ := hm
  have hG := good_wsB hcode
  have hroom : (rmg dd nc ns).frames + 1 ≤ R.frames ∧ 8 + (maxL + 11) + (rmg dd nc ns).locals ≤ R.locals := ⟨Nat.le_trans hdd hfr, by show 8 + (maxL + 11) + 40 * dd ≤ R.locals; omega⟩
  have hsz : lsA.size = nL := hl.1.trans hml
  have hrs : 2 * (F0 m pc lsA (List.map (enc x as) (rv o :: rest))).monitorRoom + ((rest.map (enc x as)).map fun v => v.category).sum ≤ 8 := lv_room (by rw [cat_sum]; exact hrest)
  have hWt : WP D cA x as sh0 M (fun _ => True) s H := hW.weaken (fun _ _ => trivial)
  have hr : va_Run p l e R s m args below meth c H locs mc ms nc ns (F0 m pc lsA (List.map (enc x as) (rv o :: rest))) (rest.map (enc x as)) ((va_Qv (fun q : List Nat × Mm => (∃ t, as ++ t = q.1) ∧ post q.2) (fun q => QcB D cA x q.1 sh1 (va_A (wld cA x as sh0 M) H.size) q.2) (va_A (wld cA x as sh0 M) H.size)) (Value.ref (adr x as o) :: ([] : List Value)).toArray) (va_A (wld cA x as sh0 M) H.size) := va_runIN (As := []) (rest := rest.map (enc x as)) ⟨hx, hb, hml, hown, hts⟩ (hC l D cA x as H.size) ⟨va_cnB 0 hts hG rfl rfl rfl (hNs _ _ _ _ hlk) (hts _ hini) ⟨hy1, hy2, hy3⟩ hroom, hyn, hts _ hm1⟩ ⟨PcG_blind, fun U hU hWm => ⟨rfl, ⟨by rw [hU], WP.moved hWm.alike (by rw [hU]; exact hWt), va_K.moved hWm.alike hK, NsOK.warm hWm hNs⟩, GXs.moved hWm.alike G⟩⟩ rfl rfl hsz rfl hrs hd hRM
  refine va_callv hr hS (fun q _ h => hW.free hS hA q h) (hW.free hS hA) (fun u t H1 locs1 ht hvm hp hB hsz1 hk1 hS1 => ?_)
  subst ht
  obtain ⟨as', M'⟩ := u
  obtain ⟨⟨t1, rfl⟩, hp⟩ := hp
  have key := k t1 M' hp t.heap locs1 lsA (WP.moved hvm.symm (hB.1.weaken (hW.free hS hA))) hS1 (hl.app hal hls)
  rw [st_app hal hsr] at key
  exact key

end CALLG
