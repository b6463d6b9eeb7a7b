-- ===== PART A: goes FIRST, ahead of the names: the tables' words, and 'selects' of the private methods out of them =====
/-- a private method of a class that the tables say can be made, by its rows of tables_1 -/
def lw_okq (q : MethodName × Nat) : Prop := (q.1.cls ≠ "java/lang/invoke/MethodHandle" ∧ q.1.cls ≠ "java/lang/invoke/VarHandle") ∧ Cond.instantiable q.1.cls q.2 ∈ tables_1 ∧ Cond.privateMethod q.1 ∈ tables_1 ∧ Cond.instanceMethod q.1 ∈ tables_1
theorem lw_p0 : lw_okq (⟨"SilentCouncil$Sitting", "begin", "(LSilentCouncil$Kept;)V"⟩, 5) := ⟨⟨by decide +kernel, by decide +kernel⟩, List.mem_of_getElem? (i := 99) (by decide +kernel), List.mem_of_getElem? (i := 286) (by decide +kernel), List.mem_of_getElem? (i := 287) (by decide +kernel)⟩
theorem lw_p1 : lw_okq (⟨"SilentCouncil$Sitting", "last", "(II)V"⟩, 5) := ⟨⟨by decide +kernel, by decide +kernel⟩, List.mem_of_getElem? (i := 99) (by decide +kernel), List.mem_of_getElem? (i := 297) (by decide +kernel), List.mem_of_getElem? (i := 298) (by decide +kernel)⟩
theorem lw_p2 : lw_okq (⟨"SilentCouncil$Sitting", "speak", "(I)V"⟩, 5) := ⟨⟨by decide +kernel, by decide +kernel⟩, List.mem_of_getElem? (i := 99) (by decide +kernel), List.mem_of_getElem? (i := 301) (by decide +kernel), List.mem_of_getElem? (i := 302) (by decide +kernel)⟩
theorem lw_p3 : lw_okq (⟨"SilentCouncil$Sitting", "pay", "(I)Z"⟩, 5) := ⟨⟨by decide +kernel, by decide +kernel⟩, List.mem_of_getElem? (i := 99) (by decide +kernel), List.mem_of_getElem? (i := 306) (by decide +kernel), List.mem_of_getElem? (i := 307) (by decide +kernel)⟩
theorem lw_p4 : lw_okq (⟨"SilentCouncil$Sitting", "listens", "(I)Z"⟩, 5) := ⟨⟨by decide +kernel, by decide +kernel⟩, List.mem_of_getElem? (i := 99) (by decide +kernel), List.mem_of_getElem? (i := 310) (by decide +kernel), List.mem_of_getElem? (i := 311) (by decide +kernel)⟩
theorem lw_p5 : lw_okq (⟨"SilentCouncil$Sitting", "ask", "(III)V"⟩, 5) := ⟨⟨by decide +kernel, by decide +kernel⟩, List.mem_of_getElem? (i := 99) (by decide +kernel), List.mem_of_getElem? (i := 321) (by decide +kernel), List.mem_of_getElem? (i := 322) (by decide +kernel)⟩
theorem lw_p6 : lw_okq (⟨"SilentCouncil$Sitting", "stir", "(III)V"⟩, 5) := ⟨⟨by decide +kernel, by decide +kernel⟩, List.mem_of_getElem? (i := 99) (by decide +kernel), List.mem_of_getElem? (i := 325) (by decide +kernel), List.mem_of_getElem? (i := 326) (by decide +kernel)⟩
theorem lw_p7 : lw_okq (⟨"SilentCouncil$Agenda", "needBehind", "(LSilentCouncil$Matters;II)V"⟩, 10) := ⟨⟨by decide +kernel, by decide +kernel⟩, List.mem_of_getElem? (i := 125) (by decide +kernel), List.mem_of_getElem? (i := 367) (by decide +kernel), List.mem_of_getElem? (i := 368) (by decide +kernel)⟩
theorem lw_p8 : lw_okq (⟨"SilentCouncil$Agenda", "lengthen", "(LSilentCouncil$Matters;I)V"⟩, 10) := ⟨⟨by decide +kernel, by decide +kernel⟩, List.mem_of_getElem? (i := 125) (by decide +kernel), List.mem_of_getElem? (i := 380) (by decide +kernel), List.mem_of_getElem? (i := 381) (by decide +kernel)⟩
theorem lw_p9 : lw_okq (⟨"SilentCouncil$Agenda", "lack", "(LSilentCouncil$Matters;II)I"⟩, 10) := ⟨⟨by decide +kernel, by decide +kernel⟩, List.mem_of_getElem? (i := 125) (by decide +kernel), List.mem_of_getElem? (i := 391) (by decide +kernel), List.mem_of_getElem? (i := 392) (by decide +kernel)⟩
theorem lw_p10 : lw_okq (⟨"SilentCouncil$Agenda", "findNext", "(LSilentCouncil$Matters;II)I"⟩, 10) := ⟨⟨by decide +kernel, by decide +kernel⟩, List.mem_of_getElem? (i := 125) (by decide +kernel), List.mem_of_getElem? (i := 405) (by decide +kernel), List.mem_of_getElem? (i := 406) (by decide +kernel)⟩
theorem lw_p11 : lw_okq (⟨"SilentCouncil$Ledger", "mostGroups", "(I)I"⟩, 2) := ⟨⟨by decide +kernel, by decide +kernel⟩, List.mem_of_getElem? (i := 167) (by decide +kernel), List.mem_of_getElem? (i := 450) (by decide +kernel), List.mem_of_getElem? (i := 451) (by decide +kernel)⟩
theorem lw_p12 : lw_okq (⟨"SilentCouncil$Book", "canSpeak", "(II)Z"⟩, 5) := ⟨⟨by decide +kernel, by decide +kernel⟩, List.mem_of_getElem? (i := 180) (by decide +kernel), List.mem_of_getElem? (i := 474) (by decide +kernel), List.mem_of_getElem? (i := 475) (by decide +kernel)⟩
theorem lw_p13 : lw_okq (⟨"SilentCouncil$Book", "count", "(II)V"⟩, 5) := ⟨⟨by decide +kernel, by decide +kernel⟩, List.mem_of_getElem? (i := 180) (by decide +kernel), List.mem_of_getElem? (i := 479) (by decide +kernel), List.mem_of_getElem? (i := 480) (by decide +kernel)⟩
theorem lw_p14 : lw_okq (⟨"SilentCouncil", "floorOf", "(I)I"⟩, 8) := ⟨⟨by decide +kernel, by decide +kernel⟩, List.mem_of_getElem? (i := 14) (by decide +kernel), List.mem_of_getElem? (i := 500) (by decide +kernel), List.mem_of_getElem? (i := 501) (by decide +kernel)⟩
theorem lw_p15 : lw_okq (⟨"SilentCouncilModel", "sittingFault", "()I"⟩, 22) := ⟨⟨by decide +kernel, by decide +kernel⟩, List.mem_of_getElem? (i := 537) (by decide +kernel), List.mem_of_getElem? (i := 639) (by decide +kernel), List.mem_of_getElem? (i := 640) (by decide +kernel)⟩
def lw_privs_1 : List (MethodName × Nat) := [(⟨"SilentCouncil$Sitting", "begin", "(LSilentCouncil$Kept;)V"⟩, 5), (⟨"SilentCouncil$Sitting", "last", "(II)V"⟩, 5), (⟨"SilentCouncil$Sitting", "speak", "(I)V"⟩, 5), (⟨"SilentCouncil$Sitting", "pay", "(I)Z"⟩, 5), (⟨"SilentCouncil$Sitting", "listens", "(I)Z"⟩, 5), (⟨"SilentCouncil$Sitting", "ask", "(III)V"⟩, 5), (⟨"SilentCouncil$Sitting", "stir", "(III)V"⟩, 5), (⟨"SilentCouncil$Agenda", "needBehind", "(LSilentCouncil$Matters;II)V"⟩, 10), (⟨"SilentCouncil$Agenda", "lengthen", "(LSilentCouncil$Matters;I)V"⟩, 10), (⟨"SilentCouncil$Agenda", "lack", "(LSilentCouncil$Matters;II)I"⟩, 10), (⟨"SilentCouncil$Agenda", "findNext", "(LSilentCouncil$Matters;II)I"⟩, 10), (⟨"SilentCouncil$Ledger", "mostGroups", "(I)I"⟩, 2), (⟨"SilentCouncil$Book", "canSpeak", "(II)Z"⟩, 5), (⟨"SilentCouncil$Book", "count", "(II)V"⟩, 5), (⟨"SilentCouncil", "floorOf", "(I)I"⟩, 8), (⟨"SilentCouncilModel", "sittingFault", "()I"⟩, 22)]
theorem lw_r1 : ∀ q ∈ lw_privs_1, lw_okq q := List.forall_mem_cons.mpr ⟨lw_p0, List.forall_mem_cons.mpr ⟨lw_p1, List.forall_mem_cons.mpr ⟨lw_p2, List.forall_mem_cons.mpr ⟨lw_p3, List.forall_mem_cons.mpr ⟨lw_p4, List.forall_mem_cons.mpr ⟨lw_p5, List.forall_mem_cons.mpr ⟨lw_p6, List.forall_mem_cons.mpr ⟨lw_p7, List.forall_mem_cons.mpr ⟨lw_p8, List.forall_mem_cons.mpr ⟨lw_p9, List.forall_mem_cons.mpr ⟨lw_p10, List.forall_mem_cons.mpr ⟨lw_p11, List.forall_mem_cons.mpr ⟨lw_p12, List.forall_mem_cons.mpr ⟨lw_p13, List.forall_mem_cons.mpr ⟨lw_p14, List.forall_mem_cons.mpr ⟨lw_p15, fun _ h => absurd h List.not_mem_nil⟩⟩⟩⟩⟩⟩⟩⟩⟩⟩⟩⟩⟩⟩⟩⟩
theorem lw_p16 : lw_okq (⟨"SilentCouncilModel", "bookFault", "()I"⟩, 22) := ⟨⟨by decide +kernel, by decide +kernel⟩, List.mem_of_getElem? (i := 537) (by decide +kernel), List.mem_of_getElem? (i := 649) (by decide +kernel), List.mem_of_getElem? (i := 650) (by decide +kernel)⟩
theorem lw_p17 : lw_okq (⟨"SilentCouncilModel", "sitThrough", "()V"⟩, 22) := ⟨⟨by decide +kernel, by decide +kernel⟩, List.mem_of_getElem? (i := 537) (by decide +kernel), List.mem_of_getElem? (i := 657) (by decide +kernel), List.mem_of_getElem? (i := 658) (by decide +kernel)⟩
theorem lw_p18 : lw_okq (⟨"SilentCouncilModel", "listens", "(I)Z"⟩, 22) := ⟨⟨by decide +kernel, by decide +kernel⟩, List.mem_of_getElem? (i := 537) (by decide +kernel), List.mem_of_getElem? (i := 661) (by decide +kernel), List.mem_of_getElem? (i := 662) (by decide +kernel)⟩
theorem lw_p19 : lw_okq (⟨"SilentCouncilModel", "act", "(II)V"⟩, 22) := ⟨⟨by decide +kernel, by decide +kernel⟩, List.mem_of_getElem? (i := 537) (by decide +kernel), List.mem_of_getElem? (i := 665) (by decide +kernel), List.mem_of_getElem? (i := 666) (by decide +kernel)⟩
theorem lw_p20 : lw_okq (⟨"SilentCouncilModel", "save", "(I)V"⟩, 22) := ⟨⟨by decide +kernel, by decide +kernel⟩, List.mem_of_getElem? (i := 537) (by decide +kernel), List.mem_of_getElem? (i := 669) (by decide +kernel), List.mem_of_getElem? (i := 670) (by decide +kernel)⟩
theorem lw_p21 : lw_okq (⟨"SilentCouncilModel", "speak", "(I)V"⟩, 22) := ⟨⟨by decide +kernel, by decide +kernel⟩, List.mem_of_getElem? (i := 537) (by decide +kernel), List.mem_of_getElem? (i := 673) (by decide +kernel), List.mem_of_getElem? (i := 674) (by decide +kernel)⟩
theorem lw_p22 : lw_okq (⟨"SilentCouncilModel", "asSaved", "()V"⟩, 22) := ⟨⟨by decide +kernel, by decide +kernel⟩, List.mem_of_getElem? (i := 537) (by decide +kernel), List.mem_of_getElem? (i := 697) (by decide +kernel), List.mem_of_getElem? (i := 698) (by decide +kernel)⟩
theorem lw_p23 : lw_okq (⟨"SilentCouncilModel", "leastFrom", "(II)I"⟩, 22) := ⟨⟨by decide +kernel, by decide +kernel⟩, List.mem_of_getElem? (i := 537) (by decide +kernel), List.mem_of_getElem? (i := 701) (by decide +kernel), List.mem_of_getElem? (i := 702) (by decide +kernel)⟩
theorem lw_p24 : lw_okq (⟨"SilentCouncilModel", "mayBegin", "(II)Z"⟩, 22) := ⟨⟨by decide +kernel, by decide +kernel⟩, List.mem_of_getElem? (i := 537) (by decide +kernel), List.mem_of_getElem? (i := 706) (by decide +kernel), List.mem_of_getElem? (i := 707) (by decide +kernel)⟩
theorem lw_p25 : lw_okq (⟨"SilentCouncilModel", "endOf", "(III)I"⟩, 22) := ⟨⟨by decide +kernel, by decide +kernel⟩, List.mem_of_getElem? (i := 537) (by decide +kernel), List.mem_of_getElem? (i := 710) (by decide +kernel), List.mem_of_getElem? (i := 711) (by decide +kernel)⟩
theorem lw_p26 : lw_okq (⟨"SilentCouncilModel", "spokenBy", "(II)I"⟩, 22) := ⟨⟨by decide +kernel, by decide +kernel⟩, List.mem_of_getElem? (i := 537) (by decide +kernel), List.mem_of_getElem? (i := 714) (by decide +kernel), List.mem_of_getElem? (i := 715) (by decide +kernel)⟩
theorem lw_p27 : lw_okq (⟨"SilentCouncilModel", "netOf", "(I)I"⟩, 22) := ⟨⟨by decide +kernel, by decide +kernel⟩, List.mem_of_getElem? (i := 537) (by decide +kernel), List.mem_of_getElem? (i := 730) (by decide +kernel), List.mem_of_getElem? (i := 731) (by decide +kernel)⟩
theorem lw_p28 : lw_okq (⟨"SilentCouncilModel", "layLine", "(I)I"⟩, 22) := ⟨⟨by decide +kernel, by decide +kernel⟩, List.mem_of_getElem? (i := 537) (by decide +kernel), List.mem_of_getElem? (i := 742) (by decide +kernel), List.mem_of_getElem? (i := 743) (by decide +kernel)⟩
theorem lw_p29 : lw_okq (⟨"SilentCouncilModel", "holds", "()I"⟩, 22) := ⟨⟨by decide +kernel, by decide +kernel⟩, List.mem_of_getElem? (i := 537) (by decide +kernel), List.mem_of_getElem? (i := 746) (by decide +kernel), List.mem_of_getElem? (i := 747) (by decide +kernel)⟩
theorem lw_p30 : lw_okq (⟨"SilentCouncilModel", "floorOf", "(I)I"⟩, 22) := ⟨⟨by decide +kernel, by decide +kernel⟩, List.mem_of_getElem? (i := 537) (by decide +kernel), List.mem_of_getElem? (i := 758) (by decide +kernel), List.mem_of_getElem? (i := 759) (by decide +kernel)⟩
def lw_privs_2 : List (MethodName × Nat) := [(⟨"SilentCouncilModel", "bookFault", "()I"⟩, 22), (⟨"SilentCouncilModel", "sitThrough", "()V"⟩, 22), (⟨"SilentCouncilModel", "listens", "(I)Z"⟩, 22), (⟨"SilentCouncilModel", "act", "(II)V"⟩, 22), (⟨"SilentCouncilModel", "save", "(I)V"⟩, 22), (⟨"SilentCouncilModel", "speak", "(I)V"⟩, 22), (⟨"SilentCouncilModel", "asSaved", "()V"⟩, 22), (⟨"SilentCouncilModel", "leastFrom", "(II)I"⟩, 22), (⟨"SilentCouncilModel", "mayBegin", "(II)Z"⟩, 22), (⟨"SilentCouncilModel", "endOf", "(III)I"⟩, 22), (⟨"SilentCouncilModel", "spokenBy", "(II)I"⟩, 22), (⟨"SilentCouncilModel", "netOf", "(I)I"⟩, 22), (⟨"SilentCouncilModel", "layLine", "(I)I"⟩, 22), (⟨"SilentCouncilModel", "holds", "()I"⟩, 22), (⟨"SilentCouncilModel", "floorOf", "(I)I"⟩, 22)]
theorem lw_r2 : ∀ q ∈ lw_privs_2, lw_okq q := List.forall_mem_cons.mpr ⟨lw_p16, List.forall_mem_cons.mpr ⟨lw_p17, List.forall_mem_cons.mpr ⟨lw_p18, List.forall_mem_cons.mpr ⟨lw_p19, List.forall_mem_cons.mpr ⟨lw_p20, List.forall_mem_cons.mpr ⟨lw_p21, List.forall_mem_cons.mpr ⟨lw_p22, List.forall_mem_cons.mpr ⟨lw_p23, List.forall_mem_cons.mpr ⟨lw_p24, List.forall_mem_cons.mpr ⟨lw_p25, List.forall_mem_cons.mpr ⟨lw_p26, List.forall_mem_cons.mpr ⟨lw_p27, List.forall_mem_cons.mpr ⟨lw_p28, List.forall_mem_cons.mpr ⟨lw_p29, List.forall_mem_cons.mpr ⟨lw_p30, fun _ h => absurd h List.not_mem_nil⟩⟩⟩⟩⟩⟩⟩⟩⟩⟩⟩⟩⟩⟩⟩
def lw_privs : List (MethodName × Nat) := lw_privs_1 ++ (lw_privs_2)
def lw_tbl : List Cond := k2_sels lw_privs ++ tables_1
theorem lw_privs_ok : ∀ q ∈ lw_privs, lw_okq q := by
  show ∀ q ∈ lw_privs_1 ++ (lw_privs_2), lw_okq q
  exact List.forall_mem_append.mpr ⟨lw_r1, lw_r2⟩
def va_AOA (t : FieldType) (U : State) : Prop := (Cond.arrayOver (.array t)).before #[] U = true
theorem va_AOA.use {t : FieldType} {A : Array Value} {U : State} (h : va_AOA t U) : (Cond.arrayOver (.array t)).before A U = true := h
/-! ===== BEGIN words of one list among another's, by their places ===== -/
theorem goodIn_r {big : List Cond} (ws : List Cond) (ps : List Nat) (hp : ws = ps.filterMap (fun i => big[i]?)) (h : ws.all goodWord = true) : GoodIn big ws := by
  intro w hw
  have h1 := List.all_eq_true.mp h w hw
  rw [hp] at hw
  obtain ⟨i, -, hi⟩ := List.mem_filterMap.mp hw
  have hm : w ∈ big := by first | exact List.mem_of_getElem? hi | exact List.getElem?_mem hi
  exact ⟨hm, good_of_word h1⟩
theorem goodIn_app {big a b : List Cond} (ha : GoodIn big a) (hb : GoodIn big b) : GoodIn big (a ++ b) := fun w h => (List.mem_append.mp h).elim (ha w) (hb w)
theorem goodIn_ca {big a b : List Cond} {c : Cond} (ha : GoodIn big (c :: a)) (hb : GoodIn big b) : GoodIn big (c :: (a ++ b)) := fun w h => (List.mem_cons.mp h).elim (fun e => ha w (List.mem_cons.mpr (Or.inl e))) (fun h => (List.mem_append.mp h).elim (fun h => ha w (List.mem_cons.mpr (Or.inr h))) (hb w))
theorem goodIn_sub {big ws : List Cond} (hm : ∀ w ∈ ws, w ∈ big) (h : ws.all goodWord = true) : GoodIn big ws := fun w hw => ⟨hm w hw, good_of_word (List.all_eq_true.mp h w hw)⟩
/-! ===== END ===== -/

/-! ===== BEGIN new T[n][m]: the outer array a place, the inner ones among the pooled ===== -/
/-- f, but v at every address of l -/
def vr_up {α : Type} (f : Nat → α) (l : List Nat) (v : α) : Nat → α := fun a => if a ∈ l then v else f a
theorem vr_up_in {α : Type} {f : Nat → α} {l : List Nat} {v : α} {a : Nat} (h : a ∈ l) : vr_up f l v a = v := if_pos h
theorem vr_up_ne {α : Type} {f : Nat → α} {l : List Nat} {v : α} {a : Nat} (h : a ∉ l) : vr_up f l v a = f a := if_neg h
theorem vr_rows {L l : List Nat} {f : Nat → va_E} {e : va_E} (h : ∀ a, a ∈ l → a ∉ L) : va_pl L f ++ l.map (fun a => (a, e)) = va_pl (L ++ l) (vr_up f l e) := by
  unfold va_pl
  rw [List.map_append]
  congr 1
  · apply List.map_congr_left
    intro a ha
    rw [vr_up_ne (fun q => h a q ha)]
  · apply List.map_congr_left
    intro a ha
    rw [vr_up_in ha]
theorem vr_lay {X rows : va_W} {x : Nat × va_E} {pl : va_W} {D : va_G} {cl : List vw_C} {H : Heap} (hP : va_P D cl (((X ++ pl) ++ [x]) ++ rows) H) : va_P D cl ((X ++ [x]) ++ (pl ++ rows)) H := by
  rw [List.append_assoc (X ++ pl)] at hP
  have h := va_P.swap hP
  rw [← List.append_assoc X] at h
  have h2 := va_P.swap h
  rw [List.append_assoc (X ++ [x])] at h2
  exact h2
theorem vr_layD {X rows : va_W} {x : Nat × va_E} {pl : va_W} {A : Nat → Prop} (hD : va_D A (((X ++ pl) ++ [x]) ++ rows)) : va_D A ((X ++ [x]) ++ (pl ++ rows)) := by
  rw [List.append_assoc (X ++ pl)] at hD
  have h := va_D.swap hD
  rw [← List.append_assoc X] at h
  have h2 := va_D.swap h
  rw [List.append_assoc (X ++ [x])] at h2
  exact h2
theorem vr_outer (c : ClassId) (N h0 : Nat) : ∀ i : Nat, Jvm.Free.Multi.outerC c N h0 i = arrV c N (fun j => va_rf (if j < i then some (h0 + 1 + j) else none))
  | 0 => by
    show ({ cls := c, slots := Array.replicate N .null, vm := .none } : Cell) = _
    rw [arrV_new]
    refine congrArg (arrV c N) (funext fun j => ?_)
    simp [va_rf]
  | i + 1 => by
    show (Jvm.Free.Multi.outerC c N h0 i).setSlot i (.ref (h0 + 1 + i)) = _
    rw [vr_outer c N h0 i, arrV_store]
    refine congrArg (arrV c N) (funext fun j => ?_)
    by_cases e : j = i
    · subst e
      simp [updV, va_rf]
    · by_cases h : j < i
      · simp [updV, e, h, Nat.lt_succ_of_lt h]
      · simp [updV, e, h, show ¬ j < i + 1 by omega]
section VGM
variable {p : Program} {l : Launch} {e : Env} {R : Room} {s : State} {m : MethodId} {args : Array Value} {below : List Frame} {meth : Method} {c : Code} {H : Heap} {locs : List Loc} {cells slots : Nat} {Q : State → Prop}
variable {cc : ByteArray} {pc : Nat} {ls : Array Slot} {rest : List Value} {D : va_G} {cl : List vw_C} {A : Nat → Prop} {a : Nat} {tys : List (ClassId × FieldType)} {ws : va_W} {H0 : Heap}
theorem va_mna {X : va_W} {L : List Nat} {f : Nat → va_E} {cc : ByteArray} (hexec : p.tables.exec = Jvm.exec) (hb : c.code = cc) {own : String} {index : Nat} {ty : FieldType} {cy : ClassId} (hown : s.vm.findClass own = some m.cls) (hclink : (Cond.classLink own index ("[" ++ (FieldType.array ty).toString)).before args s = true) (hover : va_AOA ty s) (harr : (Cond.arrayClass ty).before args s = true) (hcy : s.vm.findClass (FieldType.array ty).toString = some cy)
    (hK : va_K D cl tys s) (hP : va_P D cl (X ++ va_pl L f) H) (hD : va_D A (X ++ va_pl L f)) (hS : va_S A H0 H locs) (hA : ∀ q, H0.size ≤ q → A q) {n k : Int32} {N' K' : Nat} {z : vp_A} (hn : ¬ n < 0) (hk : ¬ k < 0) (hN : n.toNatClampNeg = N') (hM : k.toNatClampNeg = K')
    (hb1 : N' * 4 ≤ 536870912) (hb2 : K' * componentBytes ty ≤ 536870912) (hb3 : K' ≤ 536870912) (hdf : fits ty (defaultValue ty) = true) (hdd : (defaultValue ty).isDefault = true) (hcells : cells + (1 + N') ≤ R.cells) (hslots : slots + (N' + N' * K') ≤ R.slots) (hz : ∀ c : ClassId, Jvm.Free.Multi.innerC c K' (defaultValue ty) = vp_cell c z) (hdg : decode cc pc = .ok (.multianewarray index 2, 4))
    (kk : ∀ (q : Nat) (r : Nat → Nat) (cA : ClassId) (H1 : Heap), (∀ i j : Nat, i < N' → j < N' → r i = r j → i = j) → (∀ i : Nat, i < N' → r i ∉ L) → va_K D cl (tys ++ [(cA, .array ty)]) s →
      va_P D cl ((X ++ [(q, .inl (cA, N', .inr (.inr (.inr (.inr (fun i => if i < N' then some (r i) else none))))))]) ++ va_pl (L ++ (List.range N').map r) (vr_up f ((List.range N').map r) (.inl (cy, z)))) H1 → va_D A ((X ++ [(q, .inl (cA, N', .inr (.inr (.inr (.inr (fun i => if i < N' then some (r i) else none))))))]) ++ va_pl (L ++ (List.range N').map r) (vr_up f ((List.range N').map r) (.inl (cy, z)))) → va_S A H0 H1 locs →
      W p l e R s m args below meth c H1 locs (cells + 1 + N') (slots + N' + N' * K') Q (F0 m (pc + 4) ls (.ref q :: rest))) : W p l e R s m args below meth c H locs cells slots Q (F0 m pc ls (.int k :: .int n :: rest)) := by
  subst hN
  subst hM
  intro T hT Xs
  obtain ⟨vm₁, cA, comp, -, fA, fC, hO, -, X', step⟩ := Xs.multianewarray2F hexec hown hclink (va_AOA.use hover) harr (g := F0 m pc ls (.int k :: .int n :: rest)) rfl (by rw [hb]; exact hdg) rfl hn hk hb1 hb2 hb3 hdf hdd hcells hslots
  have ec : some cy = some comp := hcy.symm.trans fC
  cases ec
  generalize hF : Jvm.Free.Multi.fill (T.setVm vm₁) cA cy n.toNatClampNeg k.toNatClampNeg (defaultValue ty) n.toNatClampNeg = F at X' step
  have hTh : (T.setVm vm₁).heap = H := hT
  obtain ⟨f1, f2, -, -⟩ := Jvm.Free.Multi.fill_facts (T.setVm vm₁) cA cy n.toNatClampNeg k.toNatClampNeg (defaultValue ty) n.toNatClampNeg
  rw [hF, hTh] at f1 f2
  have hold : ∀ x : Nat, x < H.size → F.heap[x]? = H[x]? := fun x hx => by
    have := Jvm.Free.Multi.fill_old (T.setVm vm₁) cA cy n.toNatClampNeg k.toNatClampNeg (defaultValue ty) (a := x) (by rw [hTh]; exact hx) n.toNatClampNeg
    rw [hF, hTh] at this
    exact this
  have hrow : ∀ j : Nat, j < n.toNatClampNeg → F.heap[H.size + 1 + j]? = some (vp_cell cy z) := fun j hj => by
    have := Jvm.Free.Multi.fill_inner (T.setVm vm₁) cA cy n.toNatClampNeg k.toNatClampNeg (defaultValue ty) n.toNatClampNeg j hj
    rw [hF, hTh, hz] at this
    exact this
  have hout : Jvm.Free.Multi.outerC cA n.toNatClampNeg H.size n.toNatClampNeg = vp_cell cA (n.toNatClampNeg, .inr (.inr (.inr (.inr (fun i => if i < n.toNatClampNeg then some (H.size + 1 + i) else none))))) := by
    rw [vp_cell_q]
    exact vr_outer cA n.toNatClampNeg H.size n.toNatClampNeg
  rw [hout] at f2
  have hlt : ∀ a, a ∈ L → a < H.size := fun a ha => by
    obtain ⟨k9, hk9⟩ := va_pl_get (X := X) (f := f) ha
    exact (hP k9 _ hk9).lt
  have hnl : ∀ i : Nat, i < n.toNatClampNeg → H.size + 1 + i ∉ L := fun i _ h => by
    have := hlt _ h
    omega
  have hnm : ∀ a, a ∈ (List.range n.toNatClampNeg).map (fun i => H.size + 1 + i) → a ∉ L := fun a ha h => by
    obtain ⟨i, -, rfl⟩ := List.mem_map.mp ha
    have := hlt _ h
    omega
  have hP0 : va_P D cl (X ++ va_pl L f) F.heap := hP.kept (fun k9 x hx => hold x.1 ((hP k9 x hx).lt))
  have hP1 : va_P D cl ((X ++ va_pl L f) ++ [(H.size, .inl (cA, n.toNatClampNeg, .inr (.inr (.inr (.inr (fun i => if i < n.toNatClampNeg then some (H.size + 1 + i) else none))))))]) F.heap := hP0.app (fun k9 x hx => by
    have h0 : k9 < 1 := (List.getElem?_eq_some_iff.mp hx).1
    rw [show k9 = 0 by omega] at hx
    cases hx
    exact f2)
  have hP2 : va_P D cl (((X ++ va_pl L f) ++ [(H.size, .inl (cA, n.toNatClampNeg, .inr (.inr (.inr (.inr (fun i => if i < n.toNatClampNeg then some (H.size + 1 + i) else none))))))]) ++ ((List.range n.toNatClampNeg).map (fun i => H.size + 1 + i)).map (fun a => (a, .inl (cy, z)))) F.heap := hP1.app (fun k9 x hx => by
    obtain ⟨a, ha, rfl⟩ := List.mem_map.mp (List.mem_of_getElem? hx)
    obtain ⟨i, hi, rfl⟩ := List.mem_map.mp ha
    exact hrow i (List.mem_range.mp hi))
  have hD2 : va_D A (((X ++ va_pl L f) ++ [(H.size, .inl (cA, n.toNatClampNeg, .inr (.inr (.inr (.inr (fun i => if i < n.toNatClampNeg then some (H.size + 1 + i) else none))))))]) ++ ((List.range n.toNatClampNeg).map (fun i => H.size + 1 + i)).map (fun a => (a, .inl (cy, z)))) := by
    have hD1 := hD.push (e := .inl (cA, n.toNatClampNeg, .inr (.inr (.inr (.inr (fun i => if i < n.toNatClampNeg then some (H.size + 1 + i) else none)))))) hP rfl (hA _ hS.1)
    generalize hW1 : (X ++ va_pl L f) ++ [(H.size, .inl (cA, n.toNatClampNeg, .inr (.inr (.inr (.inr (fun i => if i < n.toNatClampNeg then some (H.size + 1 + i) else none))))))] = W1 at hD1 hP1 ⊢
    have hle : ∀ (k9 : Nat) (x : Nat × va_E), W1[k9]? = some x → x.1 ≤ H.size := fun k9 x hx => by
      rw [← hW1] at hx
      by_cases hl : k9 < (X ++ va_pl L f).length
      · rw [List.getElem?_append_left hl] at hx
        exact Nat.le_of_lt ((hP k9 x hx).lt)
      · rw [List.getElem?_append_right (by omega)] at hx
        have h0 : k9 - (X ++ va_pl L f).length < 1 := (List.getElem?_eq_some_iff.mp hx).1
        rw [show k9 - (X ++ va_pl L f).length = 0 by omega] at hx
        cases hx
        exact Nat.le_refl _
    have hr : ∀ (k9 : Nat) (x : Nat × va_E), (((List.range n.toNatClampNeg).map (fun i => H.size + 1 + i)).map (fun a => ((a, .inl (cy, z)) : Nat × va_E)))[k9]? = some x → x.1 = H.size + 1 + k9 := fun k9 x hx => by
      rw [List.getElem?_map, List.getElem?_map] at hx
      by_cases h9 : k9 < n.toNatClampNeg
      · rw [List.getElem?_range h9] at hx
        cases hx
        rfl
      · have hn0 : (List.range n.toNatClampNeg)[k9]? = none := List.getElem?_eq_none (by rw [List.length_range]; omega)
        rw [hn0] at hx
        cases hx
    refine ⟨fun i j x y hi hj hxy => ?_, fun k9 x hx => ?_⟩
    · by_cases h1 : i < W1.length <;> by_cases h2 : j < W1.length
      · rw [List.getElem?_append_left h1] at hi
        rw [List.getElem?_append_left h2] at hj
        exact hD1.1 i j x y hi hj hxy
      · rw [List.getElem?_append_left h1] at hi
        rw [List.getElem?_append_right (by omega)] at hj
        have := hle _ _ hi
        have := hr _ _ hj
        omega
      · rw [List.getElem?_append_right (by omega)] at hi
        rw [List.getElem?_append_left h2] at hj
        have := hle _ _ hj
        have := hr _ _ hi
        omega
      · rw [List.getElem?_append_right (by omega)] at hi hj
        have := hr _ _ hi
        have := hr _ _ hj
        omega
    · by_cases h1 : k9 < W1.length
      · rw [List.getElem?_append_left h1] at hx
        exact hD1.2 k9 x hx
      · rw [List.getElem?_append_right (by omega)] at hx
        have := hr _ _ hx
        exact hA _ (by have := hS.1; omega)
  have hAr : ArrOfT s cA (.array ty) := fun N9 z9 => by
    obtain ⟨-, k9, hk9, cm9, hkk9⟩ := (hO 0 0 0).1
    exact ⟨(fun q hq => by cases hq), k9, hk9, cm9, hkk9⟩
  have hK2 : va_K D cl (tys ++ [(cA, .array ty)]) s := ⟨hK.1, fun k9 x hx => by
    by_cases hl : k9 < tys.length
    · rw [List.getElem?_append_left hl] at hx
      exact hK.2 k9 x hx
    · rw [List.getElem?_append_right (by omega)] at hx
      have h0 : k9 - tys.length < 1 := (List.getElem?_eq_some_iff.mp hx).1
      rw [show k9 - tys.length = 0 by omega] at hx
      cases hx
      exact ⟨hAr, fA⟩⟩
  obtain ⟨t, a1, b1⟩ := kk H.size (fun i => H.size + 1 + i) cA F.heap (fun i j _ _ h => by have h9 : H.size + 1 + i = H.size + 1 + j := h; omega) hnl hK2 (by rw [← vr_rows hnm]; exact vr_lay hP2) (by rw [← vr_rows hnm]; exact vr_layD hD2) ⟨by rw [f1]; have := hS.1; omega, fun x h1 h2 => (hold x (Nat.lt_of_lt_of_le h1 hS.1)).trans (hS.2.1 x h1 h2), hS.2.2⟩ F rfl X'
  refine ⟨t, step t ?_, b1⟩
  have e : T.heap.size = H.size := by rw [hT]
  rw [e]
  exact a1
end VGM
/-! ===== END ===== -/

/-! ===== BEGIN printed: names, fields, word lists, decode rows ===== -/
def RX0 : String := "SilentCouncil$Agenda"
def TX0 : u_T := fun k => match k with
  | 0 => ("SilentCouncil$Agenda", "order", "[I", true)
  | 1 => ("SilentCouncil$Agenda", "bestShare", "[I", true)
  | 2 => ("SilentCouncil$Agenda", "bestPause", "I", false)
  | 3 => ("SilentCouncil$Agenda", "holders", "I", false)
  | 4 => ("SilentCouncil$Agenda", "holder", "[I", true)
  | 5 => ("SilentCouncil$Agenda", "share", "[I", true)
  | 6 => ("SilentCouncil$Agenda", "needs", "[I", true)
  | 7 => ("SilentCouncil$Agenda", "pauses", "[I", true)
  | 8 => ("SilentCouncil$Agenda", "canEnd", "[Z", true)
  | _ => ("SilentCouncil$Agenda", "full", "I", false)
def tyX0 : Nat → FieldType := fun k => match k with
  | 0 => .array .int
  | 1 => .array .int
  | 2 => .int
  | 3 => .int
  | 4 => .array .int
  | 5 => .array .int
  | 6 => .array .int
  | 7 => .array .int
  | 8 => .array .boolean
  | _ => .int
abbrev wsX00 : List Cond := u_ws RX0 TX0 10
theorem nmX0 : ∀ a, a < 10 → ∀ b, b < 10 → a ≠ b → (TX0 a).2.1 ≠ (TX0 b).2.1 := by decide +kernel
theorem tyX0_ok : ∀ k, k < 10 → parseFieldDescriptor (TX0 k).2.2.1 = some (tyX0 k) := by decide +kernel
abbrev cX0_init : ByteArray := prog_2_method_1_code
def yX0_init : MethodName := ⟨RX0, "<init>", "()V"⟩
abbrev cX0_prepare : ByteArray := prog_2_method_2_code
def yX0_prepare : MethodName := ⟨RX0, "prepare", "(LSilentCouncil$Matters;)V"⟩
abbrev cX0_needBehind : ByteArray := prog_2_method_3_code
def yX0_needBehind : MethodName := ⟨RX0, "needBehind", "(LSilentCouncil$Matters;II)V"⟩
abbrev cX0_takeShares : ByteArray := prog_2_method_4_code
def yX0_takeShares : MethodName := ⟨RX0, "takeShares", "([I)V"⟩
abbrev cX0_findHolders : ByteArray := prog_2_method_5_code
def yX0_findHolders : MethodName := ⟨RX0, "findHolders", "(LSilentCouncil$Matters;)V"⟩
abbrev cX0_leastPause : ByteArray := prog_2_method_6_code
def yX0_leastPause : MethodName := ⟨RX0, "leastPause", "(LSilentCouncil$Matters;I)I"⟩
abbrev cX0_lengthen : ByteArray := prog_2_method_7_code
def yX0_lengthen : MethodName := ⟨RX0, "lengthen", "(LSilentCouncil$Matters;I)V"⟩
abbrev cX0_findOrder : ByteArray := prog_2_method_8_code
def yX0_findOrder : MethodName := ⟨RX0, "findOrder", "(LSilentCouncil$Matters;I)V"⟩
abbrev cX0_findBestDeal : ByteArray := prog_2_method_9_code
def yX0_findBestDeal : MethodName := ⟨RX0, "findBestDeal", "(LSilentCouncil$Matters;I)V"⟩
abbrev cX0_deal : ByteArray := prog_2_method_10_code
def yX0_deal : MethodName := ⟨RX0, "deal", "(LSilentCouncil$Agenda;LSilentCouncil$Matters;II)V"⟩
abbrev cX0_findNext : ByteArray := prog_2_method_11_code
def yX0_findNext : MethodName := ⟨RX0, "findNext", "(LSilentCouncil$Matters;II)I"⟩
abbrev cX0_lack : ByteArray := prog_2_method_12_code
def yX0_lack : MethodName := ⟨RX0, "lack", "(LSilentCouncil$Matters;II)I"⟩
def RX1 : String := "SilentCouncil$Book"
def TX1 : u_T := fun k => match k with
  | 0 => ("SilentCouncil$Book", "filling", "[I", true)
  | 1 => ("SilentCouncil$Book", "length", "I", false)
  | 2 => ("SilentCouncil$Book", "lines", "[I", true)
  | 3 => ("SilentCouncil$Book", "saved", "[I", true)
  | _ => ("SilentCouncil$Book", "spoke", "[I", true)
def tyX1 : Nat → FieldType := fun k => match k with
  | 0 => .array .int
  | 1 => .int
  | 2 => .array .int
  | 3 => .array .int
  | _ => .array .int
abbrev wsX10 : List Cond := u_ws RX1 TX1 5
theorem nmX1 : ∀ a, a < 5 → ∀ b, b < 5 → a ≠ b → (TX1 a).2.1 ≠ (TX1 b).2.1 := by decide +kernel
theorem tyX1_ok : ∀ k, k < 5 → parseFieldDescriptor (TX1 k).2.2.1 = some (tyX1 k) := by decide +kernel
abbrev cX1_init : ByteArray := prog_3_method_1_code
def yX1_init : MethodName := ⟨RX1, "<init>", "()V"⟩
abbrev cX1_open : ByteArray := prog_3_method_2_code
def yX1_open : MethodName := ⟨RX1, "open", "(LSilentCouncil$Pad;[I)V"⟩
abbrev cX1_sign : ByteArray := prog_3_method_3_code
def yX1_sign : MethodName := ⟨RX1, "sign", "(I)I"⟩
abbrev cX1_ways : ByteArray := prog_3_method_4_code
def yX1_ways : MethodName := ⟨RX1, "ways", "(LSilentCouncil$Book;II)I"⟩
abbrev cX1_firstFalse : ByteArray := prog_3_method_5_code
def yX1_firstFalse : MethodName := ⟨RX1, "firstFalse", "()I"⟩
abbrev cX1_line : ByteArray := prog_3_method_6_code
def yX1_line : MethodName := ⟨RX1, "line", "(I)I"⟩
abbrev cX1_canSpeak : ByteArray := prog_3_method_7_code
def yX1_canSpeak : MethodName := ⟨RX1, "canSpeak", "(II)Z"⟩
abbrev cX1_count : ByteArray := prog_3_method_8_code
def yX1_count : MethodName := ⟨RX1, "count", "(II)V"⟩
def RX2 : String := "SilentCouncil$Kept"
def TX2 : u_T := fun k => match k with
  | 0 => ("SilentCouncil$Kept", "seats", "[[I", true)
  | 1 => ("SilentCouncil$Kept", "lent", "[[I", true)
  | 2 => ("SilentCouncil$Kept", "matters", "LSilentCouncil$Matters;", true)
  | 3 => ("SilentCouncil$Kept", "cough", "I", false)
  | _ => ("SilentCouncil$Kept", "asked", "I", false)
def tyX2 : Nat → FieldType := fun k => match k with
  | 0 => .array (.array .int)
  | 1 => .array (.array .int)
  | 2 => .object "SilentCouncil$Matters"
  | 3 => .int
  | _ => .int
abbrev wsX20 : List Cond := u_ws RX2 TX2 5
theorem nmX2 : ∀ a, a < 5 → ∀ b, b < 5 → a ≠ b → (TX2 a).2.1 ≠ (TX2 b).2.1 := by decide +kernel
theorem tyX2_ok : ∀ k, k < 5 → parseFieldDescriptor (TX2 k).2.2.1 = some (tyX2 k) := by decide +kernel
abbrev cX2_init : ByteArray := prog_4_method_1_code
def yX2_init : MethodName := ⟨RX2, "<init>", "()V"⟩
abbrev cX2_take : ByteArray := prog_4_method_2_code
def yX2_take : MethodName := ⟨RX2, "take", "(LSilentCouncil$Kept;)V"⟩
def RX3 : String := "SilentCouncil$Ledger"
def TX3 : u_T := fun k => match k with
  | 0 => ("SilentCouncil$Ledger", "sums", "[I", true)
  | _ => ("SilentCouncil$Ledger", "groups", "[I", true)
def tyX3 : Nat → FieldType := fun k => match k with
  | 0 => .array .int
  | _ => .array .int
abbrev wsX30 : List Cond := u_ws RX3 TX3 2
theorem nmX3 : ∀ a, a < 2 → ∀ b, b < 2 → a ≠ b → (TX3 a).2.1 ≠ (TX3 b).2.1 := by decide +kernel
theorem tyX3_ok : ∀ k, k < 2 → parseFieldDescriptor (TX3 k).2.2.1 = some (tyX3 k) := by decide +kernel
abbrev cX3_init : ByteArray := prog_5_method_1_code
def yX3_init : MethodName := ⟨RX3, "<init>", "()V"⟩
abbrev cX3_fewestGifts : ByteArray := prog_5_method_2_code
def yX3_fewestGifts : MethodName := ⟨RX3, "fewestGifts", "([[I)I"⟩
abbrev cX3_mostGroups : ByteArray := prog_5_method_3_code
def yX3_mostGroups : MethodName := ⟨RX3, "mostGroups", "(I)I"⟩
def RX4 : String := "SilentCouncil$Matters"
def TX4 : u_T := fun k => match k with
  | 0 => ("SilentCouncil$Matters", "by", "[I", true)
  | 1 => ("SilentCouncil$Matters", "minutes", "[I", true)
  | 2 => ("SilentCouncil$Matters", "behind", "[I", true)
  | _ => ("SilentCouncil$Matters", "count", "I", false)
def tyX4 : Nat → FieldType := fun k => match k with
  | 0 => .array .int
  | 1 => .array .int
  | 2 => .array .int
  | _ => .int
abbrev wsX40 : List Cond := u_ws RX4 TX4 4
theorem nmX4 : ∀ a, a < 4 → ∀ b, b < 4 → a ≠ b → (TX4 a).2.1 ≠ (TX4 b).2.1 := by decide +kernel
theorem tyX4_ok : ∀ k, k < 4 → parseFieldDescriptor (TX4 k).2.2.1 = some (tyX4 k) := by decide +kernel
abbrev cX4_init : ByteArray := prog_6_method_1_code
def yX4_init : MethodName := ⟨RX4, "<init>", "()V"⟩
abbrev cX4_add : ByteArray := prog_6_method_2_code
def yX4_add : MethodName := ⟨RX4, "add", "(III)Z"⟩
abbrev cX4_has : ByteArray := prog_6_method_3_code
def yX4_has : MethodName := ⟨RX4, "has", "(I)Z"⟩
abbrev cX4_allMinutes : ByteArray := prog_6_method_4_code
def yX4_allMinutes : MethodName := ⟨RX4, "allMinutes", "()I"⟩
abbrev cX4_isNext : ByteArray := prog_6_method_5_code
def yX4_isNext : MethodName := ⟨RX4, "isNext", "(II)Z"⟩
abbrev cX4_take : ByteArray := prog_6_method_6_code
def yX4_take : MethodName := ⟨RX4, "take", "(LSilentCouncil$Matters;)V"⟩
def RX5 : String := "SilentCouncil$Pad"
def TX5 : u_T := fun k => match k with
  | 0 => ("SilentCouncil$Pad", "signs", "[I", true)
  | _ => ("SilentCouncil$Pad", "count", "I", false)
def tyX5 : Nat → FieldType := fun k => match k with
  | 0 => .array .int
  | _ => .int
abbrev wsX50 : List Cond := u_ws RX5 TX5 2
theorem nmX5 : ∀ a, a < 2 → ∀ b, b < 2 → a ≠ b → (TX5 a).2.1 ≠ (TX5 b).2.1 := by decide +kernel
theorem tyX5_ok : ∀ k, k < 2 → parseFieldDescriptor (TX5 k).2.2.1 = some (tyX5 k) := by decide +kernel
abbrev cX5_init : ByteArray := prog_7_method_1_code
def yX5_init : MethodName := ⟨RX5, "<init>", "()V"⟩
abbrev cX5_add : ByteArray := prog_7_method_2_code
def yX5_add : MethodName := ⟨RX5, "add", "(I)Z"⟩
abbrev cX5_sign : ByteArray := prog_7_method_3_code
def yX5_sign : MethodName := ⟨RX5, "sign", "(I)I"⟩
abbrev cX5_sittingFault : ByteArray := prog_7_method_4_code
def yX5_sittingFault : MethodName := ⟨RX5, "sittingFault", "()I"⟩
abbrev cX5_bookFault : ByteArray := prog_7_method_5_code
def yX5_bookFault : MethodName := ⟨RX5, "bookFault", "()I"⟩
abbrev cX5_wantedBehind : ByteArray := prog_7_method_6_code
def yX5_wantedBehind : MethodName := ⟨RX5, "wantedBehind", "(III)I"⟩
abbrev cX5_wantedBehindHead : ByteArray := prog_7_method_7_code
def yX5_wantedBehindHead : MethodName := ⟨RX5, "wantedBehindHead", "(I)I"⟩
def RX6 : String := "SilentCouncil$Sitting"
def TX6 : u_T := fun k => match k with
  | 0 => ("SilentCouncil$Sitting", "seats", "[[I", true)
  | 1 => ("SilentCouncil$Sitting", "spoke", "[I", true)
  | 2 => ("SilentCouncil$Sitting", "minutes", "I", false)
  | 3 => ("SilentCouncil$Sitting", "without", "I", false)
  | _ => ("SilentCouncil$Sitting", "firstWithout", "I", false)
def tyX6 : Nat → FieldType := fun k => match k with
  | 0 => .array (.array .int)
  | 1 => .array .int
  | 2 => .int
  | 3 => .int
  | _ => .int
abbrev wsX60 : List Cond := u_ws RX6 TX6 5
theorem nmX6 : ∀ a, a < 5 → ∀ b, b < 5 → a ≠ b → (TX6 a).2.1 ≠ (TX6 b).2.1 := by decide +kernel
theorem tyX6_ok : ∀ k, k < 5 → parseFieldDescriptor (TX6 k).2.2.1 = some (tyX6 k) := by decide +kernel
abbrev cX6_init : ByteArray := prog_8_method_1_code
def yX6_init : MethodName := ⟨RX6, "<init>", "()V"⟩
abbrev cX6_run : ByteArray := prog_8_method_2_code
def yX6_run : MethodName := ⟨RX6, "run", "(LSilentCouncil$Kept;LSilentCouncil$Pad;)V"⟩
abbrev cX6_ofAll : ByteArray := prog_8_method_3_code
def yX6_ofAll : MethodName := ⟨RX6, "ofAll", "(I)I"⟩
abbrev cX6_ofOne : ByteArray := prog_8_method_4_code
def yX6_ofOne : MethodName := ⟨RX6, "ofOne", "(II)I"⟩
abbrev cX6_begin : ByteArray := prog_8_method_5_code
def yX6_begin : MethodName := ⟨RX6, "begin", "(LSilentCouncil$Kept;)V"⟩
abbrev cX6_ask : ByteArray := prog_8_method_6_code
def yX6_ask : MethodName := ⟨RX6, "ask", "(III)V"⟩
abbrev cX6_stir : ByteArray := prog_8_method_7_code
def yX6_stir : MethodName := ⟨RX6, "stir", "(III)V"⟩
abbrev cX6_last : ByteArray := prog_8_method_8_code
def yX6_last : MethodName := ⟨RX6, "last", "(II)V"⟩
abbrev cX6_speak : ByteArray := prog_8_method_9_code
def yX6_speak : MethodName := ⟨RX6, "speak", "(I)V"⟩
abbrev cX6_pay : ByteArray := prog_8_method_10_code
def yX6_pay : MethodName := ⟨RX6, "pay", "(I)Z"⟩
abbrev cX6_listens : ByteArray := prog_8_method_11_code
def yX6_listens : MethodName := ⟨RX6, "listens", "(I)Z"⟩
def RX7 : String := "SilentCouncil"
def TX7 : u_T := fun k => match k with
  | 0 => ("SilentCouncil", "now", "LSilentCouncil$Kept;", true)
  | 1 => ("SilentCouncil", "images", "[LSilentCouncil$Kept;", true)
  | 2 => ("SilentCouncil", "imaged", "[Z", true)
  | 3 => ("SilentCouncil", "pad", "LSilentCouncil$Pad;", true)
  | 4 => ("SilentCouncil", "sitting", "LSilentCouncil$Sitting;", true)
  | 5 => ("SilentCouncil", "agenda", "LSilentCouncil$Agenda;", true)
  | 6 => ("SilentCouncil", "ledger", "LSilentCouncil$Ledger;", true)
  | _ => ("SilentCouncil", "book", "LSilentCouncil$Book;", true)
def tyX7 : Nat → FieldType := fun k => match k with
  | 0 => .object "SilentCouncil$Kept"
  | 1 => .array (.object "SilentCouncil$Kept")
  | 2 => .array .boolean
  | 3 => .object "SilentCouncil$Pad"
  | 4 => .object "SilentCouncil$Sitting"
  | 5 => .object "SilentCouncil$Agenda"
  | 6 => .object "SilentCouncil$Ledger"
  | _ => .object "SilentCouncil$Book"
abbrev wsX70 : List Cond := u_ws RX7 TX7 8
theorem nmX7 : ∀ a, a < 8 → ∀ b, b < 8 → a ≠ b → (TX7 a).2.1 ≠ (TX7 b).2.1 := by decide +kernel
theorem tyX7_ok : ∀ k, k < 8 → parseFieldDescriptor (TX7 k).2.2.1 = some (tyX7 k) := by decide +kernel
abbrev cX7_init : ByteArray := prog_1_method_1_code
def yX7_init : MethodName := ⟨RX7, "<init>", "()V"⟩
abbrev cX7_set : ByteArray := prog_1_method_2_code
def yX7_set : MethodName := ⟨RX7, "set", "(III)I"⟩
abbrev cX7_law : ByteArray := prog_1_method_3_code
def yX7_law : MethodName := ⟨RX7, "law", "(II)I"⟩
abbrev cX7_say : ByteArray := prog_1_method_4_code
def yX7_say : MethodName := ⟨RX7, "say", "(I)I"⟩
abbrev cX7_wipe : ByteArray := prog_1_method_5_code
def yX7_wipe : MethodName := ⟨RX7, "wipe", "()I"⟩
abbrev cX7_fault : ByteArray := prog_1_method_6_code
def yX7_fault : MethodName := ⟨RX7, "fault", "(I)I"⟩
abbrev cX7_sits : ByteArray := prog_1_method_7_code
def yX7_sits : MethodName := ⟨RX7, "sits", "(I)I"⟩
abbrev cX7_sit : ByteArray := prog_1_method_8_code
def yX7_sit : MethodName := ⟨RX7, "sit", "()I"⟩
abbrev cX7_matter : ByteArray := prog_1_method_9_code
def yX7_matter : MethodName := ⟨RX7, "matter", "(III)I"⟩
abbrev cX7_about : ByteArray := prog_1_method_10_code
def yX7_about : MethodName := ⟨RX7, "about", "(II)I"⟩
abbrev cX7_clear : ByteArray := prog_1_method_11_code
def yX7_clear : MethodName := ⟨RX7, "clear", "()I"⟩
abbrev cX7_least : ByteArray := prog_1_method_12_code
def yX7_least : MethodName := ⟨RX7, "least", "(I)I"⟩
abbrev cX7_dealt : ByteArray := prog_1_method_13_code
def yX7_dealt : MethodName := ⟨RX7, "dealt", "(II)I"⟩
abbrev cX7_lend : ByteArray := prog_1_method_14_code
def yX7_lend : MethodName := ⟨RX7, "lend", "(III)I"⟩
abbrev cX7_net : ByteArray := prog_1_method_15_code
def yX7_net : MethodName := ⟨RX7, "net", "(I)I"⟩
abbrev cX7_gifts : ByteArray := prog_1_method_16_code
def yX7_gifts : MethodName := ⟨RX7, "gifts", "()I"⟩
abbrev cX7_filled : ByteArray := prog_1_method_17_code
def yX7_filled : MethodName := ⟨RX7, "filled", "(II)I"⟩
abbrev cX7_lie : ByteArray := prog_1_method_18_code
def yX7_lie : MethodName := ⟨RX7, "lie", "()I"⟩
abbrev cX7_floor : ByteArray := prog_1_method_19_code
def yX7_floor : MethodName := ⟨RX7, "floor", "(I)I"⟩
abbrev cX7_friends : ByteArray := prog_1_method_20_code
def yX7_friends : MethodName := ⟨RX7, "friends", "(II)I"⟩
abbrev cX7_image : ByteArray := prog_1_method_21_code
def yX7_image : MethodName := ⟨RX7, "image", "(I)I"⟩
abbrev cX7_restore : ByteArray := prog_1_method_22_code
def yX7_restore : MethodName := ⟨RX7, "restore", "(I)I"⟩
abbrev cX7_told : ByteArray := prog_1_method_23_code
def yX7_told : MethodName := ⟨RX7, "told", "(I)I"⟩
abbrev cX7_floorOf : ByteArray := prog_1_method_24_code
def yX7_floorOf : MethodName := ⟨RX7, "floorOf", "(I)I"⟩
abbrev cX7_isOne : ByteArray := prog_1_method_25_code
def yX7_isOne : MethodName := ⟨RX7, "isOne", "(I)Z"⟩
abbrev cX7_isOneSign : ByteArray := prog_1_method_26_code
def yX7_isOneSign : MethodName := ⟨RX7, "isOneSign", "(I)Z"⟩
abbrev cX7_holds : ByteArray := prog_1_method_27_code
def yX7_holds : MethodName := ⟨RX7, "holds", "(II)Z"⟩
abbrev cX7_netOf : ByteArray := prog_1_method_28_code
def yX7_netOf : MethodName := ⟨RX7, "netOf", "([[II)I"⟩
abbrev cX7_copyRows : ByteArray := prog_1_method_29_code
def yX7_copyRows : MethodName := ⟨RX7, "copyRows", "([[I[[II)V"⟩
def RX8 : String := "SilentCouncilModel"
def TX8 : u_T := fun k => match k with
  | 0 => ("SilentCouncilModel", "ones", "[I", true)
  | 1 => ("SilentCouncilModel", "cough", "I", false)
  | 2 => ("SilentCouncilModel", "askedFor", "I", false)
  | 3 => ("SilentCouncilModel", "signs", "I", false)
  | 4 => ("SilentCouncilModel", "pad", "[I", true)
  | 5 => ("SilentCouncilModel", "matters", "I", false)
  | 6 => ("SilentCouncilModel", "matter", "[I", true)
  | 7 => ("SilentCouncilModel", "lent", "[I", true)
  | 8 => ("SilentCouncilModel", "now", "[I", true)
  | 9 => ("SilentCouncilModel", "spoke", "[I", true)
  | 10 => ("SilentCouncilModel", "minutes", "I", false)
  | 11 => ("SilentCouncilModel", "without", "I", false)
  | 12 => ("SilentCouncilModel", "firstWithout", "I", false)
  | 13 => ("SilentCouncilModel", "saved", "[I", true)
  | 14 => ("SilentCouncilModel", "least", "[I", true)
  | 15 => ("SilentCouncilModel", "having", "[I", true)
  | 16 => ("SilentCouncilModel", "best", "[I", true)
  | 17 => ("SilentCouncilModel", "parts", "[I", true)
  | 18 => ("SilentCouncilModel", "line", "[I", true)
  | 19 => ("SilentCouncilModel", "had", "[I", true)
  | 20 => ("SilentCouncilModel", "image", "[I", true)
  | _ => ("SilentCouncilModel", "isKept", "[Z", true)
def tyX8 : Nat → FieldType := fun k => match k with
  | 0 => .array .int
  | 1 => .int
  | 2 => .int
  | 3 => .int
  | 4 => .array .int
  | 5 => .int
  | 6 => .array .int
  | 7 => .array .int
  | 8 => .array .int
  | 9 => .array .int
  | 10 => .int
  | 11 => .int
  | 12 => .int
  | 13 => .array .int
  | 14 => .array .int
  | 15 => .array .int
  | 16 => .array .int
  | 17 => .array .int
  | 18 => .array .int
  | 19 => .array .int
  | 20 => .array .int
  | _ => .array .boolean
abbrev wsX80 : List Cond := u_ws RX8 TX8 22
theorem nmX8 : ∀ a, a < 22 → ∀ b, b < 22 → a ≠ b → (TX8 a).2.1 ≠ (TX8 b).2.1 := by decide +kernel
theorem tyX8_ok : ∀ k, k < 22 → parseFieldDescriptor (TX8 k).2.2.1 = some (tyX8 k) := by decide +kernel
abbrev cX8_init : ByteArray := prog_10_method_1_code
def yX8_init : MethodName := ⟨RX8, "<init>", "()V"⟩
abbrev cX8_in : ByteArray := prog_10_method_2_code
def yX8_in : MethodName := ⟨RX8, "in", "(III)Z"⟩
abbrev cX8_isOne : ByteArray := prog_10_method_3_code
def yX8_isOne : MethodName := ⟨RX8, "isOne", "(I)Z"⟩
abbrev cX8_mostOf : ByteArray := prog_10_method_4_code
def yX8_mostOf : MethodName := ⟨RX8, "mostOf", "(I)I"⟩
abbrev cX8_set : ByteArray := prog_10_method_5_code
def yX8_set : MethodName := ⟨RX8, "set", "(III)I"⟩
abbrev cX8_law : ByteArray := prog_10_method_6_code
def yX8_law : MethodName := ⟨RX8, "law", "(II)I"⟩
abbrev cX8_say : ByteArray := prog_10_method_7_code
def yX8_say : MethodName := ⟨RX8, "say", "(I)I"⟩
abbrev cX8_wipe : ByteArray := prog_10_method_8_code
def yX8_wipe : MethodName := ⟨RX8, "wipe", "()I"⟩
abbrev cX8_isName : ByteArray := prog_10_method_9_code
def yX8_isName : MethodName := ⟨RX8, "isName", "(I)Z"⟩
abbrev cX8_isAct : ByteArray := prog_10_method_10_code
def yX8_isAct : MethodName := ⟨RX8, "isAct", "(I)Z"⟩
abbrev cX8_sittingFault : ByteArray := prog_10_method_11_code
def yX8_sittingFault : MethodName := ⟨RX8, "sittingFault", "()I"⟩
abbrev cX8_bookFault : ByteArray := prog_10_method_12_code
def yX8_bookFault : MethodName := ⟨RX8, "bookFault", "()I"⟩
abbrev cX8_fault : ByteArray := prog_10_method_13_code
def yX8_fault : MethodName := ⟨RX8, "fault", "(I)I"⟩
abbrev cX8_listens : ByteArray := prog_10_method_14_code
def yX8_listens : MethodName := ⟨RX8, "listens", "(I)Z"⟩
abbrev cX8_save : ByteArray := prog_10_method_15_code
def yX8_save : MethodName := ⟨RX8, "save", "(I)V"⟩
abbrev cX8_speak : ByteArray := prog_10_method_16_code
def yX8_speak : MethodName := ⟨RX8, "speak", "(I)V"⟩
abbrev cX8_act : ByteArray := prog_10_method_17_code
def yX8_act : MethodName := ⟨RX8, "act", "(II)V"⟩
abbrev cX8_sitThrough : ByteArray := prog_10_method_18_code
def yX8_sitThrough : MethodName := ⟨RX8, "sitThrough", "()V"⟩
abbrev cX8_sits : ByteArray := prog_10_method_19_code
def yX8_sits : MethodName := ⟨RX8, "sits", "(I)I"⟩
abbrev cX8_sit : ByteArray := prog_10_method_20_code
def yX8_sit : MethodName := ⟨RX8, "sit", "()I"⟩
abbrev cX8_matter : ByteArray := prog_10_method_21_code
def yX8_matter : MethodName := ⟨RX8, "matter", "(III)I"⟩
abbrev cX8_about : ByteArray := prog_10_method_22_code
def yX8_about : MethodName := ⟨RX8, "about", "(II)I"⟩
abbrev cX8_clear : ByteArray := prog_10_method_23_code
def yX8_clear : MethodName := ⟨RX8, "clear", "()I"⟩
abbrev cX8_mayBegin : ByteArray := prog_10_method_24_code
def yX8_mayBegin : MethodName := ⟨RX8, "mayBegin", "(II)Z"⟩
abbrev cX8_spokenBy : ByteArray := prog_10_method_25_code
def yX8_spokenBy : MethodName := ⟨RX8, "spokenBy", "(II)I"⟩
abbrev cX8_endOf : ByteArray := prog_10_method_26_code
def yX8_endOf : MethodName := ⟨RX8, "endOf", "(III)I"⟩
abbrev cX8_leastFrom : ByteArray := prog_10_method_27_code
def yX8_leastFrom : MethodName := ⟨RX8, "leastFrom", "(II)I"⟩
abbrev cX8_asSaved : ByteArray := prog_10_method_28_code
def yX8_asSaved : MethodName := ⟨RX8, "asSaved", "()V"⟩
abbrev cX8_least : ByteArray := prog_10_method_29_code
def yX8_least : MethodName := ⟨RX8, "least", "(I)I"⟩
abbrev cX8_dealt : ByteArray := prog_10_method_30_code
def yX8_dealt : MethodName := ⟨RX8, "dealt", "(II)I"⟩
abbrev cX8_lend : ByteArray := prog_10_method_31_code
def yX8_lend : MethodName := ⟨RX8, "lend", "(III)I"⟩
abbrev cX8_netOf : ByteArray := prog_10_method_32_code
def yX8_netOf : MethodName := ⟨RX8, "netOf", "(I)I"⟩
abbrev cX8_net : ByteArray := prog_10_method_33_code
def yX8_net : MethodName := ⟨RX8, "net", "(I)I"⟩
abbrev cX8_gifts : ByteArray := prog_10_method_34_code
def yX8_gifts : MethodName := ⟨RX8, "gifts", "()I"⟩
abbrev cX8_layLine : ByteArray := prog_10_method_35_code
def yX8_layLine : MethodName := ⟨RX8, "layLine", "(I)I"⟩
abbrev cX8_holds : ByteArray := prog_10_method_36_code
def yX8_holds : MethodName := ⟨RX8, "holds", "()I"⟩
abbrev cX8_filled : ByteArray := prog_10_method_37_code
def yX8_filled : MethodName := ⟨RX8, "filled", "(II)I"⟩
abbrev cX8_lie : ByteArray := prog_10_method_38_code
def yX8_lie : MethodName := ⟨RX8, "lie", "()I"⟩
abbrev cX8_floorOf : ByteArray := prog_10_method_39_code
def yX8_floorOf : MethodName := ⟨RX8, "floorOf", "(I)I"⟩
abbrev cX8_floor : ByteArray := prog_10_method_40_code
def yX8_floor : MethodName := ⟨RX8, "floor", "(I)I"⟩
abbrev cX8_bits : ByteArray := prog_10_method_41_code
def yX8_bits : MethodName := ⟨RX8, "bits", "(I)I"⟩
abbrev cX8_friends : ByteArray := prog_10_method_42_code
def yX8_friends : MethodName := ⟨RX8, "friends", "(II)I"⟩
abbrev cX8_image : ByteArray := prog_10_method_43_code
def yX8_image : MethodName := ⟨RX8, "image", "(I)I"⟩
abbrev cX8_restore : ByteArray := prog_10_method_44_code
def yX8_restore : MethodName := ⟨RX8, "restore", "(I)I"⟩
abbrev cX8_told : ByteArray := prog_10_method_45_code
def yX8_told : MethodName := ⟨RX8, "told", "(I)I"⟩
def RJ6 : String := "java/lang/Integer"
def TJ6 : u_T := fun k => match k with
  | _ => ("", "", "", false)
def tyJ6 : Nat → FieldType := fun k => match k with
  | _ => .int
abbrev wsJ60 : List Cond := u_ws RJ6 TJ6 0
theorem nmJ6 : ∀ a, a < 0 → ∀ b, b < 0 → a ≠ b → (TJ6 a).2.1 ≠ (TJ6 b).2.1 := by decide +kernel
theorem tyJ6_ok : ∀ k, k < 0 → parseFieldDescriptor (TJ6 k).2.2.1 = some (tyJ6 k) := by decide +kernel
abbrev cJ6_bitCount_0f7a4 : ByteArray := prog_11_method_49_code
def yJ6_bitCount_0f7a4 : MethodName := ⟨RJ6, "bitCount", "(I)I"⟩
def RJ9 : String := "java/lang/Math"
def TJ9 : u_T := fun k => match k with
  | _ => ("", "", "", false)
def tyJ9 : Nat → FieldType := fun k => match k with
  | _ => .int
abbrev wsJ90 : List Cond := u_ws RJ9 TJ9 0
theorem nmJ9 : ∀ a, a < 0 → ∀ b, b < 0 → a ≠ b → (TJ9 a).2.1 ≠ (TJ9 b).2.1 := by decide +kernel
theorem tyJ9_ok : ∀ k, k < 0 → parseFieldDescriptor (TJ9 k).2.2.1 = some (tyJ9 k) := by decide +kernel
abbrev cJ9_max_7cf53 : ByteArray := prog_12_method_65_code
def yJ9_max_7cf53 : MethodName := ⟨RJ9, "max", "(II)I"⟩
abbrev cJ9_min_7cf53 : ByteArray := prog_12_method_69_code
def yJ9_min_7cf53 : MethodName := ⟨RJ9, "min", "(II)I"⟩
def RJ10 : String := "java/lang/System"
def TJ10 : u_T := fun k => match k with
  | _ => ("", "", "", false)
def tyJ10 : Nat → FieldType := fun k => match k with
  | _ => .int
abbrev wsJ100 : List Cond := u_ws RJ10 TJ10 0
theorem nmJ10 : ∀ a, a < 0 → ∀ b, b < 0 → a ≠ b → (TJ10 a).2.1 ≠ (TJ10 b).2.1 := by decide +kernel
theorem tyJ10_ok : ∀ k, k < 0 → parseFieldDescriptor (TJ10 k).2.2.1 = some (tyJ10 k) := by decide +kernel
def RL : String := "SilentCouncilLaw"
abbrev cL_law : ByteArray := code
def yL_law : MethodName := ⟨RL, "law", "([I)Z"⟩
theorem inJ6 : ∀ w ∈ wsJ60, w ∈ lw_tbl := by decide +kernel
theorem inJ9 : ∀ w ∈ wsJ90, w ∈ lw_tbl := by decide +kernel
theorem inJ10 : ∀ w ∈ wsJ100, w ∈ lw_tbl := by decide +kernel
abbrev vwCl : List vw_C := [(RX0, TX0, 10), (RX1, TX1, 5), (RX2, TX2, 5), (RX3, TX3, 2), (RX4, TX4, 4), (RX5, TX5, 2), (RX6, TX6, 5), (RX7, TX7, 8), (RX8, TX8, 22)]
