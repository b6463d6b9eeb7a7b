/-! ===== sittings: the reference's walk, and the calls sits and sit ===== -/
theorem fMinute_dot {S : Mm} : fMinute 6 S = upm (fSaveN (-6) S 6) 5 0 (fSaveN (-6) S 6 5 0 + 1) := by
  rw [fMinute_eq, if_neg (by decide), fSaveN_out (b := 6) (b' := -6) (by decide) (by decide)]
theorem fMinute_sp {S : Mm} {k : Int} (h : 0 ≤ k ∧ k < 6) : fMinute k S = upm (fSaveN k (fSpeak S k) 6) 5 0 (fSaveN k (fSpeak S k) 6 5 0 + 1) := by
  rw [fMinute_eq, if_pos h]

set_option maxRecDepth 100000 in
set_option maxHeartbeats 4000000 in
theorem lp_X8_sit_in {v : Ev} {as : List Nat} (M0 T : Mm) (i s w sp q : Int) (hi : 0 ≤ i ∧ i < 39) (hd : 1 ≤ M0 81 (i + 1) - 48 ∧ M0 81 (i + 1) - 48 ≤ 9) (hs : (s = 46 ∧ sp = 6) ∨ ((97 ≤ s ∧ s < 103) ∧ sp = s - 97)) (hq : 0 ≤ q ∧ q ≤ 90000) (E : Cx v cX8_sitThrough 5 yX8_sitThrough.cls 4) (hret : ∀ (M : Mm) (o4 : Option Vv), absM M = T → KpM M0 M → Ws v as SH 0 0 223 [some (rv 79), some (iv i), some (iv s), some (iv w), o4] [] M) : ∀ (N : Nat) (M : Mm) (t : Int), (M0 81 (i + 1) - 48 - t).toNat < N → (0 ≤ t ∧ t ≤ M0 81 (i + 1) - 48) → (SB (absM M) (q + t)) → (KpM M0 M) → (fLast sp (M0 81 (i + 1) - 48 - t).toNat (absM M) = T) → Ws v as SH 0 0 168 [some (rv 79), some (iv i), some (iv s), some (iv w), some (iv t)] [] M := by
  intro N
  induction N with
  | zero =>
    intro M t hN
    exact absurd hN (Nat.not_lt_zero _)
  | succ N ih =>
    intro M t hN g0 g1 g2 g3
    have k81 : M 81 = M0 81 := funext (fun j => g2 81 j (by decide) (by omega))
    refine s_iload E dX8_sitThrough_168 rfl ?_
    refine s_aload_n E dX8_sitThrough_170 rfl ?_
    refine s_getR (kf := 4) E dX8_sitThrough_171 rfl inb_X8 (Nat.le_of_ble_eq_true rfl) fl_X8_20 (by decide) sh79 rfl ?_
    refine s_iload_n E dX8_sitThrough_174 rfl ?_
    refine s_iconst E dX8_sitThrough_175 ?_
    refine s_iadd E dX8_sitThrough_176 ?_
    refine s_iald E dX8_sitThrough_177 (by decide) sh81 (Nat.le_of_ble_eq_true rfl) (by omega) ?_
    rw [k81]
    refine s_bipush E dX8_sitThrough_178 rfl ?_
    refine s_isub E dX8_sitThrough_180 ?_
    refine s_icmp_ge E 223 dX8_sitThrough_181 (by decide) (by omega) (by omega) (fun h181 => ?_) (fun h181 => ?_)
    · exact hret M _ (by rw [← g3, fLast_end (by omega)]) g2
    · have hb := g1
      refine s_iload_n E dX8_sitThrough_184 rfl ?_
      refine s_bipush E dX8_sitThrough_185 rfl ?_
      refine s_icmp_ne E 199 dX8_sitThrough_187 (by decide) (by omega) (by omega) (fun h187 => ?_) (fun h187 => ?_)
      · refine s_aload_n E dX8_sitThrough_199 rfl ?_
        refine s_iload_n E dX8_sitThrough_200 rfl ?_
        refine s_bipush E dX8_sitThrough_201 rfl ?_
        refine s_isub E dX8_sitThrough_203 ?_
        refine s_callVv E (c_X8_speak M (s - 97) (q + t) (by omega) g1 (by omega)) dX8_sitThrough_204 mf_X8_speak ml_X8_111 rfl (Nat.le_of_ble_eq_true rfl) (Nat.le_of_ble_eq_true rfl) (by decide) sh79 rfl rfl (fun M204 h204 => ?_)
        obtain ⟨e204, f204⟩ := h204
        refine s_aload_n E dX8_sitThrough_207 rfl ?_
        refine s_dup E dX8_sitThrough_208 ?_
        refine s_getI (kf := 10) E 10 rfl dX8_sitThrough_209 rfl inb_X8 (Nat.le_of_ble_eq_true rfl) fl_X8_97 (by decide) sh79 rfl ?_
        refine s_iconst E dX8_sitThrough_212 ?_
        refine s_iadd E dX8_sitThrough_213 ?_
        refine s_putI (kf := 10) E 10 rfl dX8_sitThrough_214 rfl inb_X8 tyX8_ok nmX8 (Nat.le_of_ble_eq_true rfl) ⟨rfl, rfl⟩ fl_X8_97 (by decide) sh79 rfl ?_
        refine s_iinc (ls' := [_, _, _, _, _]) E dX8_sitThrough_217 rfl rfl ?_
        refine s_goto E 168 dX8_sitThrough_220 (by decide) ?_
        have hm : absM (upm M204 79 10 (M204 79 10 + 1)) = fMinute sp (absM M) := by
          rw [absM_uf0, ← absM_rf0 (M := M204), e204, show sp = s - 97 by omega, fMinute_sp (by omega)]
        refine ih _ _ (by omega) (by omega) ?_ ((g2.tr f204).upf (by decide)) ?_
        · rw [hm, show q + (t + 1) = q + t + 1 by omega]
          exact g1.minute (by omega)
        · rw [hm, ← g3]
          exact (fLast_step (by omega)).symm
      · refine s_aload_n E dX8_sitThrough_190 rfl ?_
        refine s_bipush E dX8_sitThrough_191 rfl ?_
        refine s_callVv E (c_X8_save M (-6) (q + t) (by decide) g1) dX8_sitThrough_193 mf_X8_save ml_X8_103 rfl (Nat.le_of_ble_eq_true rfl) (Nat.le_of_ble_eq_true rfl) (by decide) sh79 rfl rfl (fun M193 h193 => ?_)
        obtain ⟨e193, f193⟩ := h193
        refine s_goto E 207 dX8_sitThrough_196 (by decide) ?_
        refine s_aload_n E dX8_sitThrough_207 rfl ?_
        refine s_dup E dX8_sitThrough_208 ?_
        refine s_getI (kf := 10) E 10 rfl dX8_sitThrough_209 rfl inb_X8 (Nat.le_of_ble_eq_true rfl) fl_X8_97 (by decide) sh79 rfl ?_
        refine s_iconst E dX8_sitThrough_212 ?_
        refine s_iadd E dX8_sitThrough_213 ?_
        refine s_putI (kf := 10) E 10 rfl dX8_sitThrough_214 rfl inb_X8 tyX8_ok nmX8 (Nat.le_of_ble_eq_true rfl) ⟨rfl, rfl⟩ fl_X8_97 (by decide) sh79 rfl ?_
        refine s_iinc (ls' := [_, _, _, _, _]) E dX8_sitThrough_217 rfl rfl ?_
        refine s_goto E 168 dX8_sitThrough_220 (by decide) ?_
        have hm : absM (upm M193 79 10 (M193 79 10 + 1)) = fMinute sp (absM M) := by
          rw [absM_uf0, ← absM_rf0 (M := M193), e193, show sp = 6 by omega, fMinute_dot]
        refine ih _ _ (by omega) (by omega) ?_ ((g2.tr f193).upf (by decide)) ?_
        · rw [hm, show q + (t + 1) = q + t + 1 by omega]
          exact g1.minute (by omega)
        · rw [hm, ← g3]
          exact (fLast_step (by omega)).symm

set_option maxRecDepth 100000 in
set_option maxHeartbeats 4000000 in
theorem lp_X8_sit {v : Ev} {as : List Nat} (M0 T : Mm) (hp : PadOK (M0 81) (M0 79 3)) (hco : 0 ≤ M0 79 1 ∧ M0 79 1 ≤ 99) (hak : 0 ≤ M0 79 2 ∧ M0 79 2 ≤ 99) (E : Cx v cX8_sitThrough 5 yX8_sitThrough.cls 4) (hret : RetV v as cX8_sitThrough (fun M' => absM M' = T ∧ KpM M0 M')) : ∀ (N : Nat) (f : Nat) (M : Mm) (i : Int) (o2 o3 o4 : Option Vv), f < N → (0 ≤ i ∧ i ≤ M0 79 3) → ((M0 79 3 - i).toNat ≤ f) → (SB (absM M) (9 * i)) → (KpM M0 M) → (sfl (M0 81) (M0 79 3 - i).toNat i 0 = -6) → (fRun (M0 81) (M0 79 3) (M0 79 1) (M0 79 2) f i (absM M) = T) → Ws v as SH 0 0 65 [some (rv 79), some (iv i), o2, o3, o4] [] M := by
  intro N
  induction N with
  | zero =>
    intro f M i o2 o3 o4 hN
    exact absurd hN (Nat.not_lt_zero _)
  | succ N ih =>
    intro f M i o2 o3 o4 hN g0 g1 g2 g3 g4 g5
    have hp0 := hp.1; have hp1 := hp.2.1; have hp2 := hp.2.2
    have k1 := g3 79 3 (by decide) (by decide)
    have k81 : M 81 = M0 81 := funext (fun j => g3 81 j (by decide) (by omega))
    refine s_iload_n E dX8_sitThrough_65 rfl ?_
    refine s_aload_n E dX8_sitThrough_66 rfl ?_
    refine s_getI (kf := 3) E 3 rfl dX8_sitThrough_67 rfl inb_X8 (Nat.le_of_ble_eq_true rfl) fl_X8_75 (by decide) sh79 rfl ?_
    rw [k1]
    refine s_icmp_ge E 229 dX8_sitThrough_70 (by decide) (by omega) (by omega) (fun h70 => ?_) (fun h70 => ?_)
    · refine hret _ ?_ _ _ dX8_sitThrough_229
      exact ⟨by rw [← g5, fRun_end (by omega)], g3⟩
    · have pt := part_ok g0.1 (by omega) g4
      have b0 := hp2 i (by omega) (by omega)
      have b1 := hp2 (i + 1) (by omega) (by omega)
      obtain ⟨f, rfl⟩ : ∃ q, f = q + 1 := ⟨f - 1, by omega⟩
      rw [fRun_step (by omega)] at g5
      have hb := g2
      refine s_aload_n E dX8_sitThrough_73 rfl ?_
      refine s_getR (kf := 4) E dX8_sitThrough_74 rfl inb_X8 (Nat.le_of_ble_eq_true rfl) fl_X8_20 (by decide) sh79 rfl ?_
      refine s_iload_n E dX8_sitThrough_77 rfl ?_
      refine s_iald E dX8_sitThrough_78 (by decide) sh81 (Nat.le_of_ble_eq_true rfl) (by omega) ?_
      rw [k81]
      refine s_istore_n (ls' := [_, _, _, _, _]) E dX8_sitThrough_79 (Nat.le_of_ble_eq_true rfl) rfl ?_
      refine s_aload_n E dX8_sitThrough_80 rfl ?_
      refine s_getR (kf := 4) E dX8_sitThrough_81 rfl inb_X8 (Nat.le_of_ble_eq_true rfl) fl_X8_20 (by decide) sh79 rfl ?_
      refine s_iload_n E dX8_sitThrough_84 rfl ?_
      refine s_iconst E dX8_sitThrough_85 ?_
      refine s_iadd E dX8_sitThrough_86 ?_
      refine s_iald E dX8_sitThrough_87 (by decide) sh81 (Nat.le_of_ble_eq_true rfl) (by omega) ?_
      rw [k81]
      refine s_bipush E dX8_sitThrough_88 rfl ?_
      refine s_isub E dX8_sitThrough_90 ?_
      refine s_istore_n (ls' := [_, _, _, _, _]) E dX8_sitThrough_91 (Nat.le_of_ble_eq_true rfl) rfl ?_
      refine s_iload_n E dX8_sitThrough_92 rfl ?_
      refine s_bipush E dX8_sitThrough_93 rfl ?_
      refine s_icmp_ne E 149 dX8_sitThrough_95 (by decide) (by omega) (by omega) (fun h95 => ?_) (fun h95 => ?_)
      · refine s_iload_n E dX8_sitThrough_149 rfl ?_
        refine s_callSi E (c_X8_isAct _ _ (by omega)) dX8_sitThrough_150 mf_X8_isAct ml_X8_81 rfl (Nat.le_of_ble_eq_true rfl) (Nat.le_of_ble_eq_true rfl) rfl (fun r150 M150 h150 => ?_)
        obtain ⟨e150, f150⟩ := h150; subst r150; subst M150
        refine s_ifeqB E 165 dX8_sitThrough_153 (by decide) (fun h153 => ?_) (fun h153 => ?_)
        · refine s_iconst E dX8_sitThrough_165 ?_
          refine s_istore (ls' := [_, _, _, _, _]) E dX8_sitThrough_166 (Nat.le_of_ble_eq_true rfl) rfl ?_
          refine lp_X8_sit_in M0 (fLast (if M0 81 i = 46 then 6 else M0 81 i - 97) (M0 81 (i + 1) - 48).toNat (absM M)) i (M0 81 i) (M0 81 (i + 1) - 97) (if M0 81 i = 46 then 6 else M0 81 i - 97) (9 * i) (by omega) (by omega) (by split <;> omega) (by omega) E (fun M2 o4 e2 f2 => ?_) 10 M 0 (by omega) (by omega) (by simpa using g2) g3 (by rw [Int.sub_zero])
          refine s_iinc (ls' := [_, _, _, _, _]) E dX8_sitThrough_223 rfl rfl ?_
          refine s_goto E 65 dX8_sitThrough_226 (by decide) ?_
          refine ih f M2 (i + 2) _ _ _ (by omega) (by omega) (by omega) ?_ (f2) ?_ ?_
          · rw [e2]
            exact (SB.last g2 (by omega)).mono (by omega) (by omega)
          · rcases pt with q | q | q
            · first | exact q.2.2.2.2 | (exfalso; omega)
            · first | exact q.2.2.2.2 | (exfalso; omega)
            · first | (rw [show i + 1 + 2 = i + 3 by omega]; exact q.2.2.2.2.2.2.2) | (exfalso; omega)
          · rw [e2, ← g5, if_neg (show ¬ M0 81 i = 63 by omega)]
            unfold fPart
            rcases (show M0 81 i = 46 ∨ (97 ≤ M0 81 i ∧ M0 81 i < 103) by omega) with c | c
            · rw [if_pos c, if_pos c]
            · rw [if_neg (by omega), if_neg (by omega), if_pos c]
        · have e1 := g3 79 1 (by decide) (by decide)
          refine s_aload_n E dX8_sitThrough_156 rfl ?_
          refine s_iload_n E dX8_sitThrough_157 rfl ?_
          refine s_iload_n E dX8_sitThrough_158 rfl ?_
          refine s_callVv E (c_X8_act M _ _ (9 * i) (by omega) (by omega) (by omega) g2) dX8_sitThrough_159 mf_X8_act ml_X8_107 rfl (Nat.le_of_ble_eq_true rfl) (Nat.le_of_ble_eq_true rfl) (by decide) sh79 rfl rfl (fun M159 h159 => ?_)
          obtain ⟨e159, f159⟩ := h159
          rw [e1] at e159
          refine s_goto E 223 dX8_sitThrough_162 (by decide) ?_
          refine s_iinc (ls' := [_, _, _, _, _]) E dX8_sitThrough_223 rfl rfl ?_
          refine s_goto E 65 dX8_sitThrough_226 (by decide) ?_
          refine ih f M159 (i + 2) _ _ _ (by omega) (by omega) (by omega) ?_ (g3.tr f159) ?_ ?_
          · rw [e159]
            exact (g2.stir (by omega) hco).mono (by omega) (by omega)
          · rcases pt with q | q | q
            · first | exact q.2.2.2.2 | (exfalso; omega)
            · first | exact q.2.2.2.2 | (exfalso; omega)
            · first | (rw [show i + 1 + 2 = i + 3 by omega]; exact q.2.2.2.2.2.2.2) | (exfalso; omega)
          · rw [e159, ← g5, if_neg (show ¬ M0 81 i = 63 by omega)]
            unfold fPart
            rw [if_neg (by omega), if_neg (by omega), if_neg (by omega)]
      · refine s_aload_n E dX8_sitThrough_98 rfl ?_
        refine s_getR (kf := 4) E dX8_sitThrough_99 rfl inb_X8 (Nat.le_of_ble_eq_true rfl) fl_X8_20 (by decide) sh79 rfl ?_
        refine s_iload_n E dX8_sitThrough_102 rfl ?_
        refine s_iconst E dX8_sitThrough_103 ?_
        refine s_iadd E dX8_sitThrough_104 ?_
        refine s_iald E dX8_sitThrough_105 (by decide) sh81 (Nat.le_of_ble_eq_true rfl) (by omega) ?_
        rw [k81]
        refine s_bipush E dX8_sitThrough_106 rfl ?_
        refine s_isub E dX8_sitThrough_108 ?_
        refine s_istore (ls' := [_, _, _, _, _]) E dX8_sitThrough_109 (Nat.le_of_ble_eq_true rfl) rfl ?_
        refine s_aload_n E dX8_sitThrough_111 rfl ?_
        refine s_iload_n E dX8_sitThrough_112 rfl ?_
        refine s_callVi E (c_X8_listens M _ (9 * i) (by omega) g2) dX8_sitThrough_113 mf_X8_listens ml_X8_91 rfl (Nat.le_of_ble_eq_true rfl) (Nat.le_of_ble_eq_true rfl) (by decide) sh79 rfl rfl (fun r113 M113 h113 => ?_)
        obtain ⟨e113, f113⟩ := h113; subst r113; subst M113
        refine s_ifeqB E 143 dX8_sitThrough_116 (by decide) (fun h116 => ?_) (fun h116 => ?_)
        · refine s_iinc (ls' := [_, _, _, _, _]) E dX8_sitThrough_143 rfl rfl ?_
          refine s_goto E 223 dX8_sitThrough_146 (by decide) ?_
          refine s_iinc (ls' := [_, _, _, _, _]) E dX8_sitThrough_223 rfl rfl ?_
          refine s_goto E 65 dX8_sitThrough_226 (by decide) ?_
          have ea : absM M = fAsk (M0 81 (i + 1) - 97) (M0 81 (i + 2) - 97) (M0 79 2) (absM M) :=  (if_neg (by rintro ⟨q1, q2⟩; exact h116 q1)).symm
          refine ih f M (i + 1 + 2) _ _ _ (by omega) (by omega) (by omega) ?_ (g3) ?_ ?_
          · rw [ea]
            exact (g2.ask hak).mono (by omega) (by omega)
          · rcases pt with q | q | q
            · first | exact q.2.2.2.2 | (exfalso; omega)
            · first | exact q.2.2.2.2 | (exfalso; omega)
            · first | (rw [show i + 1 + 2 = i + 3 by omega]; exact q.2.2.2.2.2.2.2) | (exfalso; omega)
          · rw [ea, ← g5, if_pos (show M0 81 i = 63 by omega)]
            unfold fPart
            rw [if_neg (by omega), if_neg (by omega), if_pos (by omega), show i + 1 + 2 = i + 3 by omega]
        · refine s_aload_n E dX8_sitThrough_119 rfl ?_
          refine s_iload E dX8_sitThrough_120 rfl ?_
          refine s_callVi E (c_X8_listens M _ (9 * i) (by omega) g2) dX8_sitThrough_122 mf_X8_listens ml_X8_91 rfl (Nat.le_of_ble_eq_true rfl) (Nat.le_of_ble_eq_true rfl) (by decide) sh79 rfl rfl (fun r122 M122 h122 => ?_)
          obtain ⟨e122, f122⟩ := h122; subst r122; subst M122
          refine s_ifeqB E 143 dX8_sitThrough_125 (by decide) (fun h125 => ?_) (fun h125 => ?_)
          · refine s_iinc (ls' := [_, _, _, _, _]) E dX8_sitThrough_143 rfl rfl ?_
            refine s_goto E 223 dX8_sitThrough_146 (by decide) ?_
            refine s_iinc (ls' := [_, _, _, _, _]) E dX8_sitThrough_223 rfl rfl ?_
            refine s_goto E 65 dX8_sitThrough_226 (by decide) ?_
            have ea : absM M = fAsk (M0 81 (i + 1) - 97) (M0 81 (i + 2) - 97) (M0 79 2) (absM M) :=  (if_neg (by rintro ⟨q1, q2⟩; exact h125 q2)).symm
            refine ih f M (i + 1 + 2) _ _ _ (by omega) (by omega) (by omega) ?_ (g3) ?_ ?_
            · rw [ea]
              exact (g2.ask hak).mono (by omega) (by omega)
            · rcases pt with q | q | q
              · first | exact q.2.2.2.2 | (exfalso; omega)
              · first | exact q.2.2.2.2 | (exfalso; omega)
              · first | (rw [show i + 1 + 2 = i + 3 by omega]; exact q.2.2.2.2.2.2.2) | (exfalso; omega)
            · rw [ea, ← g5, if_pos (show M0 81 i = 63 by omega)]
              unfold fPart
              rw [if_neg (by omega), if_neg (by omega), if_pos (by omega), show i + 1 + 2 = i + 3 by omega]
          · refine s_aload_n E dX8_sitThrough_128 rfl ?_
            refine s_getR (kf := 8) E dX8_sitThrough_129 rfl inb_X8 (Nat.le_of_ble_eq_true rfl) fl_X8_29 (by decide) sh79 rfl ?_
            refine s_iconst E dX8_sitThrough_132 ?_
            refine s_iload E dX8_sitThrough_133 rfl ?_
            refine s_imul E dX8_sitThrough_135 ?_
            refine s_iconst E dX8_sitThrough_136 ?_
            refine s_iadd E dX8_sitThrough_137 ?_
            refine s_aload_n E dX8_sitThrough_138 rfl ?_
            refine s_getI (kf := 2) E 2 rfl dX8_sitThrough_139 rfl inb_X8 (Nat.le_of_ble_eq_true rfl) fl_X8_17 (by decide) sh79 rfl ?_
            rw [g3 79 2 (by decide) (by decide)]
            refine s_iast E dX8_sitThrough_142 (by decide) sh84 (Nat.le_of_ble_eq_true rfl) (by omega) ?_
            refine s_iinc (ls' := [_, _, _, _, _]) E dX8_sitThrough_143 rfl rfl ?_
            refine s_goto E 223 dX8_sitThrough_146 (by decide) ?_
            refine s_iinc (ls' := [_, _, _, _, _]) E dX8_sitThrough_223 rfl rfl ?_
            refine s_goto E 65 dX8_sitThrough_226 (by decide) ?_
            have ea : absM (upm M 84 (4 * (M0 81 (i + 2) - 97) + 3) (M0 79 2)) = fAsk (M0 81 (i + 1) - 97) (M0 81 (i + 2) - 97) (M0 79 2) (absM M) :=  by rw [absM_up3 (by omega)]; exact (if_pos ⟨h116, h125⟩).symm
            refine ih f (upm M 84 (4 * (M0 81 (i + 2) - 97) + 3) (M0 79 2)) (i + 1 + 2) _ _ _ (by omega) (by omega) (by omega) ?_ (g3.up (by decide)) ?_ ?_
            · rw [ea]
              exact (g2.ask hak).mono (by omega) (by omega)
            · rcases pt with q | q | q
              · first | exact q.2.2.2.2 | (exfalso; omega)
              · first | exact q.2.2.2.2 | (exfalso; omega)
              · first | (rw [show i + 1 + 2 = i + 3 by omega]; exact q.2.2.2.2.2.2.2) | (exfalso; omega)
            · rw [ea, ← g5, if_pos (show M0 81 i = 63 by omega)]
              unfold fPart
              rw [if_neg (by omega), if_neg (by omega), if_pos (by omega), show i + 1 + 2 = i + 3 by omega]

set_option maxRecDepth 100000 in
set_option maxHeartbeats 4000000 in
theorem lp_X8_sit_b {v : Ev} {as : List Nat} (M : Mm) (hp : PadOK (M 81) (M 79 3)) (hf : sFault (M 81) (M 79 3) = -6) (hco : 0 ≤ M 79 1 ∧ M 79 1 ≤ 99) (hak : 0 ≤ M 79 2 ∧ M 79 2 ≤ 99) (hs : ∀ k, 0 ≤ k → k < 6 → 0 ≤ M 80 (4 * k) ∧ M 80 (4 * k) ≤ 999 ∧ 0 ≤ M 80 (4 * k + 1) ∧ M 80 (4 * k + 1) ≤ 1 ∧ 0 ≤ M 80 (4 * k + 2) ∧ M 80 (4 * k + 2) ≤ 1 ∧ 0 ≤ M 80 (4 * k + 3) ∧ M 80 (4 * k + 3) ≤ 99) (E : Cx v cX8_sitThrough 5 yX8_sitThrough.cls 4) (hret : RetV v as cX8_sitThrough (fun M' => absM M' = fRun (M 81) (M 79 3) (M 79 1) (M 79 2) 40 0 (sit0 (fun w k => M 80 (4 * k + w))) ∧ KpM M M')) : ∀ (N : Nat) (M1 : Mm) (i : Int) (o2 o3 o4 : Option Vv), (6 - i).toNat < N → (0 ≤ i ∧ i ≤ 6) → (∀ a b, M1 a b = if a = 84 ∧ 0 ≤ b ∧ b < 24 then M 80 b else if a = 85 ∧ 0 ≤ b ∧ b < i then 0 else M a b) → Ws v as SH 0 0 28 [some (rv 79), some (iv i), o2, o3, o4] [] M1 := by
  intro N
  induction N with
  | zero =>
    intro M1 i o2 o3 o4 hN
    exact absurd hN (Nat.not_lt_zero _)
  | succ N ih =>
    intro M1 i o2 o3 o4 hN g0 g1
    refine s_iload_n E dX8_sitThrough_28 rfl ?_
    refine s_bipush E dX8_sitThrough_29 rfl ?_
    refine s_icmp_ge E 47 dX8_sitThrough_31 (by decide) (by omega) (by omega) (fun h31 => ?_) (fun h31 => ?_)
    · refine s_aload_n E dX8_sitThrough_47 rfl ?_
      refine s_iconst E dX8_sitThrough_48 ?_
      refine s_putI (kf := 10) E 10 rfl dX8_sitThrough_49 rfl inb_X8 tyX8_ok nmX8 (Nat.le_of_ble_eq_true rfl) ⟨rfl, rfl⟩ fl_X8_97 (by decide) sh79 rfl ?_
      refine s_aload_n E dX8_sitThrough_52 rfl ?_
      refine s_iconst E dX8_sitThrough_53 ?_
      refine s_putI (kf := 11) E 11 rfl dX8_sitThrough_54 rfl inb_X8 tyX8_ok nmX8 (Nat.le_of_ble_eq_true rfl) ⟨rfl, rfl⟩ fl_X8_94 (by decide) sh79 rfl ?_
      refine s_aload_n E dX8_sitThrough_57 rfl ?_
      refine s_bipush E dX8_sitThrough_58 rfl ?_
      refine s_putI (kf := 12) E 12 rfl dX8_sitThrough_60 rfl inb_X8 tyX8_ok nmX8 (Nat.le_of_ble_eq_true rfl) ⟨rfl, rfl⟩ fl_X8_100 (by decide) sh79 rfl ?_
      refine s_iconst E dX8_sitThrough_63 ?_
      refine s_istore_n (ls' := [_, _, _, _, _]) E dX8_sitThrough_64 (Nat.le_of_ble_eq_true rfl) rfl ?_
      obtain rfl : i = 6 := by omega
      have e0 : absM (upm (upm (upm M1 79 10 0) 79 11 0) 79 12 (-6)) = sit0 (fun w k => M 80 (4 * k + w)) := by
        rw [absM_uf2, absM_uf1, absM_uf0]
        have e84 : ∀ b, 0 ≤ b → b < 24 → M1 84 b = M 80 b := fun b h1 h2 => by rw [g1, if_pos ⟨rfl, h1, h2⟩]
        have e85 : ∀ b, 0 ≤ b → b < 6 → M1 85 b = 0 := fun b h1 h2 => by rw [g1, if_neg (by omega), if_pos ⟨rfl, h1, h2⟩]
        funext w k
        dsimp only [absM, upm, sit0]
        by_cases c1 : w = 5
        · subst c1
          by_cases c2 : k = 0 <;> by_cases c3 : k = 1 <;> by_cases c4 : k = 2 <;> simp [c2, c3, c4] <;> omega
        · (repeat' split) <;> first | rfl | omega | exact e84 _ (by omega) (by omega) | exact e85 _ (by omega) (by omega)
      have k0 : KpM M (upm (upm (upm M1 79 10 0) 79 11 0) 79 12 (-6)) := by
        refine KpM.upf (KpM.upf (KpM.upf (fun a b q w => ?_) (by decide)) (by decide)) (by decide)
        rw [g1, if_neg (by omega), if_neg (by omega)]
      have hp0 := hp.1; have hp1 := hp.2.1
      exact lp_X8_sit M _ hp hco hak E hret 41 40 _ 0 _ _ _ (by decide) (by omega) (by omega) (by rw [e0]; exact SB_sit0 (fun k h1 h2 => by have := hs k h1 h2; simpa using this)) k0 (by rw [Int.sub_zero]; exact hf) (by rw [e0])
    · refine s_aload_n E dX8_sitThrough_34 rfl ?_
      refine s_getR (kf := 9) E dX8_sitThrough_35 rfl inb_X8 (Nat.le_of_ble_eq_true rfl) fl_X8_32 (by decide) sh79 rfl ?_
      refine s_iload_n E dX8_sitThrough_38 rfl ?_
      refine s_iconst E dX8_sitThrough_39 ?_
      refine s_iast E dX8_sitThrough_40 (by decide) sh85 (Nat.le_of_ble_eq_true rfl) (by omega) ?_
      refine s_iinc (ls' := [_, _, _, _, _]) E dX8_sitThrough_41 rfl rfl ?_
      refine s_goto E 28 dX8_sitThrough_44 (by decide) ?_
      refine ih _ _ _ _ _ (by omega) (by omega) (fun a b => ?_)
      unfold upm
      rw [g1 a b]
      (repeat' split) <;> first | rfl | omega

set_option maxRecDepth 100000 in
set_option maxHeartbeats 4000000 in
theorem lp_X8_sit_a {v : Ev} {as : List Nat} (M : Mm) (hp : PadOK (M 81) (M 79 3)) (hf : sFault (M 81) (M 79 3) = -6) (hco : 0 ≤ M 79 1 ∧ M 79 1 ≤ 99) (hak : 0 ≤ M 79 2 ∧ M 79 2 ≤ 99) (hs : ∀ k, 0 ≤ k → k < 6 → 0 ≤ M 80 (4 * k) ∧ M 80 (4 * k) ≤ 999 ∧ 0 ≤ M 80 (4 * k + 1) ∧ M 80 (4 * k + 1) ≤ 1 ∧ 0 ≤ M 80 (4 * k + 2) ∧ M 80 (4 * k + 2) ≤ 1 ∧ 0 ≤ M 80 (4 * k + 3) ∧ M 80 (4 * k + 3) ≤ 99) (E : Cx v cX8_sitThrough 5 yX8_sitThrough.cls 4) (hret : RetV v as cX8_sitThrough (fun M' => absM M' = fRun (M 81) (M 79 3) (M 79 1) (M 79 2) 40 0 (sit0 (fun w k => M 80 (4 * k + w))) ∧ KpM M M')) : ∀ (N : Nat) (M1 : Mm) (i : Int) (o2 o3 o4 : Option Vv), (24 - i).toNat < N → (0 ≤ i ∧ i ≤ 24) → (∀ a b, M1 a b = if a = 84 ∧ 0 ≤ b ∧ b < i then M 80 b else M a b) → Ws v as SH 0 0 2 [some (rv 79), some (iv i), o2, o3, o4] [] M1 := by
  intro N
  induction N with
  | zero =>
    intro M1 i o2 o3 o4 hN
    exact absurd hN (Nat.not_lt_zero _)
  | succ N ih =>
    intro M1 i o2 o3 o4 hN g0 g1
    refine s_iload_n E dX8_sitThrough_2 rfl ?_
    refine s_bipush E dX8_sitThrough_3 rfl ?_
    refine s_icmp_ge E 26 dX8_sitThrough_5 (by decide) (by omega) (by omega) (fun h5 => ?_) (fun h5 => ?_)
    · refine s_iconst E dX8_sitThrough_26 ?_
      refine s_istore_n (ls' := [_, _, _, _, _]) E dX8_sitThrough_27 (Nat.le_of_ble_eq_true rfl) rfl ?_
      obtain rfl : i = 24 := by omega
      exact lp_X8_sit_b M hp hf hco hak hs E hret 7 _ 0 _ _ _ (by decide) (by decide) (fun a b => by rw [g1]; (repeat' split) <;> first | rfl | omega)
    · refine s_aload_n E dX8_sitThrough_8 rfl ?_
      refine s_getR (kf := 8) E dX8_sitThrough_9 rfl inb_X8 (Nat.le_of_ble_eq_true rfl) fl_X8_29 (by decide) sh79 rfl ?_
      refine s_iload_n E dX8_sitThrough_12 rfl ?_
      refine s_aload_n E dX8_sitThrough_13 rfl ?_
      refine s_getR (kf := 0) E dX8_sitThrough_14 rfl inb_X8 (Nat.le_of_ble_eq_true rfl) fl_X8_7 (by decide) sh79 rfl ?_
      refine s_iload_n E dX8_sitThrough_17 rfl ?_
      refine s_iald E dX8_sitThrough_18 (by decide) sh80 (Nat.le_of_ble_eq_true rfl) (by omega) ?_
      rw [g1 80 i, if_neg (by omega)]
      refine s_iast E dX8_sitThrough_19 (by decide) sh84 (Nat.le_of_ble_eq_true rfl) (by omega) ?_
      refine s_iinc (ls' := [_, _, _, _, _]) E dX8_sitThrough_20 rfl rfl ?_
      refine s_goto E 2 dX8_sitThrough_23 (by decide) ?_
      refine ih _ _ _ _ _ (by omega) (by omega) (fun a b => ?_)
      unfold upm
      rw [g1 a b]
      by_cases c : a = 84 ∧ b = i
      · rw [if_pos c, if_pos (by omega), c.2]
      · rw [if_neg c]
        (repeat' split) <;> first | rfl | omega

set_option maxRecDepth 100000 in
set_option maxHeartbeats 4000000 in
theorem c_X8_sitThrough (M : Mm) (hp : PadOK (M 81) (M 79 3)) (hf : sFault (M 81) (M 79 3) = -6) (hco : 0 ≤ M 79 1 ∧ M 79 1 ≤ 99) (hak : 0 ≤ M 79 2 ∧ M 79 2 ≤ 99) (hs : ∀ k, 0 ≤ k → k < 6 → 0 ≤ M 80 (4 * k) ∧ M 80 (4 * k) ≤ 999 ∧ 0 ≤ M 80 (4 * k + 1) ∧ M 80 (4 * k + 1) ≤ 1 ∧ 0 ≤ M 80 (4 * k + 2) ∧ M 80 (4 * k + 2) ≤ 1 ∧ 0 ≤ M 80 (4 * k + 3) ∧ M 80 (4 * k + 3) ≤ 99) : CtV yX8_sitThrough cX8_sitThrough 5 4 SH [rv 79] M (fun M' => absM M' = fRun (M 81) (M 79 3) (M 79 1) (M 79 2) 40 0 (sit0 (fun w k => M 80 (4 * k + w))) ∧ KpM M M') := by
  refine CtV.of rfl (Nat.le_of_ble_eq_true rfl) (fun v as E hret => ?_)
  show Ws v as SH 0 0 0 [some (rv 79), none, none, none, none] [] M
  refine s_iconst E dX8_sitThrough_0 ?_
  refine s_istore_n (ls' := [_, _, _, _, _]) E dX8_sitThrough_1 (Nat.le_of_ble_eq_true rfl) rfl ?_
  exact lp_X8_sit_a M hp hf hco hak hs E hret 25 _ 0 _ _ _ (by decide) (by decide) (fun a b => (if_neg (by omega)).symm)
