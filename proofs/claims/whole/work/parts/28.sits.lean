/-! ===== sittings: the reference's walk, and the calls sits and sit ===== -/
theorem fMinute_dot {S : Mm} : fMinute 6 S = upm (fSaveN (-6) S 6) 5 0 (fSaveN (-6) S 6 5 0 + 1) := by
  rw [fMinute_eq, if_neg (by decide), fSaveN_out (b := 6) (b' := -6) (by decide) (by decide)]
theorem fMinute_sp {S : Mm} {k : Int} (h : 0 ≤ k ∧ k < 6) : fMinute k S = upm (fSaveN k (fSpeak S k) 6) 5 0 (fSaveN k (fSpeak S k) 6 5 0 + 1) := by
  rw [fMinute_eq, if_pos h]

set_option maxRecDepth 100000 in
set_option maxHeartbeats 4000000 in
theorem lp_X8_sit_in {v : Ev} {as : List Nat} (M0 T : Mm) (i s w sp q : Int) (hi : 0 ≤ i ∧ i < 39) (hd : 1 ≤ M0 81 (i + 1) - 48 ∧ M0 81 (i + 1) - 48 ≤ 9) (hs : (s = 46 ∧ sp = 6) ∨ ((97 ≤ s ∧ s < 103) ∧ sp = s - 97)) (hq : 0 ≤ q ∧ q ≤ 90000) (E : Cx v cX8_sitThrough 5 yX8_sitThrough.cls 4) (hret : ∀ (M : Mm) (o4 : Option Vv), absM M = T → KpM M0 M → Ws v as SH 0 0 223 [some (rv 79), some (iv i), some (iv s), some (iv w), o4] [] M) : ∀ (N : Nat) (M : Mm) (t : Int), (M0 81 (i + 1) - 48 - t).toNat < N → (0 ≤ t ∧ t ≤ M0 81 (i + 1) - 48) → (SB (absM M) (q + t)) → (KpM M0 M) → (fLast sp (M0 81 (i + 1) - 48 - t).toNat (absM M) = T) → Ws v as SH 0 0 168 [some (rv 79), some (iv i), some (iv s), some (iv w), some (iv t)] [] M := by
  intro N
  induction N with
  | zero =>
    intro M t hN
    exact absurd hN (Nat.not_lt_zero _)
  | succ N ih =>
    intro M t hN g0 g1 g2 g3
    have k81 : M 81 = M0 81 := funext (fun j => g2 81 j (by decide) (by omega))
    refine s_iload E dX8_sitThrough_168 rfl ?_
    refine s_aload_n E dX8_sitThrough_170 rfl ?_
    refine s_getR (kf := 4) E dX8_sitThrough_171 rfl inb_X8 (Nat.le_of_ble_eq_true rfl) fl_X8_20 (by decide) sh79 rfl ?_
    refine s_iload_n E dX8_sitThrough_174 rfl ?_
    refine s_iconst E dX8_sitThrough_175 ?_
    refine s_iadd E dX8_sitThrough_176 ?_
    refine s_iald E dX8_sitThrough_177 (by decide) sh81 (Nat.le_of_ble_eq_true rfl) (by omega) ?_
    rw [k81]
    refine s_bipush E dX8_sitThrough_178 rfl ?_
    refine s_isub E dX8_sitThrough_180 ?_
    refine s_icmp_ge E 223 dX8_sitThrough_181 (by decide) (by omega) (by omega) (fun h181 => ?_) (fun h181 => ?_)
    · exact hret M _ (by rw [← g3, fLast_end (by omega)]) g2
    · have hb := g1
      refine s_iload_n E dX8_sitThrough_184 rfl ?_
      refine s_bipush E dX8_sitThrough_185 rfl ?_
      refine s_icmp_ne E 199 dX8_sitThrough_187 (by decide) (by omega) (by omega) (fun h187 => ?_) (fun h187 => ?_)
      · refine s_aload_n E dX8_sitThrough_199 rfl ?_
        refine s_iload_n E dX8_sitThrough_200 rfl ?_
        refine s_bipush E dX8_sitThrough_201 rfl ?_
        refine s_isub E dX8_sitThrough_203 ?_
        refine s_callVv E (c_X8_speak M (s - 97) (q + t) (by omega) g1 (by omega)) dX8_sitThrough_204 mf_X8_speak ml_X8_111 rfl (Nat.le_of_ble_eq_true rfl) (Nat.le_of_ble_eq_true rfl) (by decide) sh79 rfl rfl (fun M204 h204 => ?_)
        obtain ⟨e204, f204⟩ := h204
        refine s_aload_n E dX8_sitThrough_207 rfl ?_
        refine s_dup E dX8_sitThrough_208 ?_
        refine s_getI (kf := 10) E 10 rfl dX8_sitThrough_209 rfl inb_X8 (Nat.le_of_ble_eq_true rfl) fl_X8_97 (by decide) sh79 rfl ?_
        refine s_iconst E dX8_sitThrough_212 ?_
        refine s_iadd E dX8_sitThrough_213 ?_
        refine s_putI (kf := 10) E 10 rfl dX8_sitThrough_214 rfl inb_X8 tyX8_ok nmX8 (Nat.le_of_ble_eq_true rfl) ⟨rfl, rfl⟩ fl_X8_97 (by decide) sh79 rfl ?_
        refine s_iinc (ls' := [_, _, _, _, _]) E dX8_sitThrough_217 rfl rfl ?_
        refine s_goto E 168 dX8_sitThrough_220 (by decide) ?_
        have hm : absM (upm M204 79 10 (M204 79 10 + 1)) = fMinute sp (absM M) := by
          rw [absM_uf0, ← absM_rf0 (M := M204), e204, show sp = s - 97 by omega, fMinute_sp (by omega)]
        refine ih _ _ (by omega) (by omega) ?_ ((g2.tr f204).upf (by decide)) ?_
        · rw [hm, show q + (t + 1) = q + t + 1 by omega]
          exact g1.minute (by omega)
        · rw [hm, ← g3]
          exact (fLast_step (by omega)).symm
      · refine s_aload_n E dX8_sitThrough_190 rfl ?_
        refine s_bipush E dX8_sitThrough_191 rfl ?_
        refine s_callVv E (c_X8_save M (-6) (q + t) (by decide) g1) dX8_sitThrough_193 mf_X8_save ml_X8_103 rfl (Nat.le_of_ble_eq_true rfl) (Nat.le_of_ble_eq_true rfl) (by decide) sh79 rfl rfl (fun M193 h193 => ?_)
        obtain ⟨e193, f193⟩ := h193
        refine s_goto E 207 dX8_sitThrough_196 (by decide) ?_
        refine s_aload_n E dX8_sitThrough_207 rfl ?_
        refine s_dup E dX8_sitThrough_208 ?_
        refine s_getI (kf := 10) E 10 rfl dX8_sitThrough_209 rfl inb_X8 (Nat.le_of_ble_eq_true rfl) fl_X8_97 (by decide) sh79 rfl ?_
        refine s_iconst E dX8_sitThrough_212 ?_
        refine s_iadd E dX8_sitThrough_213 ?_
        refine s_putI (kf := 10) E 10 rfl dX8_sitThrough_214 rfl inb_X8 tyX8_ok nmX8 (Nat.le_of_ble_eq_true rfl) ⟨rfl, rfl⟩ fl_X8_97 (by decide) sh79 rfl ?_
        refine s_iinc (ls' := [_, _, _, _, _]) E dX8_sitThrough_217 rfl rfl ?_
        refine s_goto E 168 dX8_sitThrough_220 (by decide) ?_
        have hm : absM (upm M193 79 10 (M193 79 10 + 1)) = fMinute sp (absM M) := by
          rw [absM_uf0, ← absM_rf0 (M := M193), e193, show sp = 6 by omega, fMinute_dot]
        refine ih _ _ (by omega) (by omega) ?_ ((g2.tr f193).upf (by decide)) ?_
        · rw [hm, show q + (t + 1) = q + t + 1 by omega]
          exact g1.minute (by omega)
        · rw [hm, ← g3]
          exact (fLast_step (by omega)).symm

set_option maxRecDepth 100000 in
set_option maxHeartbeats 4000000 in
theorem lp_X8_sit {v : Ev} {as : List Nat} (M0 T : Mm) (hp : PadOK (M0 81) (M0 79 3)) (hco : 0 ≤ M0 79 1 ∧ M0 79 1 ≤ 99) (hak : 0 ≤ M0 79 2 ∧ M0 79 2 ≤ 99) (E : Cx v cX8_sitThrough 5 yX8_sitThrough.cls 4) (hret : RetV v as cX8_sitThrough (fun M' => absM M' = T ∧ KpM M0 M' ∧ SB (absM M') 400)) : ∀ (N : Nat) (f : Nat) (M : Mm) (i : Int) (o2 o3 o4 : Option Vv), f < N → (0 ≤ i ∧ i ≤ M0 79 3) → ((M0 79 3 - i).toNat ≤ f) → (SB (absM M) (9 * i)) → (KpM M0 M) → (sfl (M0 81) (M0 79 3 - i).toNat i 0 = -6) → (fRun (M0 81) (M0 79 3) (M0 79 1) (M0 79 2) f i (absM M) = T) → Ws v as SH 0 0 65 [some (rv 79), some (iv i), o2, o3, o4] [] M := by
  intro N
  induction N with
  | zero =>
    intro f M i o2 o3 o4 hN
    exact absurd hN (Nat.not_lt_zero _)
  | succ N ih =>
    intro f M i o2 o3 o4 hN g0 g1 g2 g3 g4 g5
    have hp0 := hp.1; have hp1 := hp.2.1; have hp2 := hp.2.2
    have k1 := g3 79 3 (by decide) (by decide)
    have k81 : M 81 = M0 81 := funext (fun j => g3 81 j (by decide) (by omega))
    refine s_iload_n E dX8_sitThrough_65 rfl ?_
    refine s_aload_n E dX8_sitThrough_66 rfl ?_
    refine s_getI (kf := 3) E 3 rfl dX8_sitThrough_67 rfl inb_X8 (Nat.le_of_ble_eq_true rfl) fl_X8_75 (by decide) sh79 rfl ?_
    rw [k1]
    refine s_icmp_ge E 229 dX8_sitThrough_70 (by decide) (by omega) (by omega) (fun h70 => ?_) (fun h70 => ?_)
    · refine hret _ ?_ _ _ dX8_sitThrough_229
      exact ⟨by rw [← g5, fRun_end (by omega)], g3, g2.mono (by omega) (by omega)⟩
    · have pt := part_ok g0.1 (by omega) g4
      have b0 := hp2 i (by omega) (by omega)
      have b1 := hp2 (i + 1) (by omega) (by omega)
      obtain ⟨f, rfl⟩ : ∃ q, f = q + 1 := ⟨f - 1, by omega⟩
      rw [fRun_step (by omega)] at g5
      have hb := g2
      refine s_aload_n E dX8_sitThrough_73 rfl ?_
      refine s_getR (kf := 4) E dX8_sitThrough_74 rfl inb_X8 (Nat.le_of_ble_eq_true rfl) fl_X8_20 (by decide) sh79 rfl ?_
      refine s_iload_n E dX8_sitThrough_77 rfl ?_
      refine s_iald E dX8_sitThrough_78 (by decide) sh81 (Nat.le_of_ble_eq_true rfl) (by omega) ?_
      rw [k81]
      refine s_istore_n (ls' := [_, _, _, _, _]) E dX8_sitThrough_79 (Nat.le_of_ble_eq_true rfl) rfl ?_
      refine s_aload_n E dX8_sitThrough_80 rfl ?_
      refine s_getR (kf := 4) E dX8_sitThrough_81 rfl inb_X8 (Nat.le_of_ble_eq_true rfl) fl_X8_20 (by decide) sh79 rfl ?_
      refine s_iload_n E dX8_sitThrough_84 rfl ?_
      refine s_iconst E dX8_sitThrough_85 ?_
      refine s_iadd E dX8_sitThrough_86 ?_
      refine s_iald E dX8_sitThrough_87 (by decide) sh81 (Nat.le_of_ble_eq_true rfl) (by omega) ?_
      rw [k81]
      refine s_bipush E dX8_sitThrough_88 rfl ?_
      refine s_isub E dX8_sitThrough_90 ?_
      refine s_istore_n (ls' := [_, _, _, _, _]) E dX8_sitThrough_91 (Nat.le_of_ble_eq_true rfl) rfl ?_
      refine s_iload_n E dX8_sitThrough_92 rfl ?_
      refine s_bipush E dX8_sitThrough_93 rfl ?_
      refine s_icmp_ne E 149 dX8_sitThrough_95 (by decide) (by omega) (by omega) (fun h95 => ?_) (fun h95 => ?_)
      · refine s_iload_n E dX8_sitThrough_149 rfl ?_
        refine s_callSi E (c_X8_isAct _ _ (by omega)) dX8_sitThrough_150 mf_X8_isAct ml_X8_81 rfl (Nat.le_of_ble_eq_true rfl) (Nat.le_of_ble_eq_true rfl) rfl (fun r150 M150 h150 => ?_)
        obtain ⟨e150, f150⟩ := h150; subst r150; subst M150
        refine s_ifeqB E 165 dX8_sitThrough_153 (by decide) (fun h153 => ?_) (fun h153 => ?_)
        · refine s_iconst E dX8_sitThrough_165 ?_
          refine s_istore (ls' := [_, _, _, _, _]) E dX8_sitThrough_166 (Nat.le_of_ble_eq_true rfl) rfl ?_
          refine lp_X8_sit_in M0 (fLast (if M0 81 i = 46 then 6 else M0 81 i - 97) (M0 81 (i + 1) - 48).toNat (absM M)) i (M0 81 i) (M0 81 (i + 1) - 97) (if M0 81 i = 46 then 6 else M0 81 i - 97) (9 * i) (by omega) (by omega) (by split <;> omega) (by omega) E (fun M2 o4 e2 f2 => ?_) 10 M 0 (by omega) (by omega) (by simpa using g2) g3 (by rw [Int.sub_zero])
          refine s_iinc (ls' := [_, _, _, _, _]) E dX8_sitThrough_223 rfl rfl ?_
          refine s_goto E 65 dX8_sitThrough_226 (by decide) ?_
          refine ih f M2 (i + 2) _ _ _ (by omega) (by omega) (by omega) ?_ (f2) ?_ ?_
          · rw [e2]
            exact (SB.last g2 (by omega)).mono (by omega) (by omega)
          · rcases pt with q | q | q
            · first | exact q.2.2.2.2 | (exfalso; omega)
            · first | exact q.2.2.2.2 | (exfalso; omega)
            · first | (rw [show i + 1 + 2 = i + 3 by omega]; exact q.2.2.2.2.2.2.2) | (exfalso; omega)
          · rw [e2, ← g5, if_neg (show ¬ M0 81 i = 63 by omega)]
            unfold fPart
            rcases (show M0 81 i = 46 ∨ (97 ≤ M0 81 i ∧ M0 81 i < 103) by omega) with c | c
            · rw [if_pos c, if_pos c]
            · rw [if_neg (by omega), if_neg (by omega), if_pos c]
        · have e1 := g3 79 1 (by decide) (by decide)
          refine s_aload_n E dX8_sitThrough_156 rfl ?_
          refine s_iload_n E dX8_sitThrough_157 rfl ?_
          refine s_iload_n E dX8_sitThrough_158 rfl ?_
          refine s_callVv E (c_X8_act M _ _ (9 * i) (by omega) (by omega) (by omega) g2) dX8_sitThrough_159 mf_X8_act ml_X8_107 rfl (Nat.le_of_ble_eq_true rfl) (Nat.le_of_ble_eq_true rfl) (by decide) sh79 rfl rfl (fun M159 h159 => ?_)
          obtain ⟨e159, f159⟩ := h159
          rw [e1] at e159
          refine s_goto E 223 dX8_sitThrough_162 (by decide) ?_
          refine s_iinc (ls' := [_, _, _, _, _]) E dX8_sitThrough_223 rfl rfl ?_
          refine s_goto E 65 dX8_sitThrough_226 (by decide) ?_
          refine ih f M159 (i + 2) _ _ _ (by omega) (by omega) (by omega) ?_ (g3.tr f159) ?_ ?_
          · rw [e159]
            exact (g2.stir (by omega) hco).mono (by omega) (by omega)
          · rcases pt with q | q | q
            · first | exact q.2.2.2.2 | (exfalso; omega)
            · first | exact q.2.2.2.2 | (exfalso; omega)
            · first | (rw [show i + 1 + 2 = i + 3 by omega]; exact q.2.2.2.2.2.2.2) | (exfalso; omega)
          · rw [e159, ← g5, if_neg (show ¬ M0 81 i = 63 by omega)]
            unfold fPart
            rw [if_neg (by omega), if_neg (by omega), if_neg (by omega)]
      · refine s_aload_n E dX8_sitThrough_98 rfl ?_
        refine s_getR (kf := 4) E dX8_sitThrough_99 rfl inb_X8 (Nat.le_of_ble_eq_true rfl) fl_X8_20 (by decide) sh79 rfl ?_
        refine s_iload_n E dX8_sitThrough_102 rfl ?_
        refine s_iconst E dX8_sitThrough_103 ?_
        refine s_iadd E dX8_sitThrough_104 ?_
        refine s_iald E dX8_sitThrough_105 (by decide) sh81 (Nat.le_of_ble_eq_true rfl) (by omega) ?_
        rw [k81]
        refine s_bipush E dX8_sitThrough_106 rfl ?_
        refine s_isub E dX8_sitThrough_108 ?_
        refine s_istore (ls' := [_, _, _, _, _]) E dX8_sitThrough_109 (Nat.le_of_ble_eq_true rfl) rfl ?_
        refine s_aload_n E dX8_sitThrough_111 rfl ?_
        refine s_iload_n E dX8_sitThrough_112 rfl ?_
        refine s_callVi E (c_X8_listens M _ (9 * i) (by omega) g2) dX8_sitThrough_113 mf_X8_listens ml_X8_91 rfl (Nat.le_of_ble_eq_true rfl) (Nat.le_of_ble_eq_true rfl) (by decide) sh79 rfl rfl (fun r113 M113 h113 => ?_)
        obtain ⟨e113, f113⟩ := h113; subst r113; subst M113
        refine s_ifeqB E 143 dX8_sitThrough_116 (by decide) (fun h116 => ?_) (fun h116 => ?_)
        · refine s_iinc (ls' := [_, _, _, _, _]) E dX8_sitThrough_143 rfl rfl ?_
          refine s_goto E 223 dX8_sitThrough_146 (by decide) ?_
          refine s_iinc (ls' := [_, _, _, _, _]) E dX8_sitThrough_223 rfl rfl ?_
          refine s_goto E 65 dX8_sitThrough_226 (by decide) ?_
          have ea : absM M = fAsk (M0 81 (i + 1) - 97) (M0 81 (i + 2) - 97) (M0 79 2) (absM M) :=  (if_neg (by rintro ⟨q1, q2⟩; exact h116 q1)).symm
          refine ih f M (i + 1 + 2) _ _ _ (by omega) (by omega) (by omega) ?_ (g3) ?_ ?_
          · rw [ea]
            exact (g2.ask hak).mono (by omega) (by omega)
          · rcases pt with q | q | q
            · first | exact q.2.2.2.2 | (exfalso; omega)
            · first | exact q.2.2.2.2 | (exfalso; omega)
            · first | (rw [show i + 1 + 2 = i + 3 by omega]; exact q.2.2.2.2.2.2.2) | (exfalso; omega)
          · rw [ea, ← g5, if_pos (show M0 81 i = 63 by omega)]
            unfold fPart
            rw [if_neg (by omega), if_neg (by omega), if_pos (by omega), show i + 1 + 2 = i + 3 by omega]
        · refine s_aload_n E dX8_sitThrough_119 rfl ?_
          refine s_iload E dX8_sitThrough_120 rfl ?_
          refine s_callVi E (c_X8_listens M _ (9 * i) (by omega) g2) dX8_sitThrough_122 mf_X8_listens ml_X8_91 rfl (Nat.le_of_ble_eq_true rfl) (Nat.le_of_ble_eq_true rfl) (by decide) sh79 rfl rfl (fun r122 M122 h122 => ?_)
          obtain ⟨e122, f122⟩ := h122; subst r122; subst M122
          refine s_ifeqB E 143 dX8_sitThrough_125 (by decide) (fun h125 => ?_) (fun h125 => ?_)
          · refine s_iinc (ls' := [_, _, _, _, _]) E dX8_sitThrough_143 rfl rfl ?_
            refine s_goto E 223 dX8_sitThrough_146 (by decide) ?_
            refine s_iinc (ls' := [_, _, _, _, _]) E dX8_sitThrough_223 rfl rfl ?_
            refine s_goto E 65 dX8_sitThrough_226 (by decide) ?_
            have ea : absM M = fAsk (M0 81 (i + 1) - 97) (M0 81 (i + 2) - 97) (M0 79 2) (absM M) :=  (if_neg (by rintro ⟨q1, q2⟩; exact h125 q2)).symm
            refine ih f M (i + 1 + 2) _ _ _ (by omega) (by omega) (by omega) ?_ (g3) ?_ ?_
            · rw [ea]
              exact (g2.ask hak).mono (by omega) (by omega)
            · rcases pt with q | q | q
              · first | exact q.2.2.2.2 | (exfalso; omega)
              · first | exact q.2.2.2.2 | (exfalso; omega)
              · first | (rw [show i + 1 + 2 = i + 3 by omega]; exact q.2.2.2.2.2.2.2) | (exfalso; omega)
            · rw [ea, ← g5, if_pos (show M0 81 i = 63 by omega)]
              unfold fPart
              rw [if_neg (by omega), if_neg (by omega), if_pos (by omega), show i + 1 + 2 = i + 3 by omega]
          · refine s_aload_n E dX8_sitThrough_128 rfl ?_
            refine s_getR (kf := 8) E dX8_sitThrough_129 rfl inb_X8 (Nat.le_of_ble_eq_true rfl) fl_X8_29 (by decide) sh79 rfl ?_
            refine s_iconst E dX8_sitThrough_132 ?_
            refine s_iload E dX8_sitThrough_133 rfl ?_
            refine s_imul E dX8_sitThrough_135 ?_
            refine s_iconst E dX8_sitThrough_136 ?_
            refine s_iadd E dX8_sitThrough_137 ?_
            refine s_aload_n E dX8_sitThrough_138 rfl ?_
            refine s_getI (kf := 2) E 2 rfl dX8_sitThrough_139 rfl inb_X8 (Nat.le_of_ble_eq_true rfl) fl_X8_17 (by decide) sh79 rfl ?_
            rw [g3 79 2 (by decide) (by decide)]
            refine s_iast E dX8_sitThrough_142 (by decide) sh84 (Nat.le_of_ble_eq_true rfl) (by omega) ?_
            refine s_iinc (ls' := [_, _, _, _, _]) E dX8_sitThrough_143 rfl rfl ?_
            refine s_goto E 223 dX8_sitThrough_146 (by decide) ?_
            refine s_iinc (ls' := [_, _, _, _, _]) E dX8_sitThrough_223 rfl rfl ?_
            refine s_goto E 65 dX8_sitThrough_226 (by decide) ?_
            have ea : absM (upm M 84 (4 * (M0 81 (i + 2) - 97) + 3) (M0 79 2)) = fAsk (M0 81 (i + 1) - 97) (M0 81 (i + 2) - 97) (M0 79 2) (absM M) :=  by rw [absM_up3 (by omega)]; exact (if_pos ⟨h116, h125⟩).symm
            refine ih f (upm M 84 (4 * (M0 81 (i + 2) - 97) + 3) (M0 79 2)) (i + 1 + 2) _ _ _ (by omega) (by omega) (by omega) ?_ (g3.up (by decide)) ?_ ?_
            · rw [ea]
              exact (g2.ask hak).mono (by omega) (by omega)
            · rcases pt with q | q | q
              · first | exact q.2.2.2.2 | (exfalso; omega)
              · first | exact q.2.2.2.2 | (exfalso; omega)
              · first | (rw [show i + 1 + 2 = i + 3 by omega]; exact q.2.2.2.2.2.2.2) | (exfalso; omega)
            · rw [ea, ← g5, if_pos (show M0 81 i = 63 by omega)]
              unfold fPart
              rw [if_neg (by omega), if_neg (by omega), if_pos (by omega), show i + 1 + 2 = i + 3 by omega]

set_option maxRecDepth 100000 in
set_option maxHeartbeats 4000000 in
theorem lp_X8_sit_b {v : Ev} {as : List Nat} (M : Mm) (hp : PadOK (M 81) (M 79 3)) (hf : sFault (M 81) (M 79 3) = -6) (hco : 0 ≤ M 79 1 ∧ M 79 1 ≤ 99) (hak : 0 ≤ M 79 2 ∧ M 79 2 ≤ 99) (hs : ∀ k, 0 ≤ k → k < 6 → 0 ≤ M 80 (4 * k) ∧ M 80 (4 * k) ≤ 999 ∧ 0 ≤ M 80 (4 * k + 1) ∧ M 80 (4 * k + 1) ≤ 1 ∧ 0 ≤ M 80 (4 * k + 2) ∧ M 80 (4 * k + 2) ≤ 1 ∧ 0 ≤ M 80 (4 * k + 3) ∧ M 80 (4 * k + 3) ≤ 99) (E : Cx v cX8_sitThrough 5 yX8_sitThrough.cls 4) (hret : RetV v as cX8_sitThrough (fun M' => absM M' = fRun (M 81) (M 79 3) (M 79 1) (M 79 2) 40 0 (sit0 (fun w k => M 80 (4 * k + w))) ∧ KpM M M' ∧ SB (absM M') 400)) : ∀ (N : Nat) (M1 : Mm) (i : Int) (o2 o3 o4 : Option Vv), (6 - i).toNat < N → (0 ≤ i ∧ i ≤ 6) → (∀ a b, M1 a b = if a = 84 ∧ 0 ≤ b ∧ b < 24 then M 80 b else if a = 85 ∧ 0 ≤ b ∧ b < i then 0 else M a b) → Ws v as SH 0 0 28 [some (rv 79), some (iv i), o2, o3, o4] [] M1 := by
  intro N
  induction N with
  | zero =>
    intro M1 i o2 o3 o4 hN
    exact absurd hN (Nat.not_lt_zero _)
  | succ N ih =>
    intro M1 i o2 o3 o4 hN g0 g1
    refine s_iload_n E dX8_sitThrough_28 rfl ?_
    refine s_bipush E dX8_sitThrough_29 rfl ?_
    refine s_icmp_ge E 47 dX8_sitThrough_31 (by decide) (by omega) (by omega) (fun h31 => ?_) (fun h31 => ?_)
    · refine s_aload_n E dX8_sitThrough_47 rfl ?_
      refine s_iconst E dX8_sitThrough_48 ?_
      refine s_putI (kf := 10) E 10 rfl dX8_sitThrough_49 rfl inb_X8 tyX8_ok nmX8 (Nat.le_of_ble_eq_true rfl) ⟨rfl, rfl⟩ fl_X8_97 (by decide) sh79 rfl ?_
      refine s_aload_n E dX8_sitThrough_52 rfl ?_
      refine s_iconst E dX8_sitThrough_53 ?_
      refine s_putI (kf := 11) E 11 rfl dX8_sitThrough_54 rfl inb_X8 tyX8_ok nmX8 (Nat.le_of_ble_eq_true rfl) ⟨rfl, rfl⟩ fl_X8_94 (by decide) sh79 rfl ?_
      refine s_aload_n E dX8_sitThrough_57 rfl ?_
      refine s_bipush E dX8_sitThrough_58 rfl ?_
      refine s_putI (kf := 12) E 12 rfl dX8_sitThrough_60 rfl inb_X8 tyX8_ok nmX8 (Nat.le_of_ble_eq_true rfl) ⟨rfl, rfl⟩ fl_X8_100 (by decide) sh79 rfl ?_
      refine s_iconst E dX8_sitThrough_63 ?_
      refine s_istore_n (ls' := [_, _, _, _, _]) E dX8_sitThrough_64 (Nat.le_of_ble_eq_true rfl) rfl ?_
      obtain rfl : i = 6 := by omega
      have e0 : absM (upm (upm (upm M1 79 10 0) 79 11 0) 79 12 (-6)) = sit0 (fun w k => M 80 (4 * k + w)) := by
        rw [absM_uf2, absM_uf1, absM_uf0]
        have e84 : ∀ b, 0 ≤ b → b < 24 → M1 84 b = M 80 b := fun b h1 h2 => by rw [g1, if_pos ⟨rfl, h1, h2⟩]
        have e85 : ∀ b, 0 ≤ b → b < 6 → M1 85 b = 0 := fun b h1 h2 => by rw [g1, if_neg (by omega), if_pos ⟨rfl, h1, h2⟩]
        funext w k
        dsimp only [absM, upm, sit0]
        by_cases c1 : w = 5
        · subst c1
          by_cases c2 : k = 0 <;> by_cases c3 : k = 1 <;> by_cases c4 : k = 2 <;> simp [c2, c3, c4] <;> omega
        · (repeat' split) <;> first | rfl | omega | exact e84 _ (by omega) (by omega) | exact e85 _ (by omega) (by omega)
      have k0 : KpM M (upm (upm (upm M1 79 10 0) 79 11 0) 79 12 (-6)) := by
        refine KpM.upf (KpM.upf (KpM.upf (fun a b q w => ?_) (by decide)) (by decide)) (by decide)
        rw [g1, if_neg (by omega), if_neg (by omega)]
      have hp0 := hp.1; have hp1 := hp.2.1
      exact lp_X8_sit M _ hp hco hak E hret 41 40 _ 0 _ _ _ (by decide) (by omega) (by omega) (by rw [e0]; exact SB_sit0 (fun k h1 h2 => by have := hs k h1 h2; simpa using this)) k0 (by rw [Int.sub_zero]; exact hf) (by rw [e0])
    · refine s_aload_n E dX8_sitThrough_34 rfl ?_
      refine s_getR (kf := 9) E dX8_sitThrough_35 rfl inb_X8 (Nat.le_of_ble_eq_true rfl) fl_X8_32 (by decide) sh79 rfl ?_
      refine s_iload_n E dX8_sitThrough_38 rfl ?_
      refine s_iconst E dX8_sitThrough_39 ?_
      refine s_iast E dX8_sitThrough_40 (by decide) sh85 (Nat.le_of_ble_eq_true rfl) (by omega) ?_
      refine s_iinc (ls' := [_, _, _, _, _]) E dX8_sitThrough_41 rfl rfl ?_
      refine s_goto E 28 dX8_sitThrough_44 (by decide) ?_
      refine ih _ _ _ _ _ (by omega) (by omega) (fun a b => ?_)
      unfold upm
      rw [g1 a b]
      (repeat' split) <;> first | rfl | omega

set_option maxRecDepth 100000 in
set_option maxHeartbeats 4000000 in
theorem lp_X8_sit_a {v : Ev} {as : List Nat} (M : Mm) (hp : PadOK (M 81) (M 79 3)) (hf : sFault (M 81) (M 79 3) = -6) (hco : 0 ≤ M 79 1 ∧ M 79 1 ≤ 99) (hak : 0 ≤ M 79 2 ∧ M 79 2 ≤ 99) (hs : ∀ k, 0 ≤ k → k < 6 → 0 ≤ M 80 (4 * k) ∧ M 80 (4 * k) ≤ 999 ∧ 0 ≤ M 80 (4 * k + 1) ∧ M 80 (4 * k + 1) ≤ 1 ∧ 0 ≤ M 80 (4 * k + 2) ∧ M 80 (4 * k + 2) ≤ 1 ∧ 0 ≤ M 80 (4 * k + 3) ∧ M 80 (4 * k + 3) ≤ 99) (E : Cx v cX8_sitThrough 5 yX8_sitThrough.cls 4) (hret : RetV v as cX8_sitThrough (fun M' => absM M' = fRun (M 81) (M 79 3) (M 79 1) (M 79 2) 40 0 (sit0 (fun w k => M 80 (4 * k + w))) ∧ KpM M M' ∧ SB (absM M') 400)) : ∀ (N : Nat) (M1 : Mm) (i : Int) (o2 o3 o4 : Option Vv), (24 - i).toNat < N → (0 ≤ i ∧ i ≤ 24) → (∀ a b, M1 a b = if a = 84 ∧ 0 ≤ b ∧ b < i then M 80 b else M a b) → Ws v as SH 0 0 2 [some (rv 79), some (iv i), o2, o3, o4] [] M1 := by
  intro N
  induction N with
  | zero =>
    intro M1 i o2 o3 o4 hN
    exact absurd hN (Nat.not_lt_zero _)
  | succ N ih =>
    intro M1 i o2 o3 o4 hN g0 g1
    refine s_iload_n E dX8_sitThrough_2 rfl ?_
    refine s_bipush E dX8_sitThrough_3 rfl ?_
    refine s_icmp_ge E 26 dX8_sitThrough_5 (by decide) (by omega) (by omega) (fun h5 => ?_) (fun h5 => ?_)
    · refine s_iconst E dX8_sitThrough_26 ?_
      refine s_istore_n (ls' := [_, _, _, _, _]) E dX8_sitThrough_27 (Nat.le_of_ble_eq_true rfl) rfl ?_
      obtain rfl : i = 24 := by omega
      exact lp_X8_sit_b M hp hf hco hak hs E hret 7 _ 0 _ _ _ (by decide) (by decide) (fun a b => by rw [g1]; (repeat' split) <;> first | rfl | omega)
    · refine s_aload_n E dX8_sitThrough_8 rfl ?_
      refine s_getR (kf := 8) E dX8_sitThrough_9 rfl inb_X8 (Nat.le_of_ble_eq_true rfl) fl_X8_29 (by decide) sh79 rfl ?_
      refine s_iload_n E dX8_sitThrough_12 rfl ?_
      refine s_aload_n E dX8_sitThrough_13 rfl ?_
      refine s_getR (kf := 0) E dX8_sitThrough_14 rfl inb_X8 (Nat.le_of_ble_eq_true rfl) fl_X8_7 (by decide) sh79 rfl ?_
      refine s_iload_n E dX8_sitThrough_17 rfl ?_
      refine s_iald E dX8_sitThrough_18 (by decide) sh80 (Nat.le_of_ble_eq_true rfl) (by omega) ?_
      rw [g1 80 i, if_neg (by omega)]
      refine s_iast E dX8_sitThrough_19 (by decide) sh84 (Nat.le_of_ble_eq_true rfl) (by omega) ?_
      refine s_iinc (ls' := [_, _, _, _, _]) E dX8_sitThrough_20 rfl rfl ?_
      refine s_goto E 2 dX8_sitThrough_23 (by decide) ?_
      refine ih _ _ _ _ _ (by omega) (by omega) (fun a b => ?_)
      unfold upm
      rw [g1 a b]
      by_cases c : a = 84 ∧ b = i
      · rw [if_pos c, if_pos (by omega), c.2]
      · rw [if_neg c]
        (repeat' split) <;> first | rfl | omega

set_option maxRecDepth 100000 in
set_option maxHeartbeats 4000000 in
theorem c_X8_sitThrough (M : Mm) (hp : PadOK (M 81) (M 79 3)) (hf : sFault (M 81) (M 79 3) = -6) (hco : 0 ≤ M 79 1 ∧ M 79 1 ≤ 99) (hak : 0 ≤ M 79 2 ∧ M 79 2 ≤ 99) (hs : ∀ k, 0 ≤ k → k < 6 → 0 ≤ M 80 (4 * k) ∧ M 80 (4 * k) ≤ 999 ∧ 0 ≤ M 80 (4 * k + 1) ∧ M 80 (4 * k + 1) ≤ 1 ∧ 0 ≤ M 80 (4 * k + 2) ∧ M 80 (4 * k + 2) ≤ 1 ∧ 0 ≤ M 80 (4 * k + 3) ∧ M 80 (4 * k + 3) ≤ 99) : CtV yX8_sitThrough cX8_sitThrough 5 4 SH [rv 79] M (fun M' => absM M' = fRun (M 81) (M 79 3) (M 79 1) (M 79 2) 40 0 (sit0 (fun w k => M 80 (4 * k + w))) ∧ KpM M M' ∧ SB (absM M') 400) := by
  refine CtV.of rfl (Nat.le_of_ble_eq_true rfl) (fun v as E hret => ?_)
  show Ws v as SH 0 0 0 [some (rv 79), none, none, none, none] [] M
  refine s_iconst E dX8_sitThrough_0 ?_
  refine s_istore_n (ls' := [_, _, _, _, _]) E dX8_sitThrough_1 (Nat.le_of_ble_eq_true rfl) rfl ?_
  exact lp_X8_sit_a M hp hf hco hak hs E hret 25 _ 0 _ _ _ (by decide) (by decide) (fun a b => (if_neg (by omega)).symm)

noncomputable def SITC (M : Mm) : Mm := fRun (M 21) (M 20 1) (M 1 3) (M 1 4) 40 0 (sit0 (fun w k => M (3 + w) k))
noncomputable def SITM (M : Mm) : Mm := fRun (M 81) (M 79 3) (M 79 1) (M 79 2) 40 0 (sit0 (fun w k => M 80 (4 * k + w)))
def sitR (S : Mm) (w : Int) : Int := if w = 0 then S 5 0 else if w = 1 then S 5 2 else if w = 2 then S 5 1 else if w < 20 then S 4 (w % 10) else if w < 30 then S 0 (w % 10) else S 3 (w % 10)
theorem sfl_rng {p : Int → Int} : ∀ (f : Nat) (k st : Int), 0 ≤ k → sfl p f k st = -6 ∨ (0 ≤ sfl p f k st ∧ sfl p f k st ≤ k + f)
  | 0, k, st, h => by
    show (if st = 0 then (-6 : Int) else k) = -6 ∨ (0 ≤ (if st = 0 then (-6 : Int) else k) ∧ (if st = 0 then (-6 : Int) else k) ≤ k + ((0 : Nat) : Int))
    split <;> omega
  | f + 1, k, st, h => by
    have ih := sfl_rng (p := p) f (k + 1) (nxt st (p k) (pv p k)) (by omega)
    show (if nxt st (p k) (pv p k) = -1 then k else sfl p f (k + 1) (nxt st (p k) (pv p k))) = -6 ∨ (0 ≤ (if nxt st (p k) (pv p k) = -1 then k else sfl p f (k + 1) (nxt st (p k) (pv p k))) ∧ (if nxt st (p k) (pv p k) = -1 then k else sfl p f (k + 1) (nxt st (p k) (pv p k))) ≤ k + ((f + 1 : Nat) : Int))
    split <;> omega
theorem sFault_rng {p : Int → Int} {n : Int} (h : PadOK p n) : sFault p n = -6 ∨ (0 ≤ sFault p n ∧ sFault p n ≤ 40) := by
  have := sfl_rng (p := p) n.toNat 0 0 (by omega)
  have h0 := h.1; have h1 := h.2.1
  unfold sFault
  omega
theorem cpR_out {M : Mm} {o0 o1 n k : Int} (h : ¬ (o1 + 1 ≤ k ∧ k < o1 + 1 + n)) : cpR M o0 o1 n k = M k := funext fun _ => if_neg (fun q => h ⟨q.1, q.2.1⟩)

set_option maxRecDepth 100000 in
set_option maxHeartbeats 4000000 in
theorem c_X6_ofAll (M : Mm) (w : Int) (hw : inI w) : CtI yX6_ofAll cX6_ofAll 2 .int 1 SH [rv 22, iv w] M (fun r M' => r = (if w = 0 then M 22 2 else if w = 1 then M 22 4 else M 22 3) ∧ M' = M) := by
  refine CtI.of rfl (Nat.le_of_ble_eq_true rfl) (Or.inl rfl) (fun v as E hret => ?_)
  show Ws v as SH 0 0 0 [some (rv 22), some (iv w)] [] M
  refine s_iload_n E dX6_ofAll_0 rfl ?_
  refine s_if_ne E 11 dX6_ofAll_1 (by decide) (by omega) (fun h1 => ?_) (fun h1 => ?_)
  · refine s_iload_n E dX6_ofAll_11 rfl ?_
    refine s_iconst E dX6_ofAll_12 ?_
    refine s_icmp_ne E 23 dX6_ofAll_13 (by decide) (by omega) (by omega) (fun h13 => ?_) (fun h13 => ?_)
    · refine s_aload_n E dX6_ofAll_23 rfl ?_
      refine s_getI (kf := 3) E 3 rfl dX6_ofAll_24 rfl inb_X6 (Nat.le_of_ble_eq_true rfl) fl_X6_24 (by decide) sh22 rfl ?_
      refine hret _ _ ?_ (fun q => by cases q) _ _ dX6_ofAll_27
      exact ⟨by (repeat' split) <;> first | rfl | omega, rfl⟩
    · refine s_aload_n E dX6_ofAll_16 rfl ?_
      refine s_getI (kf := 4) E 4 rfl dX6_ofAll_17 rfl inb_X6 (Nat.le_of_ble_eq_true rfl) fl_X6_27 (by decide) sh22 rfl ?_
      refine s_goto E 27 dX6_ofAll_20 (by decide) ?_
      refine hret _ _ ?_ (fun q => by cases q) _ _ dX6_ofAll_27
      exact ⟨by (repeat' split) <;> first | rfl | omega, rfl⟩
  · refine s_aload_n E dX6_ofAll_4 rfl ?_
    refine s_getI (kf := 2) E 2 rfl dX6_ofAll_5 rfl inb_X6 (Nat.le_of_ble_eq_true rfl) fl_X6_20 (by decide) sh22 rfl ?_
    refine s_goto E 27 dX6_ofAll_8 (by decide) ?_
    refine hret _ _ ?_ (fun q => by cases q) _ _ dX6_ofAll_27
    exact ⟨by (repeat' split) <;> first | rfl | omega, rfl⟩

set_option maxRecDepth 100000 in
set_option maxHeartbeats 4000000 in
theorem c_X6_ofOne (M : Mm) (w k : Int) (hw : inI w) (hk : inI k) : CtI yX6_ofOne cX6_ofOne 3 .int 2 SH [rv 22, iv w, iv k] M (fun r M' => r = (if 0 ≤ k ∧ k < 6 then (if w = 1 then M 28 k else if w = 2 then M 24 k else M 27 k) else -6) ∧ M' = M) := by
  refine CtI.of rfl (Nat.le_of_ble_eq_true rfl) (Or.inl rfl) (fun v as E hret => ?_)
  show Ws v as SH 0 0 0 [some (rv 22), some (iv w), some (iv k)] [] M
  refine s_iload_n E dX6_ofOne_0 rfl ?_
  refine s_callSNi E (c_X7_isOne _ _ (by omega)) dX6_ofOne_1 mf_X7_isOne ml_X6_66 rfl (Nat.le_of_ble_eq_true rfl) (Nat.le_of_ble_eq_true rfl) rfl (fun r1 M1 h1 => ?_)
  obtain ⟨e1, f1⟩ := h1; subst r1; subst M1
  refine s_ifneB E 10 dX6_ofOne_4 (by decide) (fun h4 => ?_) (fun h4 => ?_)
  · refine s_iload_n E dX6_ofOne_10 rfl ?_
    refine s_iconst E dX6_ofOne_11 ?_
    refine s_icmp_ne E 24 dX6_ofOne_12 (by decide) (by omega) (by omega) (fun h12 => ?_) (fun h12 => ?_)
    · refine s_aload_n E dX6_ofOne_24 rfl ?_
      refine s_getR (kf := 0) E dX6_ofOne_25 rfl inb_X6 (Nat.le_of_ble_eq_true rfl) fl_X6_11 (by decide) sh22 rfl ?_
      refine s_iload_n E dX6_ofOne_28 rfl ?_
      refine s_iconst E dX6_ofOne_29 ?_
      refine s_icmp_ne E 37 dX6_ofOne_30 (by decide) (by omega) (by omega) (fun h30 => ?_) (fun h30 => ?_)
      · refine s_iconst E dX6_ofOne_37 ?_
        refine s_aald (kd := 0) (r := 27) E dX6_ofOne_38 (by decide) sh23 (Nat.le_of_ble_eq_true rfl) (by decide) rfl ?_
        refine s_iload_n E dX6_ofOne_39 rfl ?_
        refine s_iald E dX6_ofOne_40 (by decide) sh27 (Nat.le_of_ble_eq_true rfl) (by omega) ?_
        refine hret _ _ ?_ (fun q => by cases q) _ _ dX6_ofOne_41
        exact ⟨by (repeat' split) <;> first | rfl | omega, rfl⟩
      · refine s_iconst E dX6_ofOne_33 ?_
        refine s_goto E 38 dX6_ofOne_34 (by decide) ?_
        refine s_aald (kd := 0) (r := 24) E dX6_ofOne_38 (by decide) sh23 (Nat.le_of_ble_eq_true rfl) (by decide) rfl ?_
        refine s_iload_n E dX6_ofOne_39 rfl ?_
        refine s_iald E dX6_ofOne_40 (by decide) sh24 (Nat.le_of_ble_eq_true rfl) (by omega) ?_
        refine hret _ _ ?_ (fun q => by cases q) _ _ dX6_ofOne_41
        exact ⟨by (repeat' split) <;> first | rfl | omega, rfl⟩
    · refine s_aload_n E dX6_ofOne_15 rfl ?_
      refine s_getR (kf := 1) E dX6_ofOne_16 rfl inb_X6 (Nat.le_of_ble_eq_true rfl) fl_X6_16 (by decide) sh22 rfl ?_
      refine s_iload_n E dX6_ofOne_19 rfl ?_
      refine s_iald E dX6_ofOne_20 (by decide) sh28 (Nat.le_of_ble_eq_true rfl) (by omega) ?_
      refine s_goto E 41 dX6_ofOne_21 (by decide) ?_
      refine hret _ _ ?_ (fun q => by cases q) _ _ dX6_ofOne_41
      exact ⟨by (repeat' split) <;> first | rfl | omega, rfl⟩
  · refine s_bipush E dX6_ofOne_7 rfl ?_
    refine hret _ _ ?_ (fun q => by cases q) _ _ dX6_ofOne_9
    exact ⟨by (repeat' split) <;> first | rfl | omega, rfl⟩

set_option maxRecDepth 100000 in
set_option maxHeartbeats 4000000 in
theorem c_X7_sits (M : Mm) (w : Int) (hw : inI w) (hp : PadOK (M 21) (M 20 1)) (hco : 0 ≤ M 1 3 ∧ M 1 3 ≤ 99) (hak : 0 ≤ M 1 4 ∧ M 1 4 ≤ 99) (hs : ∀ k, 0 ≤ k → k < 6 → 0 ≤ M 3 k ∧ M 3 k ≤ 999 ∧ 0 ≤ M 4 k ∧ M 4 k ≤ 1 ∧ 0 ≤ M 5 k ∧ M 5 k ≤ 1 ∧ 0 ≤ M 6 k ∧ M 6 k ≤ 99) : CtI yX7_sits cX7_sits 4 .int 7 SH [rv 0, iv w] M (fun r M' => r = (if ((0 ≤ w ∧ w ≤ 2) ∨ (10 ≤ w ∧ w < 40 ∧ w % 10 < 6)) then (if sFault (M 21) (M 20 1) = -6 then sitR (SITC M) w else -5) else -2) ∧ Kp M M') := by
  refine CtI.of rfl (Nat.le_of_ble_eq_true rfl) (Or.inl rfl) (fun v as E hret => ?_)
  show Ws v as SH 0 0 0 [some (rv 0), some (iv w), none, none] [] M
  refine s_iload_n E dX7_sits_0 rfl ?_
  refine s_if_lt E 13 dX7_sits_1 (by decide) (by omega) (fun h1 => ?_) (fun h1 => ?_)
  · refine s_iconst E dX7_sits_13 ?_
    refine s_istore_n (ls' := [_, _, _, _]) E dX7_sits_14 (Nat.le_of_ble_eq_true rfl) rfl ?_
    refine s_iload_n E dX7_sits_15 rfl ?_
    refine s_bipush E dX7_sits_16 rfl ?_
    refine s_icmp_lt E 41 dX7_sits_18 (by decide) (by omega) (by omega) (fun h18 => ?_) (fun h18 => ?_)
    · refine s_iconst E dX7_sits_41 ?_
      refine s_istore_n (ls' := [_, _, _, _]) E dX7_sits_42 (Nat.le_of_ble_eq_true rfl) rfl ?_
      refine s_iload_n E dX7_sits_43 rfl ?_
      refine s_if_ne E 54 dX7_sits_44 (by decide) (by omega) (fun h44 => ?_) (fun h44 => ?_)
      · exact absurd h44 (by decide)
      · refine s_iload_n E dX7_sits_47 rfl ?_
        refine s_if_ne E 54 dX7_sits_48 (by decide) (by omega) (fun h48 => ?_) (fun h48 => ?_)
        · exact absurd h48 (by decide)
        · refine s_bipush E dX7_sits_51 rfl ?_
          refine hret _ _ ?_ (fun q => by cases q) _ _ dX7_sits_53
          exact ⟨by (repeat' split) <;> first | rfl | omega, Kp.rf M⟩
    · refine s_iload_n E dX7_sits_21 rfl ?_
      refine s_bipush E dX7_sits_22 rfl ?_
      refine s_icmp_ge E 41 dX7_sits_24 (by decide) (by omega) (by omega) (fun h24 => ?_) (fun h24 => ?_)
      · refine s_iconst E dX7_sits_41 ?_
        refine s_istore_n (ls' := [_, _, _, _]) E dX7_sits_42 (Nat.le_of_ble_eq_true rfl) rfl ?_
        refine s_iload_n E dX7_sits_43 rfl ?_
        refine s_if_ne E 54 dX7_sits_44 (by decide) (by omega) (fun h44 => ?_) (fun h44 => ?_)
        · exact absurd h44 (by decide)
        · refine s_iload_n E dX7_sits_47 rfl ?_
          refine s_if_ne E 54 dX7_sits_48 (by decide) (by omega) (fun h48 => ?_) (fun h48 => ?_)
          · exact absurd h48 (by decide)
          · refine s_bipush E dX7_sits_51 rfl ?_
            refine hret _ _ ?_ (fun q => by cases q) _ _ dX7_sits_53
            exact ⟨by (repeat' split) <;> first | rfl | omega, Kp.rf M⟩
      · refine s_iload_n E dX7_sits_27 rfl ?_
        refine s_bipush E dX7_sits_28 rfl ?_
        refine s_irem E dX7_sits_30 (by omega) (by omega) ?_
        refine s_callSi E (c_X7_isOne _ _ (by omega)) dX7_sits_31 mf_X7_isOne ml_X7_59 rfl (Nat.le_of_ble_eq_true rfl) (Nat.le_of_ble_eq_true rfl) rfl (fun r31 M31 h31 => ?_)
        obtain ⟨e31, f31⟩ := h31; subst r31; subst M31
        refine s_ifeqB E 41 dX7_sits_34 (by decide) (fun h34 => ?_) (fun h34 => ?_)
        · refine s_iconst E dX7_sits_41 ?_
          refine s_istore_n (ls' := [_, _, _, _]) E dX7_sits_42 (Nat.le_of_ble_eq_true rfl) rfl ?_
          refine s_iload_n E dX7_sits_43 rfl ?_
          refine s_if_ne E 54 dX7_sits_44 (by decide) (by omega) (fun h44 => ?_) (fun h44 => ?_)
          · exact absurd h44 (by decide)
          · refine s_iload_n E dX7_sits_47 rfl ?_
            refine s_if_ne E 54 dX7_sits_48 (by decide) (by omega) (fun h48 => ?_) (fun h48 => ?_)
            · exact absurd h48 (by decide)
            · refine s_bipush E dX7_sits_51 rfl ?_
              refine hret _ _ ?_ (fun q => by cases q) _ _ dX7_sits_53
              exact ⟨by (repeat' split) <;> first | rfl | omega, Kp.rf M⟩
        · refine s_iconst E dX7_sits_37 ?_
          refine s_goto E 42 dX7_sits_38 (by decide) ?_
          refine s_istore_n (ls' := [_, _, _, _]) E dX7_sits_42 (Nat.le_of_ble_eq_true rfl) rfl ?_
          refine s_iload_n E dX7_sits_43 rfl ?_
          refine s_if_ne E 54 dX7_sits_44 (by decide) (by omega) (fun h44 => ?_) (fun h44 => ?_)
          · exact absurd h44 (by decide)
          · refine s_iload_n E dX7_sits_47 rfl ?_
            refine s_if_ne E 54 dX7_sits_48 (by decide) (by omega) (fun h48 => ?_) (fun h48 => ?_)
            · have hfr := sFault_rng hp
              refine s_aload_n E dX7_sits_54 rfl ?_
              refine s_getR (kf := 3) E dX7_sits_55 rfl inb_X7 (Nat.le_of_ble_eq_true rfl) fl_X7_27 (by decide) sh0 rfl ?_
              refine s_callVi E (c_X5_sittingFault _ hp) dX7_sits_58 mf_X5_sittingFault ml_X7_84 rfl (Nat.le_of_ble_eq_true rfl) (Nat.le_of_ble_eq_true rfl) (by decide) sh20 rfl rfl (fun r58 M58 h58 => ?_)
              obtain ⟨e58, f58⟩ := h58; subst r58; subst M58
              refine s_bipush E dX7_sits_61 rfl ?_
              refine s_icmp_eq E 69 dX7_sits_63 (by decide) (by omega) (by omega) (fun h63 => ?_) (fun h63 => ?_)
              · refine s_aload_n E dX7_sits_69 rfl ?_
                refine s_getR (kf := 4) E dX7_sits_70 rfl inb_X7 (Nat.le_of_ble_eq_true rfl) fl_X7_34 (by decide) sh0 rfl ?_
                refine s_aload_n E dX7_sits_73 rfl ?_
                refine s_getR (kf := 0) E dX7_sits_74 rfl inb_X7 (Nat.le_of_ble_eq_true rfl) fl_X7_10 (by decide) sh0 rfl ?_
                refine s_aload_n E dX7_sits_77 rfl ?_
                refine s_getR (kf := 3) E dX7_sits_78 rfl inb_X7 (Nat.le_of_ble_eq_true rfl) fl_X7_27 (by decide) sh0 rfl ?_
                refine s_callVv E (c_X6_run M hp (by omega) hco hak hs) dX7_sits_81 mf_X6_run ml_X7_91 rfl (Nat.le_of_ble_eq_true rfl) (Nat.le_of_ble_eq_true rfl) (by decide) sh22 rfl rfl (fun M81 h81 => ?_)
                obtain ⟨e81, f81, g81⟩ := h81
                have s0 : SITC M 5 0 = M81 22 2 := by unfold SITC; rw [← e81, absC_rf0]
                have s1 : SITC M 5 1 = M81 22 3 := by unfold SITC; rw [← e81, absC_rf1]
                have s2 : SITC M 5 2 = M81 22 4 := by unfold SITC; rw [← e81, absC_rf2]
                refine s_iload_n E dX7_sits_84 rfl ?_
                refine s_if_eq E 99 dX7_sits_85 (by decide) (by omega) (fun h85 => ?_) (fun h85 => ?_)
                · refine s_aload_n E dX7_sits_99 rfl ?_
                  refine s_getR (kf := 4) E dX7_sits_100 rfl inb_X7 (Nat.le_of_ble_eq_true rfl) fl_X7_34 (by decide) sh0 rfl ?_
                  refine s_iload_n E dX7_sits_103 rfl ?_
                  refine s_bipush E dX7_sits_104 rfl ?_
                  refine s_idiv E dX7_sits_106 (by omega) (by omega) ?_
                  refine s_iload_n E dX7_sits_107 rfl ?_
                  refine s_bipush E dX7_sits_108 rfl ?_
                  refine s_irem E dX7_sits_110 (by omega) (by omega) ?_
                  refine s_callVi E (c_X6_ofOne _ _ _ (by omega) (by omega)) dX7_sits_111 mf_X6_ofOne ml_X7_99 rfl (Nat.le_of_ble_eq_true rfl) (Nat.le_of_ble_eq_true rfl) (by decide) sh22 rfl rfl (fun r111 M111 h111 => ?_)
                  obtain ⟨e111, i111⟩ := h111; subst r111; subst M111
                  have hk : 0 ≤ w % 10 ∧ w % 10 < 6 := by omega
                  have s3 : SITC M 4 (w % 10) = M81 28 (w % 10) := by unfold SITC; rw [← e81, absC_rd4 hk]
                  have s4 : SITC M 0 (w % 10) = M81 24 (w % 10) := by unfold SITC; rw [← e81, absC_rd0 hk]
                  have s5 : SITC M 3 (w % 10) = M81 27 (w % 10) := by unfold SITC; rw [← e81, absC_rd3 hk]
                  refine hret _ _ ?_ (fun q => by cases q) _ _ dX7_sits_114
                  refine ⟨?_, f81⟩
                  unfold sitR
                  (repeat' split) <;> omega
                · exact absurd h85 (by decide)
              · refine s_bipush E dX7_sits_66 rfl ?_
                refine hret _ _ ?_ (fun q => by cases q) _ _ dX7_sits_68
                exact ⟨by (repeat' split) <;> first | rfl | omega, Kp.rf M⟩
            · exact absurd h48 (by decide)
  · refine s_iload_n E dX7_sits_4 rfl ?_
    refine s_iconst E dX7_sits_5 ?_
    refine s_icmp_gt E 13 dX7_sits_6 (by decide) (by omega) (by omega) (fun h6 => ?_) (fun h6 => ?_)
    · refine s_iconst E dX7_sits_13 ?_
      refine s_istore_n (ls' := [_, _, _, _]) E dX7_sits_14 (Nat.le_of_ble_eq_true rfl) rfl ?_
      refine s_iload_n E dX7_sits_15 rfl ?_
      refine s_bipush E dX7_sits_16 rfl ?_
      refine s_icmp_lt E 41 dX7_sits_18 (by decide) (by omega) (by omega) (fun h18 => ?_) (fun h18 => ?_)
      · refine s_iconst E dX7_sits_41 ?_
        refine s_istore_n (ls' := [_, _, _, _]) E dX7_sits_42 (Nat.le_of_ble_eq_true rfl) rfl ?_
        refine s_iload_n E dX7_sits_43 rfl ?_
        refine s_if_ne E 54 dX7_sits_44 (by decide) (by omega) (fun h44 => ?_) (fun h44 => ?_)
        · exact absurd h44 (by decide)
        · refine s_iload_n E dX7_sits_47 rfl ?_
          refine s_if_ne E 54 dX7_sits_48 (by decide) (by omega) (fun h48 => ?_) (fun h48 => ?_)
          · exact absurd h48 (by decide)
          · refine s_bipush E dX7_sits_51 rfl ?_
            refine hret _ _ ?_ (fun q => by cases q) _ _ dX7_sits_53
            exact ⟨by (repeat' split) <;> first | rfl | omega, Kp.rf M⟩
      · refine s_iload_n E dX7_sits_21 rfl ?_
        refine s_bipush E dX7_sits_22 rfl ?_
        refine s_icmp_ge E 41 dX7_sits_24 (by decide) (by omega) (by omega) (fun h24 => ?_) (fun h24 => ?_)
        · refine s_iconst E dX7_sits_41 ?_
          refine s_istore_n (ls' := [_, _, _, _]) E dX7_sits_42 (Nat.le_of_ble_eq_true rfl) rfl ?_
          refine s_iload_n E dX7_sits_43 rfl ?_
          refine s_if_ne E 54 dX7_sits_44 (by decide) (by omega) (fun h44 => ?_) (fun h44 => ?_)
          · exact absurd h44 (by decide)
          · refine s_iload_n E dX7_sits_47 rfl ?_
            refine s_if_ne E 54 dX7_sits_48 (by decide) (by omega) (fun h48 => ?_) (fun h48 => ?_)
            · exact absurd h48 (by decide)
            · refine s_bipush E dX7_sits_51 rfl ?_
              refine hret _ _ ?_ (fun q => by cases q) _ _ dX7_sits_53
              exact ⟨by (repeat' split) <;> first | rfl | omega, Kp.rf M⟩
        · refine s_iload_n E dX7_sits_27 rfl ?_
          refine s_bipush E dX7_sits_28 rfl ?_
          refine s_irem E dX7_sits_30 (by omega) (by omega) ?_
          refine s_callSi E (c_X7_isOne _ _ (by omega)) dX7_sits_31 mf_X7_isOne ml_X7_59 rfl (Nat.le_of_ble_eq_true rfl) (Nat.le_of_ble_eq_true rfl) rfl (fun r31 M31 h31 => ?_)
          obtain ⟨e31, f31⟩ := h31; subst r31; subst M31
          refine s_ifeqB E 41 dX7_sits_34 (by decide) (fun h34 => ?_) (fun h34 => ?_)
          · refine s_iconst E dX7_sits_41 ?_
            refine s_istore_n (ls' := [_, _, _, _]) E dX7_sits_42 (Nat.le_of_ble_eq_true rfl) rfl ?_
            refine s_iload_n E dX7_sits_43 rfl ?_
            refine s_if_ne E 54 dX7_sits_44 (by decide) (by omega) (fun h44 => ?_) (fun h44 => ?_)
            · exact absurd h44 (by decide)
            · refine s_iload_n E dX7_sits_47 rfl ?_
              refine s_if_ne E 54 dX7_sits_48 (by decide) (by omega) (fun h48 => ?_) (fun h48 => ?_)
              · exact absurd h48 (by decide)
              · refine s_bipush E dX7_sits_51 rfl ?_
                refine hret _ _ ?_ (fun q => by cases q) _ _ dX7_sits_53
                exact ⟨by (repeat' split) <;> first | rfl | omega, Kp.rf M⟩
          · refine s_iconst E dX7_sits_37 ?_
            refine s_goto E 42 dX7_sits_38 (by decide) ?_
            refine s_istore_n (ls' := [_, _, _, _]) E dX7_sits_42 (Nat.le_of_ble_eq_true rfl) rfl ?_
            refine s_iload_n E dX7_sits_43 rfl ?_
            refine s_if_ne E 54 dX7_sits_44 (by decide) (by omega) (fun h44 => ?_) (fun h44 => ?_)
            · exact absurd h44 (by decide)
            · refine s_iload_n E dX7_sits_47 rfl ?_
              refine s_if_ne E 54 dX7_sits_48 (by decide) (by omega) (fun h48 => ?_) (fun h48 => ?_)
              · have hfr := sFault_rng hp
                refine s_aload_n E dX7_sits_54 rfl ?_
                refine s_getR (kf := 3) E dX7_sits_55 rfl inb_X7 (Nat.le_of_ble_eq_true rfl) fl_X7_27 (by decide) sh0 rfl ?_
                refine s_callVi E (c_X5_sittingFault _ hp) dX7_sits_58 mf_X5_sittingFault ml_X7_84 rfl (Nat.le_of_ble_eq_true rfl) (Nat.le_of_ble_eq_true rfl) (by decide) sh20 rfl rfl (fun r58 M58 h58 => ?_)
                obtain ⟨e58, f58⟩ := h58; subst r58; subst M58
                refine s_bipush E dX7_sits_61 rfl ?_
                refine s_icmp_eq E 69 dX7_sits_63 (by decide) (by omega) (by omega) (fun h63 => ?_) (fun h63 => ?_)
                · refine s_aload_n E dX7_sits_69 rfl ?_
                  refine s_getR (kf := 4) E dX7_sits_70 rfl inb_X7 (Nat.le_of_ble_eq_true rfl) fl_X7_34 (by decide) sh0 rfl ?_
                  refine s_aload_n E dX7_sits_73 rfl ?_
                  refine s_getR (kf := 0) E dX7_sits_74 rfl inb_X7 (Nat.le_of_ble_eq_true rfl) fl_X7_10 (by decide) sh0 rfl ?_
                  refine s_aload_n E dX7_sits_77 rfl ?_
                  refine s_getR (kf := 3) E dX7_sits_78 rfl inb_X7 (Nat.le_of_ble_eq_true rfl) fl_X7_27 (by decide) sh0 rfl ?_
                  refine s_callVv E (c_X6_run M hp (by omega) hco hak hs) dX7_sits_81 mf_X6_run ml_X7_91 rfl (Nat.le_of_ble_eq_true rfl) (Nat.le_of_ble_eq_true rfl) (by decide) sh22 rfl rfl (fun M81 h81 => ?_)
                  obtain ⟨e81, f81, g81⟩ := h81
                  have s0 : SITC M 5 0 = M81 22 2 := by unfold SITC; rw [← e81, absC_rf0]
                  have s1 : SITC M 5 1 = M81 22 3 := by unfold SITC; rw [← e81, absC_rf1]
                  have s2 : SITC M 5 2 = M81 22 4 := by unfold SITC; rw [← e81, absC_rf2]
                  refine s_iload_n E dX7_sits_84 rfl ?_
                  refine s_if_eq E 99 dX7_sits_85 (by decide) (by omega) (fun h85 => ?_) (fun h85 => ?_)
                  · refine s_aload_n E dX7_sits_99 rfl ?_
                    refine s_getR (kf := 4) E dX7_sits_100 rfl inb_X7 (Nat.le_of_ble_eq_true rfl) fl_X7_34 (by decide) sh0 rfl ?_
                    refine s_iload_n E dX7_sits_103 rfl ?_
                    refine s_bipush E dX7_sits_104 rfl ?_
                    refine s_idiv E dX7_sits_106 (by omega) (by omega) ?_
                    refine s_iload_n E dX7_sits_107 rfl ?_
                    refine s_bipush E dX7_sits_108 rfl ?_
                    refine s_irem E dX7_sits_110 (by omega) (by omega) ?_
                    refine s_callVi E (c_X6_ofOne _ _ _ (by omega) (by omega)) dX7_sits_111 mf_X6_ofOne ml_X7_99 rfl (Nat.le_of_ble_eq_true rfl) (Nat.le_of_ble_eq_true rfl) (by decide) sh22 rfl rfl (fun r111 M111 h111 => ?_)
                    obtain ⟨e111, i111⟩ := h111; subst r111; subst M111
                    have hk : 0 ≤ w % 10 ∧ w % 10 < 6 := by omega
                    have s3 : SITC M 4 (w % 10) = M81 28 (w % 10) := by unfold SITC; rw [← e81, absC_rd4 hk]
                    have s4 : SITC M 0 (w % 10) = M81 24 (w % 10) := by unfold SITC; rw [← e81, absC_rd0 hk]
                    have s5 : SITC M 3 (w % 10) = M81 27 (w % 10) := by unfold SITC; rw [← e81, absC_rd3 hk]
                    refine hret _ _ ?_ (fun q => by cases q) _ _ dX7_sits_114
                    refine ⟨?_, f81⟩
                    unfold sitR
                    (repeat' split) <;> omega
                  · exact absurd h85 (by decide)
                · refine s_bipush E dX7_sits_66 rfl ?_
                  refine hret _ _ ?_ (fun q => by cases q) _ _ dX7_sits_68
                  exact ⟨by (repeat' split) <;> first | rfl | omega, Kp.rf M⟩
              · exact absurd h48 (by decide)
    · refine s_iconst E dX7_sits_9 ?_
      refine s_goto E 14 dX7_sits_10 (by decide) ?_
      refine s_istore_n (ls' := [_, _, _, _]) E dX7_sits_14 (Nat.le_of_ble_eq_true rfl) rfl ?_
      refine s_iload_n E dX7_sits_15 rfl ?_
      refine s_bipush E dX7_sits_16 rfl ?_
      refine s_icmp_lt E 41 dX7_sits_18 (by decide) (by omega) (by omega) (fun h18 => ?_) (fun h18 => ?_)
      · refine s_iconst E dX7_sits_41 ?_
        refine s_istore_n (ls' := [_, _, _, _]) E dX7_sits_42 (Nat.le_of_ble_eq_true rfl) rfl ?_
        refine s_iload_n E dX7_sits_43 rfl ?_
        refine s_if_ne E 54 dX7_sits_44 (by decide) (by omega) (fun h44 => ?_) (fun h44 => ?_)
        · have hfr := sFault_rng hp
          refine s_aload_n E dX7_sits_54 rfl ?_
          refine s_getR (kf := 3) E dX7_sits_55 rfl inb_X7 (Nat.le_of_ble_eq_true rfl) fl_X7_27 (by decide) sh0 rfl ?_
          refine s_callVi E (c_X5_sittingFault _ hp) dX7_sits_58 mf_X5_sittingFault ml_X7_84 rfl (Nat.le_of_ble_eq_true rfl) (Nat.le_of_ble_eq_true rfl) (by decide) sh20 rfl rfl (fun r58 M58 h58 => ?_)
          obtain ⟨e58, f58⟩ := h58; subst r58; subst M58
          refine s_bipush E dX7_sits_61 rfl ?_
          refine s_icmp_eq E 69 dX7_sits_63 (by decide) (by omega) (by omega) (fun h63 => ?_) (fun h63 => ?_)
          · refine s_aload_n E dX7_sits_69 rfl ?_
            refine s_getR (kf := 4) E dX7_sits_70 rfl inb_X7 (Nat.le_of_ble_eq_true rfl) fl_X7_34 (by decide) sh0 rfl ?_
            refine s_aload_n E dX7_sits_73 rfl ?_
            refine s_getR (kf := 0) E dX7_sits_74 rfl inb_X7 (Nat.le_of_ble_eq_true rfl) fl_X7_10 (by decide) sh0 rfl ?_
            refine s_aload_n E dX7_sits_77 rfl ?_
            refine s_getR (kf := 3) E dX7_sits_78 rfl inb_X7 (Nat.le_of_ble_eq_true rfl) fl_X7_27 (by decide) sh0 rfl ?_
            refine s_callVv E (c_X6_run M hp (by omega) hco hak hs) dX7_sits_81 mf_X6_run ml_X7_91 rfl (Nat.le_of_ble_eq_true rfl) (Nat.le_of_ble_eq_true rfl) (by decide) sh22 rfl rfl (fun M81 h81 => ?_)
            obtain ⟨e81, f81, g81⟩ := h81
            have s0 : SITC M 5 0 = M81 22 2 := by unfold SITC; rw [← e81, absC_rf0]
            have s1 : SITC M 5 1 = M81 22 3 := by unfold SITC; rw [← e81, absC_rf1]
            have s2 : SITC M 5 2 = M81 22 4 := by unfold SITC; rw [← e81, absC_rf2]
            refine s_iload_n E dX7_sits_84 rfl ?_
            refine s_if_eq E 99 dX7_sits_85 (by decide) (by omega) (fun h85 => ?_) (fun h85 => ?_)
            · exact absurd h85 (by decide)
            · refine s_aload_n E dX7_sits_88 rfl ?_
              refine s_getR (kf := 4) E dX7_sits_89 rfl inb_X7 (Nat.le_of_ble_eq_true rfl) fl_X7_34 (by decide) sh0 rfl ?_
              refine s_iload_n E dX7_sits_92 rfl ?_
              refine s_callVi E (c_X6_ofAll _ _ (by omega)) dX7_sits_93 mf_X6_ofAll ml_X7_95 rfl (Nat.le_of_ble_eq_true rfl) (Nat.le_of_ble_eq_true rfl) (by decide) sh22 rfl rfl (fun r93 M93 h93 => ?_)
              obtain ⟨e93, f93⟩ := h93; subst r93; subst M93
              refine s_goto E 114 dX7_sits_96 (by decide) ?_
              refine hret _ _ ?_ (fun q => by cases q) _ _ dX7_sits_114
              refine ⟨?_, f81⟩
              unfold sitR
              (repeat' split) <;> omega
          · refine s_bipush E dX7_sits_66 rfl ?_
            refine hret _ _ ?_ (fun q => by cases q) _ _ dX7_sits_68
            exact ⟨by (repeat' split) <;> first | rfl | omega, Kp.rf M⟩
        · exact absurd h44 (by decide)
      · refine s_iload_n E dX7_sits_21 rfl ?_
        refine s_bipush E dX7_sits_22 rfl ?_
        refine s_icmp_ge E 41 dX7_sits_24 (by decide) (by omega) (by omega) (fun h24 => ?_) (fun h24 => ?_)
        · refine s_iconst E dX7_sits_41 ?_
          refine s_istore_n (ls' := [_, _, _, _]) E dX7_sits_42 (Nat.le_of_ble_eq_true rfl) rfl ?_
          refine s_iload_n E dX7_sits_43 rfl ?_
          refine s_if_ne E 54 dX7_sits_44 (by decide) (by omega) (fun h44 => ?_) (fun h44 => ?_)
          · have hfr := sFault_rng hp
            refine s_aload_n E dX7_sits_54 rfl ?_
            refine s_getR (kf := 3) E dX7_sits_55 rfl inb_X7 (Nat.le_of_ble_eq_true rfl) fl_X7_27 (by decide) sh0 rfl ?_
            refine s_callVi E (c_X5_sittingFault _ hp) dX7_sits_58 mf_X5_sittingFault ml_X7_84 rfl (Nat.le_of_ble_eq_true rfl) (Nat.le_of_ble_eq_true rfl) (by decide) sh20 rfl rfl (fun r58 M58 h58 => ?_)
            obtain ⟨e58, f58⟩ := h58; subst r58; subst M58
            refine s_bipush E dX7_sits_61 rfl ?_
            refine s_icmp_eq E 69 dX7_sits_63 (by decide) (by omega) (by omega) (fun h63 => ?_) (fun h63 => ?_)
            · refine s_aload_n E dX7_sits_69 rfl ?_
              refine s_getR (kf := 4) E dX7_sits_70 rfl inb_X7 (Nat.le_of_ble_eq_true rfl) fl_X7_34 (by decide) sh0 rfl ?_
              refine s_aload_n E dX7_sits_73 rfl ?_
              refine s_getR (kf := 0) E dX7_sits_74 rfl inb_X7 (Nat.le_of_ble_eq_true rfl) fl_X7_10 (by decide) sh0 rfl ?_
              refine s_aload_n E dX7_sits_77 rfl ?_
              refine s_getR (kf := 3) E dX7_sits_78 rfl inb_X7 (Nat.le_of_ble_eq_true rfl) fl_X7_27 (by decide) sh0 rfl ?_
              refine s_callVv E (c_X6_run M hp (by omega) hco hak hs) dX7_sits_81 mf_X6_run ml_X7_91 rfl (Nat.le_of_ble_eq_true rfl) (Nat.le_of_ble_eq_true rfl) (by decide) sh22 rfl rfl (fun M81 h81 => ?_)
              obtain ⟨e81, f81, g81⟩ := h81
              have s0 : SITC M 5 0 = M81 22 2 := by unfold SITC; rw [← e81, absC_rf0]
              have s1 : SITC M 5 1 = M81 22 3 := by unfold SITC; rw [← e81, absC_rf1]
              have s2 : SITC M 5 2 = M81 22 4 := by unfold SITC; rw [← e81, absC_rf2]
              refine s_iload_n E dX7_sits_84 rfl ?_
              refine s_if_eq E 99 dX7_sits_85 (by decide) (by omega) (fun h85 => ?_) (fun h85 => ?_)
              · exact absurd h85 (by decide)
              · refine s_aload_n E dX7_sits_88 rfl ?_
                refine s_getR (kf := 4) E dX7_sits_89 rfl inb_X7 (Nat.le_of_ble_eq_true rfl) fl_X7_34 (by decide) sh0 rfl ?_
                refine s_iload_n E dX7_sits_92 rfl ?_
                refine s_callVi E (c_X6_ofAll _ _ (by omega)) dX7_sits_93 mf_X6_ofAll ml_X7_95 rfl (Nat.le_of_ble_eq_true rfl) (Nat.le_of_ble_eq_true rfl) (by decide) sh22 rfl rfl (fun r93 M93 h93 => ?_)
                obtain ⟨e93, f93⟩ := h93; subst r93; subst M93
                refine s_goto E 114 dX7_sits_96 (by decide) ?_
                refine hret _ _ ?_ (fun q => by cases q) _ _ dX7_sits_114
                refine ⟨?_, f81⟩
                unfold sitR
                (repeat' split) <;> omega
            · refine s_bipush E dX7_sits_66 rfl ?_
              refine hret _ _ ?_ (fun q => by cases q) _ _ dX7_sits_68
              exact ⟨by (repeat' split) <;> first | rfl | omega, Kp.rf M⟩
          · exact absurd h44 (by decide)
        · refine s_iload_n E dX7_sits_27 rfl ?_
          refine s_bipush E dX7_sits_28 rfl ?_
          refine s_irem E dX7_sits_30 (by omega) (by omega) ?_
          refine s_callSi E (c_X7_isOne _ _ (by omega)) dX7_sits_31 mf_X7_isOne ml_X7_59 rfl (Nat.le_of_ble_eq_true rfl) (Nat.le_of_ble_eq_true rfl) rfl (fun r31 M31 h31 => ?_)
          obtain ⟨e31, f31⟩ := h31; subst r31; subst M31
          refine s_ifeqB E 41 dX7_sits_34 (by decide) (fun h34 => ?_) (fun h34 => ?_)
          · refine s_iconst E dX7_sits_41 ?_
            refine s_istore_n (ls' := [_, _, _, _]) E dX7_sits_42 (Nat.le_of_ble_eq_true rfl) rfl ?_
            refine s_iload_n E dX7_sits_43 rfl ?_
            refine s_if_ne E 54 dX7_sits_44 (by decide) (by omega) (fun h44 => ?_) (fun h44 => ?_)
            · have hfr := sFault_rng hp
              refine s_aload_n E dX7_sits_54 rfl ?_
              refine s_getR (kf := 3) E dX7_sits_55 rfl inb_X7 (Nat.le_of_ble_eq_true rfl) fl_X7_27 (by decide) sh0 rfl ?_
              refine s_callVi E (c_X5_sittingFault _ hp) dX7_sits_58 mf_X5_sittingFault ml_X7_84 rfl (Nat.le_of_ble_eq_true rfl) (Nat.le_of_ble_eq_true rfl) (by decide) sh20 rfl rfl (fun r58 M58 h58 => ?_)
              obtain ⟨e58, f58⟩ := h58; subst r58; subst M58
              refine s_bipush E dX7_sits_61 rfl ?_
              refine s_icmp_eq E 69 dX7_sits_63 (by decide) (by omega) (by omega) (fun h63 => ?_) (fun h63 => ?_)
              · refine s_aload_n E dX7_sits_69 rfl ?_
                refine s_getR (kf := 4) E dX7_sits_70 rfl inb_X7 (Nat.le_of_ble_eq_true rfl) fl_X7_34 (by decide) sh0 rfl ?_
                refine s_aload_n E dX7_sits_73 rfl ?_
                refine s_getR (kf := 0) E dX7_sits_74 rfl inb_X7 (Nat.le_of_ble_eq_true rfl) fl_X7_10 (by decide) sh0 rfl ?_
                refine s_aload_n E dX7_sits_77 rfl ?_
                refine s_getR (kf := 3) E dX7_sits_78 rfl inb_X7 (Nat.le_of_ble_eq_true rfl) fl_X7_27 (by decide) sh0 rfl ?_
                refine s_callVv E (c_X6_run M hp (by omega) hco hak hs) dX7_sits_81 mf_X6_run ml_X7_91 rfl (Nat.le_of_ble_eq_true rfl) (Nat.le_of_ble_eq_true rfl) (by decide) sh22 rfl rfl (fun M81 h81 => ?_)
                obtain ⟨e81, f81, g81⟩ := h81
                have s0 : SITC M 5 0 = M81 22 2 := by unfold SITC; rw [← e81, absC_rf0]
                have s1 : SITC M 5 1 = M81 22 3 := by unfold SITC; rw [← e81, absC_rf1]
                have s2 : SITC M 5 2 = M81 22 4 := by unfold SITC; rw [← e81, absC_rf2]
                refine s_iload_n E dX7_sits_84 rfl ?_
                refine s_if_eq E 99 dX7_sits_85 (by decide) (by omega) (fun h85 => ?_) (fun h85 => ?_)
                · exact absurd h85 (by decide)
                · refine s_aload_n E dX7_sits_88 rfl ?_
                  refine s_getR (kf := 4) E dX7_sits_89 rfl inb_X7 (Nat.le_of_ble_eq_true rfl) fl_X7_34 (by decide) sh0 rfl ?_
                  refine s_iload_n E dX7_sits_92 rfl ?_
                  refine s_callVi E (c_X6_ofAll _ _ (by omega)) dX7_sits_93 mf_X6_ofAll ml_X7_95 rfl (Nat.le_of_ble_eq_true rfl) (Nat.le_of_ble_eq_true rfl) (by decide) sh22 rfl rfl (fun r93 M93 h93 => ?_)
                  obtain ⟨e93, f93⟩ := h93; subst r93; subst M93
                  refine s_goto E 114 dX7_sits_96 (by decide) ?_
                  refine hret _ _ ?_ (fun q => by cases q) _ _ dX7_sits_114
                  refine ⟨?_, f81⟩
                  unfold sitR
                  (repeat' split) <;> omega
              · refine s_bipush E dX7_sits_66 rfl ?_
                refine hret _ _ ?_ (fun q => by cases q) _ _ dX7_sits_68
                exact ⟨by (repeat' split) <;> first | rfl | omega, Kp.rf M⟩
            · exact absurd h44 (by decide)
          · refine s_iconst E dX7_sits_37 ?_
            refine s_goto E 42 dX7_sits_38 (by decide) ?_
            refine s_istore_n (ls' := [_, _, _, _]) E dX7_sits_42 (Nat.le_of_ble_eq_true rfl) rfl ?_
            refine s_iload_n E dX7_sits_43 rfl ?_
            refine s_if_ne E 54 dX7_sits_44 (by decide) (by omega) (fun h44 => ?_) (fun h44 => ?_)
            · have hfr := sFault_rng hp
              refine s_aload_n E dX7_sits_54 rfl ?_
              refine s_getR (kf := 3) E dX7_sits_55 rfl inb_X7 (Nat.le_of_ble_eq_true rfl) fl_X7_27 (by decide) sh0 rfl ?_
              refine s_callVi E (c_X5_sittingFault _ hp) dX7_sits_58 mf_X5_sittingFault ml_X7_84 rfl (Nat.le_of_ble_eq_true rfl) (Nat.le_of_ble_eq_true rfl) (by decide) sh20 rfl rfl (fun r58 M58 h58 => ?_)
              obtain ⟨e58, f58⟩ := h58; subst r58; subst M58
              refine s_bipush E dX7_sits_61 rfl ?_
              refine s_icmp_eq E 69 dX7_sits_63 (by decide) (by omega) (by omega) (fun h63 => ?_) (fun h63 => ?_)
              · refine s_aload_n E dX7_sits_69 rfl ?_
                refine s_getR (kf := 4) E dX7_sits_70 rfl inb_X7 (Nat.le_of_ble_eq_true rfl) fl_X7_34 (by decide) sh0 rfl ?_
                refine s_aload_n E dX7_sits_73 rfl ?_
                refine s_getR (kf := 0) E dX7_sits_74 rfl inb_X7 (Nat.le_of_ble_eq_true rfl) fl_X7_10 (by decide) sh0 rfl ?_
                refine s_aload_n E dX7_sits_77 rfl ?_
                refine s_getR (kf := 3) E dX7_sits_78 rfl inb_X7 (Nat.le_of_ble_eq_true rfl) fl_X7_27 (by decide) sh0 rfl ?_
                refine s_callVv E (c_X6_run M hp (by omega) hco hak hs) dX7_sits_81 mf_X6_run ml_X7_91 rfl (Nat.le_of_ble_eq_true rfl) (Nat.le_of_ble_eq_true rfl) (by decide) sh22 rfl rfl (fun M81 h81 => ?_)
                obtain ⟨e81, f81, g81⟩ := h81
                have s0 : SITC M 5 0 = M81 22 2 := by unfold SITC; rw [← e81, absC_rf0]
                have s1 : SITC M 5 1 = M81 22 3 := by unfold SITC; rw [← e81, absC_rf1]
                have s2 : SITC M 5 2 = M81 22 4 := by unfold SITC; rw [← e81, absC_rf2]
                refine s_iload_n E dX7_sits_84 rfl ?_
                refine s_if_eq E 99 dX7_sits_85 (by decide) (by omega) (fun h85 => ?_) (fun h85 => ?_)
                · exact absurd h85 (by decide)
                · refine s_aload_n E dX7_sits_88 rfl ?_
                  refine s_getR (kf := 4) E dX7_sits_89 rfl inb_X7 (Nat.le_of_ble_eq_true rfl) fl_X7_34 (by decide) sh0 rfl ?_
                  refine s_iload_n E dX7_sits_92 rfl ?_
                  refine s_callVi E (c_X6_ofAll _ _ (by omega)) dX7_sits_93 mf_X6_ofAll ml_X7_95 rfl (Nat.le_of_ble_eq_true rfl) (Nat.le_of_ble_eq_true rfl) (by decide) sh22 rfl rfl (fun r93 M93 h93 => ?_)
                  obtain ⟨e93, f93⟩ := h93; subst r93; subst M93
                  refine s_goto E 114 dX7_sits_96 (by decide) ?_
                  refine hret _ _ ?_ (fun q => by cases q) _ _ dX7_sits_114
                  refine ⟨?_, f81⟩
                  unfold sitR
                  (repeat' split) <;> omega
              · refine s_bipush E dX7_sits_66 rfl ?_
                refine hret _ _ ?_ (fun q => by cases q) _ _ dX7_sits_68
                exact ⟨by (repeat' split) <;> first | rfl | omega, Kp.rf M⟩
            · exact absurd h44 (by decide)

set_option maxRecDepth 100000 in
set_option maxHeartbeats 4000000 in
theorem c_X7_sit (M : Mm) (hp : PadOK (M 21) (M 20 1)) (hco : 0 ≤ M 1 3 ∧ M 1 3 ≤ 99) (hak : 0 ≤ M 1 4 ∧ M 1 4 ≤ 99) (hs : ∀ k, 0 ≤ k → k < 6 → 0 ≤ M 3 k ∧ M 3 k ≤ 999 ∧ 0 ≤ M 4 k ∧ M 4 k ≤ 1 ∧ 0 ≤ M 5 k ∧ M 5 k ≤ 1 ∧ 0 ≤ M 6 k ∧ M 6 k ≤ 99) : CtI yX7_sit cX7_sit 1 .int 7 SH [rv 0] M (fun r M' => (¬ (sFault (M 21) (M 20 1) = -6 ∧ SITC M 5 1 = 0) → r = -5 ∧ Kp M M') ∧ (sFault (M 21) (M 20 1) = -6 ∧ SITC M 5 1 = 0 → r = SITC M 5 0 ∧ (∀ a b, ¬ ((22 ≤ a ∧ a ≤ 36) ∨ (40 ≤ a ∧ a ≤ 44) ∨ ((a = 38 ∨ a = 39) ∧ b ≠ 0)) → M' a b = if a = 20 ∧ b = 1 then 0 else if 3 ≤ a ∧ a < 7 ∧ 0 ≤ b ∧ b < 6 then SITC M (a - 3) b else M a b) ∧ SB (SITC M) 400)) := by
  refine CtI.of rfl (Nat.le_of_ble_eq_true rfl) (Or.inl rfl) (fun v as E hret => ?_)
  show Ws v as SH 0 0 0 [some (rv 0)] [] M
  have hfr := sFault_rng hp
  refine s_aload_n E dX7_sit_0 rfl ?_
  refine s_getR (kf := 3) E dX7_sit_1 rfl inb_X7 (Nat.le_of_ble_eq_true rfl) fl_X7_27 (by decide) sh0 rfl ?_
  refine s_callVi E (c_X5_sittingFault _ hp) dX7_sit_4 mf_X5_sittingFault ml_X7_84 rfl (Nat.le_of_ble_eq_true rfl) (Nat.le_of_ble_eq_true rfl) (by decide) sh20 rfl rfl (fun r4 M4 h4 => ?_)
  obtain ⟨e4, f4⟩ := h4; subst r4; subst M4
  refine s_bipush E dX7_sit_7 rfl ?_
  refine s_icmp_eq E 15 dX7_sit_9 (by decide) (by omega) (by omega) (fun h9 => ?_) (fun h9 => ?_)
  · refine s_aload_n E dX7_sit_15 rfl ?_
    refine s_getR (kf := 4) E dX7_sit_16 rfl inb_X7 (Nat.le_of_ble_eq_true rfl) fl_X7_34 (by decide) sh0 rfl ?_
    refine s_aload_n E dX7_sit_19 rfl ?_
    refine s_getR (kf := 0) E dX7_sit_20 rfl inb_X7 (Nat.le_of_ble_eq_true rfl) fl_X7_10 (by decide) sh0 rfl ?_
    refine s_aload_n E dX7_sit_23 rfl ?_
    refine s_getR (kf := 3) E dX7_sit_24 rfl inb_X7 (Nat.le_of_ble_eq_true rfl) fl_X7_27 (by decide) sh0 rfl ?_
    refine s_callVv E (c_X6_run M hp (by omega) hco hak hs) dX7_sit_27 mf_X6_run ml_X7_91 rfl (Nat.le_of_ble_eq_true rfl) (Nat.le_of_ble_eq_true rfl) (by decide) sh22 rfl rfl (fun M27 h27 => ?_)
    obtain ⟨e81, f81, g81⟩ := h27
    have s0 : SITC M 5 0 = M27 22 2 := by unfold SITC; rw [← e81, absC_rf0]
    have s1 : SITC M 5 1 = M27 22 3 := by unfold SITC; rw [← e81, absC_rf1]
    have s2 : SITC M 5 2 = M27 22 4 := by unfold SITC; rw [← e81, absC_rf2]
    have b5 := g81.2
    rw [e81] at b5
    have b6 : 0 ≤ SITC M 5 1 ∧ SITC M 5 1 ≤ 400 := ⟨b5.1, b5.2.1⟩
    refine s_aload_n E dX7_sit_30 rfl ?_
    refine s_getR (kf := 4) E dX7_sit_31 rfl inb_X7 (Nat.le_of_ble_eq_true rfl) fl_X7_34 (by decide) sh0 rfl ?_
    refine s_getI (kf := 3) E 3 rfl dX7_sit_34 rfl inb_X6 (Nat.le_of_ble_eq_true rfl) fl_X7_103 (by decide) sh22 rfl ?_
    refine s_if_le E 43 dX7_sit_37 (by decide) (by omega) (fun h37 => ?_) (fun h37 => ?_)
    · refine s_aload_n E dX7_sit_43 rfl ?_
      refine s_getR (kf := 4) E dX7_sit_44 rfl inb_X7 (Nat.le_of_ble_eq_true rfl) fl_X7_34 (by decide) sh0 rfl ?_
      refine s_getR (kf := 0) E dX7_sit_47 rfl inb_X6 (Nat.le_of_ble_eq_true rfl) fl_X7_106 (by decide) sh22 rfl ?_
      refine s_aload_n E dX7_sit_50 rfl ?_
      refine s_getR (kf := 0) E dX7_sit_51 rfl inb_X7 (Nat.le_of_ble_eq_true rfl) fl_X7_10 (by decide) sh0 rfl ?_
      refine s_getR (kf := 0) E dX7_sit_54 rfl inb_X2 (Nat.le_of_ble_eq_true rfl) fl_X7_67 (by decide) sh1 rfl ?_
      refine s_iconst E dX7_sit_57 ?_
      refine s_callSv E (c_cpR_23_2 _) dX7_sit_58 mf_X7_copyRows ml_X7_107 rfl (Nat.le_of_ble_eq_true rfl) (Nat.le_of_ble_eq_true rfl) rfl (fun M58 h58 => ?_)
      subst M58
      refine s_aload_n E dX7_sit_61 rfl ?_
      refine s_getR (kf := 3) E dX7_sit_62 rfl inb_X7 (Nat.le_of_ble_eq_true rfl) fl_X7_27 (by decide) sh0 rfl ?_
      refine s_iconst E dX7_sit_65 ?_
      refine s_putI (kf := 1) E 1 rfl dX7_sit_66 rfl inb_X5 tyX5_ok nmX5 (Nat.le_of_ble_eq_true rfl) ⟨rfl, rfl⟩ fl_X7_81 (by decide) sh20 rfl ?_
      refine s_aload_n E dX7_sit_69 rfl ?_
      refine s_getR (kf := 4) E dX7_sit_70 rfl inb_X7 (Nat.le_of_ble_eq_true rfl) fl_X7_34 (by decide) sh0 rfl ?_
      refine s_getI (kf := 2) E 2 rfl dX7_sit_73 rfl inb_X6 (Nat.le_of_ble_eq_true rfl) fl_X7_111 (by decide) sh22 rfl ?_
      rw [upm_row (show (22 : Int) ≠ 20 by decide), cpR_out (show ¬ ((2 : Int) + 1 ≤ 22 ∧ (22 : Int) < 2 + 1 + 4) by decide)]
      refine hret _ _ ?_ (fun q => by cases q) _ _ dX7_sit_76
      refine ⟨fun q => absurd ⟨by omega, by omega⟩ q, fun _ => ⟨by omega, fun a b q => ?_, by unfold SITC; rw [← e81]; exact g81⟩⟩
      unfold upm
      by_cases c1 : a = 20 ∧ b = 1
      · rw [if_pos c1, if_pos c1]
      · rw [if_neg c1, if_neg c1]
        by_cases c2 : 3 ≤ a ∧ a < 7 ∧ 0 ≤ b ∧ b < 6
        · rw [if_pos c2]
          unfold cpR SITC
          rw [if_pos (by omega), ← e81]
          unfold absC
          rw [if_pos (by omega)]
          congr 1
          omega
        · rw [if_neg c2]
          unfold cpR
          rw [if_neg (by omega), f81 a b q]
    · refine s_bipush E dX7_sit_40 rfl ?_
      refine hret _ _ ?_ (fun q => by cases q) _ _ dX7_sit_42
      exact ⟨fun _ => ⟨rfl, f81⟩, fun q => by omega⟩
  · refine s_bipush E dX7_sit_12 rfl ?_
    refine hret _ _ ?_ (fun q => by cases q) _ _ dX7_sit_14
    exact ⟨fun _ => ⟨rfl, Kp.rf M⟩, fun q => by omega⟩

set_option maxRecDepth 100000 in
set_option maxHeartbeats 4000000 in
theorem c_X8_sits (M : Mm) (w : Int) (hw : inI w) (hp : PadOK (M 81) (M 79 3)) (hco : 0 ≤ M 79 1 ∧ M 79 1 ≤ 99) (hak : 0 ≤ M 79 2 ∧ M 79 2 ≤ 99) (hs : ∀ k, 0 ≤ k → k < 6 → 0 ≤ M 80 (4 * k) ∧ M 80 (4 * k) ≤ 999 ∧ 0 ≤ M 80 (4 * k + 1) ∧ M 80 (4 * k + 1) ≤ 1 ∧ 0 ≤ M 80 (4 * k + 2) ∧ M 80 (4 * k + 2) ≤ 1 ∧ 0 ≤ M 80 (4 * k + 3) ∧ M 80 (4 * k + 3) ≤ 99) : CtI yX8_sits cX8_sits 4 .int 7 SH [rv 79, iv w] M (fun r M' => r = (if ((0 ≤ w ∧ w ≤ 2) ∨ (10 ≤ w ∧ w < 40 ∧ w % 10 < 6)) then (if sFault (M 81) (M 79 3) = -6 then sitR (SITM M) w else -5) else -2) ∧ KpM M M') := by
  refine CtI.of rfl (Nat.le_of_ble_eq_true rfl) (Or.inl rfl) (fun v as E hret => ?_)
  show Ws v as SH 0 0 0 [some (rv 79), some (iv w), none, none] [] M
  refine s_iload_n E dX8_sits_0 rfl ?_
  refine s_iconst E dX8_sits_1 ?_
  refine s_iconst E dX8_sits_2 ?_
  refine s_callSi E (c_X8_in _ _ _ _ (by omega) (by omega) (by omega)) dX8_sits_3 mf_X8_in ml_X8_63 rfl (Nat.le_of_ble_eq_true rfl) (Nat.le_of_ble_eq_true rfl) rfl (fun r3 M3 h3 => ?_)
  obtain ⟨e3, f3⟩ := h3; subst r3; subst M3
  refine s_ifneB E 42 dX8_sits_6 (by decide) (fun h6 => ?_) (fun h6 => ?_)
  · refine s_iconst E dX8_sits_42 ?_
    refine s_goto E 47 dX8_sits_43 (by decide) ?_
    refine s_istore_n (ls' := [_, _, _, _]) E dX8_sits_47 (Nat.le_of_ble_eq_true rfl) rfl ?_
    refine s_iload_n E dX8_sits_48 rfl ?_
    refine s_if_ne E 55 dX8_sits_49 (by decide) (by omega) (fun h49 => ?_) (fun h49 => ?_)
    · have hfr := sFault_rng hp
      refine s_aload_n E dX8_sits_55 rfl ?_
      refine s_callVi E (c_X8_sittingFault _ hp) dX8_sits_56 mf_X8_sittingFault ml_X8_84 rfl (Nat.le_of_ble_eq_true rfl) (Nat.le_of_ble_eq_true rfl) (by decide) sh79 rfl rfl (fun r56 M56 h56 => ?_)
      obtain ⟨e56, f56⟩ := h56; subst r56; subst M56
      refine s_if_lt E 65 dX8_sits_59 (by decide) (by omega) (fun h59 => ?_) (fun h59 => ?_)
      · refine s_aload_n E dX8_sits_65 rfl ?_
        refine s_callVv E (c_X8_sitThrough M hp (by omega) hco hak hs) dX8_sits_66 mf_X8_sitThrough ml_X8_114 rfl (Nat.le_of_ble_eq_true rfl) (Nat.le_of_ble_eq_true rfl) (by decide) sh79 rfl rfl (fun M66 h66 => ?_)
        obtain ⟨e66, f66, g66⟩ := h66
        have s0 : SITM M 5 0 = M66 79 10 := by unfold SITM; rw [← e66, absM_rf0]
        have s1 : SITM M 5 1 = M66 79 11 := by unfold SITM; rw [← e66, absM_rf1]
        have s2 : SITM M 5 2 = M66 79 12 := by unfold SITM; rw [← e66, absM_rf2]
        refine s_iload_n E dX8_sits_69 rfl ?_
        refine s_iconst E dX8_sits_70 ?_
        refine s_icmp_ge E 102 dX8_sits_71 (by decide) (by omega) (by omega) (fun h71 => ?_) (fun h71 => ?_)
        · refine s_iload_n E dX8_sits_102 rfl ?_
          refine s_bipush E dX8_sits_103 rfl ?_
          refine s_irem E dX8_sits_105 (by omega) (by omega) ?_
          refine s_istore_n (ls' := [_, _, _, _]) E dX8_sits_106 (Nat.le_of_ble_eq_true rfl) rfl ?_
          refine s_iload_n E dX8_sits_107 rfl ?_
          refine s_bipush E dX8_sits_108 rfl ?_
          refine s_icmp_ge E 122 dX8_sits_110 (by decide) (by omega) (by omega) (fun h110 => ?_) (fun h110 => ?_)
          · refine s_iload_n E dX8_sits_122 rfl ?_
            refine s_bipush E dX8_sits_123 rfl ?_
            refine s_icmp_ge E 139 dX8_sits_125 (by decide) (by omega) (by omega) (fun h125 => ?_) (fun h125 => ?_)
            · have s5 : SITM M 3 (w % 10) = M66 84 (4 * (w % 10) + 3) := by unfold SITM; rw [← e66, absM_rd3 (by omega)]
              refine s_aload_n E dX8_sits_139 rfl ?_
              refine s_getR (kf := 8) E dX8_sits_140 rfl inb_X8 (Nat.le_of_ble_eq_true rfl) fl_X8_29 (by decide) sh79 rfl ?_
              refine s_iconst E dX8_sits_143 ?_
              refine s_iload_n E dX8_sits_144 rfl ?_
              refine s_imul E dX8_sits_145 ?_
              refine s_iconst E dX8_sits_146 ?_
              refine s_iadd E dX8_sits_147 ?_
              refine s_iald E dX8_sits_148 (by decide) sh84 (Nat.le_of_ble_eq_true rfl) (by omega) ?_
              refine hret _ _ ?_ (fun q => by cases q) _ _ dX8_sits_149
              refine ⟨?_, f66⟩
              rw [if_pos (by omega), if_pos (by omega)]
              unfold sitR
              (repeat' split) <;> omega
            · have s4 : SITM M 0 (w % 10) = M66 84 (4 * (w % 10)) := by unfold SITM; rw [← e66, absM_rd0 (by omega)]
              refine s_aload_n E dX8_sits_128 rfl ?_
              refine s_getR (kf := 8) E dX8_sits_129 rfl inb_X8 (Nat.le_of_ble_eq_true rfl) fl_X8_29 (by decide) sh79 rfl ?_
              refine s_iconst E dX8_sits_132 ?_
              refine s_iload_n E dX8_sits_133 rfl ?_
              refine s_imul E dX8_sits_134 ?_
              refine s_iald E dX8_sits_135 (by decide) sh84 (Nat.le_of_ble_eq_true rfl) (by omega) ?_
              refine s_goto E 149 dX8_sits_136 (by decide) ?_
              refine hret _ _ ?_ (fun q => by cases q) _ _ dX8_sits_149
              refine ⟨?_, f66⟩
              rw [if_pos (by omega), if_pos (by omega)]
              unfold sitR
              (repeat' split) <;> omega
          · have s3 : SITM M 4 (w % 10) = M66 85 (w % 10) := by unfold SITM; rw [← e66, absM_rd4 (by omega)]
            refine s_aload_n E dX8_sits_113 rfl ?_
            refine s_getR (kf := 9) E dX8_sits_114 rfl inb_X8 (Nat.le_of_ble_eq_true rfl) fl_X8_32 (by decide) sh79 rfl ?_
            refine s_iload_n E dX8_sits_117 rfl ?_
            refine s_iald E dX8_sits_118 (by decide) sh85 (Nat.le_of_ble_eq_true rfl) (by omega) ?_
            refine s_goto E 149 dX8_sits_119 (by decide) ?_
            refine hret _ _ ?_ (fun q => by cases q) _ _ dX8_sits_149
            refine ⟨?_, f66⟩
            rw [if_pos (by omega), if_pos (by omega)]
            unfold sitR
            (repeat' split) <;> omega
        · refine s_iload_n E dX8_sits_74 rfl ?_
          refine s_if_ne E 85 dX8_sits_75 (by decide) (by omega) (fun h75 => ?_) (fun h75 => ?_)
          · refine s_iload_n E dX8_sits_85 rfl ?_
            refine s_iconst E dX8_sits_86 ?_
            refine s_icmp_ne E 97 dX8_sits_87 (by decide) (by omega) (by omega) (fun h87 => ?_) (fun h87 => ?_)
            · refine s_aload_n E dX8_sits_97 rfl ?_
              refine s_getI (kf := 11) E 11 rfl dX8_sits_98 rfl inb_X8 (Nat.le_of_ble_eq_true rfl) fl_X8_94 (by decide) sh79 rfl ?_
              refine hret _ _ ?_ (fun q => by cases q) _ _ dX8_sits_101
              refine ⟨?_, f66⟩
              rw [if_pos (by omega), if_pos (by omega)]
              unfold sitR
              (repeat' split) <;> omega
            · refine s_aload_n E dX8_sits_90 rfl ?_
              refine s_getI (kf := 12) E 12 rfl dX8_sits_91 rfl inb_X8 (Nat.le_of_ble_eq_true rfl) fl_X8_100 (by decide) sh79 rfl ?_
              refine s_goto E 101 dX8_sits_94 (by decide) ?_
              refine hret _ _ ?_ (fun q => by cases q) _ _ dX8_sits_101
              refine ⟨?_, f66⟩
              rw [if_pos (by omega), if_pos (by omega)]
              unfold sitR
              (repeat' split) <;> omega
          · refine s_aload_n E dX8_sits_78 rfl ?_
            refine s_getI (kf := 10) E 10 rfl dX8_sits_79 rfl inb_X8 (Nat.le_of_ble_eq_true rfl) fl_X8_97 (by decide) sh79 rfl ?_
            refine s_goto E 101 dX8_sits_82 (by decide) ?_
            refine hret _ _ ?_ (fun q => by cases q) _ _ dX8_sits_101
            refine ⟨?_, f66⟩
            rw [if_pos (by omega), if_pos (by omega)]
            unfold sitR
            (repeat' split) <;> omega
      · refine s_bipush E dX8_sits_62 rfl ?_
        refine hret _ _ ?_ (fun q => by cases q) _ _ dX8_sits_64
        exact ⟨by (repeat' split) <;> first | rfl | omega, KpM.rf M⟩
    · exact absurd h49 (by decide)
  · refine s_iload_n E dX8_sits_9 rfl ?_
    refine s_bipush E dX8_sits_10 rfl ?_
    refine s_bipush E dX8_sits_12 rfl ?_
    refine s_callSi E (c_X8_in _ _ _ _ (by omega) (by omega) (by omega)) dX8_sits_14 mf_X8_in ml_X8_63 rfl (Nat.le_of_ble_eq_true rfl) (Nat.le_of_ble_eq_true rfl) rfl (fun r14 M14 h14 => ?_)
    obtain ⟨e14, f14⟩ := h14; subst r14; subst M14
    refine s_ifneB E 42 dX8_sits_17 (by decide) (fun h17 => ?_) (fun h17 => ?_)
    · refine s_iconst E dX8_sits_42 ?_
      refine s_goto E 47 dX8_sits_43 (by decide) ?_
      refine s_istore_n (ls' := [_, _, _, _]) E dX8_sits_47 (Nat.le_of_ble_eq_true rfl) rfl ?_
      refine s_iload_n E dX8_sits_48 rfl ?_
      refine s_if_ne E 55 dX8_sits_49 (by decide) (by omega) (fun h49 => ?_) (fun h49 => ?_)
      · have hfr := sFault_rng hp
        refine s_aload_n E dX8_sits_55 rfl ?_
        refine s_callVi E (c_X8_sittingFault _ hp) dX8_sits_56 mf_X8_sittingFault ml_X8_84 rfl (Nat.le_of_ble_eq_true rfl) (Nat.le_of_ble_eq_true rfl) (by decide) sh79 rfl rfl (fun r56 M56 h56 => ?_)
        obtain ⟨e56, f56⟩ := h56; subst r56; subst M56
        refine s_if_lt E 65 dX8_sits_59 (by decide) (by omega) (fun h59 => ?_) (fun h59 => ?_)
        · refine s_aload_n E dX8_sits_65 rfl ?_
          refine s_callVv E (c_X8_sitThrough M hp (by omega) hco hak hs) dX8_sits_66 mf_X8_sitThrough ml_X8_114 rfl (Nat.le_of_ble_eq_true rfl) (Nat.le_of_ble_eq_true rfl) (by decide) sh79 rfl rfl (fun M66 h66 => ?_)
          obtain ⟨e66, f66, g66⟩ := h66
          have s0 : SITM M 5 0 = M66 79 10 := by unfold SITM; rw [← e66, absM_rf0]
          have s1 : SITM M 5 1 = M66 79 11 := by unfold SITM; rw [← e66, absM_rf1]
          have s2 : SITM M 5 2 = M66 79 12 := by unfold SITM; rw [← e66, absM_rf2]
          refine s_iload_n E dX8_sits_69 rfl ?_
          refine s_iconst E dX8_sits_70 ?_
          refine s_icmp_ge E 102 dX8_sits_71 (by decide) (by omega) (by omega) (fun h71 => ?_) (fun h71 => ?_)
          · refine s_iload_n E dX8_sits_102 rfl ?_
            refine s_bipush E dX8_sits_103 rfl ?_
            refine s_irem E dX8_sits_105 (by omega) (by omega) ?_
            refine s_istore_n (ls' := [_, _, _, _]) E dX8_sits_106 (Nat.le_of_ble_eq_true rfl) rfl ?_
            refine s_iload_n E dX8_sits_107 rfl ?_
            refine s_bipush E dX8_sits_108 rfl ?_
            refine s_icmp_ge E 122 dX8_sits_110 (by decide) (by omega) (by omega) (fun h110 => ?_) (fun h110 => ?_)
            · refine s_iload_n E dX8_sits_122 rfl ?_
              refine s_bipush E dX8_sits_123 rfl ?_
              refine s_icmp_ge E 139 dX8_sits_125 (by decide) (by omega) (by omega) (fun h125 => ?_) (fun h125 => ?_)
              · have s5 : SITM M 3 (w % 10) = M66 84 (4 * (w % 10) + 3) := by unfold SITM; rw [← e66, absM_rd3 (by omega)]
                refine s_aload_n E dX8_sits_139 rfl ?_
                refine s_getR (kf := 8) E dX8_sits_140 rfl inb_X8 (Nat.le_of_ble_eq_true rfl) fl_X8_29 (by decide) sh79 rfl ?_
                refine s_iconst E dX8_sits_143 ?_
                refine s_iload_n E dX8_sits_144 rfl ?_
                refine s_imul E dX8_sits_145 ?_
                refine s_iconst E dX8_sits_146 ?_
                refine s_iadd E dX8_sits_147 ?_
                refine s_iald E dX8_sits_148 (by decide) sh84 (Nat.le_of_ble_eq_true rfl) (by omega) ?_
                refine hret _ _ ?_ (fun q => by cases q) _ _ dX8_sits_149
                refine ⟨?_, f66⟩
                rw [if_pos (by omega), if_pos (by omega)]
                unfold sitR
                (repeat' split) <;> omega
              · have s4 : SITM M 0 (w % 10) = M66 84 (4 * (w % 10)) := by unfold SITM; rw [← e66, absM_rd0 (by omega)]
                refine s_aload_n E dX8_sits_128 rfl ?_
                refine s_getR (kf := 8) E dX8_sits_129 rfl inb_X8 (Nat.le_of_ble_eq_true rfl) fl_X8_29 (by decide) sh79 rfl ?_
                refine s_iconst E dX8_sits_132 ?_
                refine s_iload_n E dX8_sits_133 rfl ?_
                refine s_imul E dX8_sits_134 ?_
                refine s_iald E dX8_sits_135 (by decide) sh84 (Nat.le_of_ble_eq_true rfl) (by omega) ?_
                refine s_goto E 149 dX8_sits_136 (by decide) ?_
                refine hret _ _ ?_ (fun q => by cases q) _ _ dX8_sits_149
                refine ⟨?_, f66⟩
                rw [if_pos (by omega), if_pos (by omega)]
                unfold sitR
                (repeat' split) <;> omega
            · have s3 : SITM M 4 (w % 10) = M66 85 (w % 10) := by unfold SITM; rw [← e66, absM_rd4 (by omega)]
              refine s_aload_n E dX8_sits_113 rfl ?_
              refine s_getR (kf := 9) E dX8_sits_114 rfl inb_X8 (Nat.le_of_ble_eq_true rfl) fl_X8_32 (by decide) sh79 rfl ?_
              refine s_iload_n E dX8_sits_117 rfl ?_
              refine s_iald E dX8_sits_118 (by decide) sh85 (Nat.le_of_ble_eq_true rfl) (by omega) ?_
              refine s_goto E 149 dX8_sits_119 (by decide) ?_
              refine hret _ _ ?_ (fun q => by cases q) _ _ dX8_sits_149
              refine ⟨?_, f66⟩
              rw [if_pos (by omega), if_pos (by omega)]
              unfold sitR
              (repeat' split) <;> omega
          · refine s_iload_n E dX8_sits_74 rfl ?_
            refine s_if_ne E 85 dX8_sits_75 (by decide) (by omega) (fun h75 => ?_) (fun h75 => ?_)
            · refine s_iload_n E dX8_sits_85 rfl ?_
              refine s_iconst E dX8_sits_86 ?_
              refine s_icmp_ne E 97 dX8_sits_87 (by decide) (by omega) (by omega) (fun h87 => ?_) (fun h87 => ?_)
              · refine s_aload_n E dX8_sits_97 rfl ?_
                refine s_getI (kf := 11) E 11 rfl dX8_sits_98 rfl inb_X8 (Nat.le_of_ble_eq_true rfl) fl_X8_94 (by decide) sh79 rfl ?_
                refine hret _ _ ?_ (fun q => by cases q) _ _ dX8_sits_101
                refine ⟨?_, f66⟩
                rw [if_pos (by omega), if_pos (by omega)]
                unfold sitR
                (repeat' split) <;> omega
              · refine s_aload_n E dX8_sits_90 rfl ?_
                refine s_getI (kf := 12) E 12 rfl dX8_sits_91 rfl inb_X8 (Nat.le_of_ble_eq_true rfl) fl_X8_100 (by decide) sh79 rfl ?_
                refine s_goto E 101 dX8_sits_94 (by decide) ?_
                refine hret _ _ ?_ (fun q => by cases q) _ _ dX8_sits_101
                refine ⟨?_, f66⟩
                rw [if_pos (by omega), if_pos (by omega)]
                unfold sitR
                (repeat' split) <;> omega
            · refine s_aload_n E dX8_sits_78 rfl ?_
              refine s_getI (kf := 10) E 10 rfl dX8_sits_79 rfl inb_X8 (Nat.le_of_ble_eq_true rfl) fl_X8_97 (by decide) sh79 rfl ?_
              refine s_goto E 101 dX8_sits_82 (by decide) ?_
              refine hret _ _ ?_ (fun q => by cases q) _ _ dX8_sits_101
              refine ⟨?_, f66⟩
              rw [if_pos (by omega), if_pos (by omega)]
              unfold sitR
              (repeat' split) <;> omega
        · refine s_bipush E dX8_sits_62 rfl ?_
          refine hret _ _ ?_ (fun q => by cases q) _ _ dX8_sits_64
          exact ⟨by (repeat' split) <;> first | rfl | omega, KpM.rf M⟩
      · exact absurd h49 (by decide)
    · refine s_iload_n E dX8_sits_20 rfl ?_
      refine s_bipush E dX8_sits_21 rfl ?_
      refine s_bipush E dX8_sits_23 rfl ?_
      refine s_callSi E (c_X8_in _ _ _ _ (by omega) (by omega) (by omega)) dX8_sits_25 mf_X8_in ml_X8_63 rfl (Nat.le_of_ble_eq_true rfl) (Nat.le_of_ble_eq_true rfl) rfl (fun r25 M25 h25 => ?_)
      obtain ⟨e25, f25⟩ := h25; subst r25; subst M25
      refine s_ifneB E 42 dX8_sits_28 (by decide) (fun h28 => ?_) (fun h28 => ?_)
      · refine s_iconst E dX8_sits_42 ?_
        refine s_goto E 47 dX8_sits_43 (by decide) ?_
        refine s_istore_n (ls' := [_, _, _, _]) E dX8_sits_47 (Nat.le_of_ble_eq_true rfl) rfl ?_
        refine s_iload_n E dX8_sits_48 rfl ?_
        refine s_if_ne E 55 dX8_sits_49 (by decide) (by omega) (fun h49 => ?_) (fun h49 => ?_)
        · have hfr := sFault_rng hp
          refine s_aload_n E dX8_sits_55 rfl ?_
          refine s_callVi E (c_X8_sittingFault _ hp) dX8_sits_56 mf_X8_sittingFault ml_X8_84 rfl (Nat.le_of_ble_eq_true rfl) (Nat.le_of_ble_eq_true rfl) (by decide) sh79 rfl rfl (fun r56 M56 h56 => ?_)
          obtain ⟨e56, f56⟩ := h56; subst r56; subst M56
          refine s_if_lt E 65 dX8_sits_59 (by decide) (by omega) (fun h59 => ?_) (fun h59 => ?_)
          · refine s_aload_n E dX8_sits_65 rfl ?_
            refine s_callVv E (c_X8_sitThrough M hp (by omega) hco hak hs) dX8_sits_66 mf_X8_sitThrough ml_X8_114 rfl (Nat.le_of_ble_eq_true rfl) (Nat.le_of_ble_eq_true rfl) (by decide) sh79 rfl rfl (fun M66 h66 => ?_)
            obtain ⟨e66, f66, g66⟩ := h66
            have s0 : SITM M 5 0 = M66 79 10 := by unfold SITM; rw [← e66, absM_rf0]
            have s1 : SITM M 5 1 = M66 79 11 := by unfold SITM; rw [← e66, absM_rf1]
            have s2 : SITM M 5 2 = M66 79 12 := by unfold SITM; rw [← e66, absM_rf2]
            refine s_iload_n E dX8_sits_69 rfl ?_
            refine s_iconst E dX8_sits_70 ?_
            refine s_icmp_ge E 102 dX8_sits_71 (by decide) (by omega) (by omega) (fun h71 => ?_) (fun h71 => ?_)
            · refine s_iload_n E dX8_sits_102 rfl ?_
              refine s_bipush E dX8_sits_103 rfl ?_
              refine s_irem E dX8_sits_105 (by omega) (by omega) ?_
              refine s_istore_n (ls' := [_, _, _, _]) E dX8_sits_106 (Nat.le_of_ble_eq_true rfl) rfl ?_
              refine s_iload_n E dX8_sits_107 rfl ?_
              refine s_bipush E dX8_sits_108 rfl ?_
              refine s_icmp_ge E 122 dX8_sits_110 (by decide) (by omega) (by omega) (fun h110 => ?_) (fun h110 => ?_)
              · refine s_iload_n E dX8_sits_122 rfl ?_
                refine s_bipush E dX8_sits_123 rfl ?_
                refine s_icmp_ge E 139 dX8_sits_125 (by decide) (by omega) (by omega) (fun h125 => ?_) (fun h125 => ?_)
                · have s5 : SITM M 3 (w % 10) = M66 84 (4 * (w % 10) + 3) := by unfold SITM; rw [← e66, absM_rd3 (by omega)]
                  refine s_aload_n E dX8_sits_139 rfl ?_
                  refine s_getR (kf := 8) E dX8_sits_140 rfl inb_X8 (Nat.le_of_ble_eq_true rfl) fl_X8_29 (by decide) sh79 rfl ?_
                  refine s_iconst E dX8_sits_143 ?_
                  refine s_iload_n E dX8_sits_144 rfl ?_
                  refine s_imul E dX8_sits_145 ?_
                  refine s_iconst E dX8_sits_146 ?_
                  refine s_iadd E dX8_sits_147 ?_
                  refine s_iald E dX8_sits_148 (by decide) sh84 (Nat.le_of_ble_eq_true rfl) (by omega) ?_
                  refine hret _ _ ?_ (fun q => by cases q) _ _ dX8_sits_149
                  refine ⟨?_, f66⟩
                  rw [if_pos (by omega), if_pos (by omega)]
                  unfold sitR
                  (repeat' split) <;> omega
                · have s4 : SITM M 0 (w % 10) = M66 84 (4 * (w % 10)) := by unfold SITM; rw [← e66, absM_rd0 (by omega)]
                  refine s_aload_n E dX8_sits_128 rfl ?_
                  refine s_getR (kf := 8) E dX8_sits_129 rfl inb_X8 (Nat.le_of_ble_eq_true rfl) fl_X8_29 (by decide) sh79 rfl ?_
                  refine s_iconst E dX8_sits_132 ?_
                  refine s_iload_n E dX8_sits_133 rfl ?_
                  refine s_imul E dX8_sits_134 ?_
                  refine s_iald E dX8_sits_135 (by decide) sh84 (Nat.le_of_ble_eq_true rfl) (by omega) ?_
                  refine s_goto E 149 dX8_sits_136 (by decide) ?_
                  refine hret _ _ ?_ (fun q => by cases q) _ _ dX8_sits_149
                  refine ⟨?_, f66⟩
                  rw [if_pos (by omega), if_pos (by omega)]
                  unfold sitR
                  (repeat' split) <;> omega
              · have s3 : SITM M 4 (w % 10) = M66 85 (w % 10) := by unfold SITM; rw [← e66, absM_rd4 (by omega)]
                refine s_aload_n E dX8_sits_113 rfl ?_
                refine s_getR (kf := 9) E dX8_sits_114 rfl inb_X8 (Nat.le_of_ble_eq_true rfl) fl_X8_32 (by decide) sh79 rfl ?_
                refine s_iload_n E dX8_sits_117 rfl ?_
                refine s_iald E dX8_sits_118 (by decide) sh85 (Nat.le_of_ble_eq_true rfl) (by omega) ?_
                refine s_goto E 149 dX8_sits_119 (by decide) ?_
                refine hret _ _ ?_ (fun q => by cases q) _ _ dX8_sits_149
                refine ⟨?_, f66⟩
                rw [if_pos (by omega), if_pos (by omega)]
                unfold sitR
                (repeat' split) <;> omega
            · refine s_iload_n E dX8_sits_74 rfl ?_
              refine s_if_ne E 85 dX8_sits_75 (by decide) (by omega) (fun h75 => ?_) (fun h75 => ?_)
              · refine s_iload_n E dX8_sits_85 rfl ?_
                refine s_iconst E dX8_sits_86 ?_
                refine s_icmp_ne E 97 dX8_sits_87 (by decide) (by omega) (by omega) (fun h87 => ?_) (fun h87 => ?_)
                · refine s_aload_n E dX8_sits_97 rfl ?_
                  refine s_getI (kf := 11) E 11 rfl dX8_sits_98 rfl inb_X8 (Nat.le_of_ble_eq_true rfl) fl_X8_94 (by decide) sh79 rfl ?_
                  refine hret _ _ ?_ (fun q => by cases q) _ _ dX8_sits_101
                  refine ⟨?_, f66⟩
                  rw [if_pos (by omega), if_pos (by omega)]
                  unfold sitR
                  (repeat' split) <;> omega
                · refine s_aload_n E dX8_sits_90 rfl ?_
                  refine s_getI (kf := 12) E 12 rfl dX8_sits_91 rfl inb_X8 (Nat.le_of_ble_eq_true rfl) fl_X8_100 (by decide) sh79 rfl ?_
                  refine s_goto E 101 dX8_sits_94 (by decide) ?_
                  refine hret _ _ ?_ (fun q => by cases q) _ _ dX8_sits_101
                  refine ⟨?_, f66⟩
                  rw [if_pos (by omega), if_pos (by omega)]
                  unfold sitR
                  (repeat' split) <;> omega
              · refine s_aload_n E dX8_sits_78 rfl ?_
                refine s_getI (kf := 10) E 10 rfl dX8_sits_79 rfl inb_X8 (Nat.le_of_ble_eq_true rfl) fl_X8_97 (by decide) sh79 rfl ?_
                refine s_goto E 101 dX8_sits_82 (by decide) ?_
                refine hret _ _ ?_ (fun q => by cases q) _ _ dX8_sits_101
                refine ⟨?_, f66⟩
                rw [if_pos (by omega), if_pos (by omega)]
                unfold sitR
                (repeat' split) <;> omega
          · refine s_bipush E dX8_sits_62 rfl ?_
            refine hret _ _ ?_ (fun q => by cases q) _ _ dX8_sits_64
            exact ⟨by (repeat' split) <;> first | rfl | omega, KpM.rf M⟩
        · exact absurd h49 (by decide)
      · refine s_iload_n E dX8_sits_31 rfl ?_
        refine s_bipush E dX8_sits_32 rfl ?_
        refine s_bipush E dX8_sits_34 rfl ?_
        refine s_callSi E (c_X8_in _ _ _ _ (by omega) (by omega) (by omega)) dX8_sits_36 mf_X8_in ml_X8_63 rfl (Nat.le_of_ble_eq_true rfl) (Nat.le_of_ble_eq_true rfl) rfl (fun r36 M36 h36 => ?_)
        obtain ⟨e36, f36⟩ := h36; subst r36; subst M36
        refine s_ifeqB E 46 dX8_sits_39 (by decide) (fun h39 => ?_) (fun h39 => ?_)
        · refine s_iconst E dX8_sits_46 ?_
          refine s_istore_n (ls' := [_, _, _, _]) E dX8_sits_47 (Nat.le_of_ble_eq_true rfl) rfl ?_
          refine s_iload_n E dX8_sits_48 rfl ?_
          refine s_if_ne E 55 dX8_sits_49 (by decide) (by omega) (fun h49 => ?_) (fun h49 => ?_)
          · exact absurd h49 (by decide)
          · refine s_bipush E dX8_sits_52 rfl ?_
            refine hret _ _ ?_ (fun q => by cases q) _ _ dX8_sits_54
            exact ⟨by (repeat' split) <;> first | rfl | omega, KpM.rf M⟩
        · refine s_iconst E dX8_sits_42 ?_
          refine s_goto E 47 dX8_sits_43 (by decide) ?_
          refine s_istore_n (ls' := [_, _, _, _]) E dX8_sits_47 (Nat.le_of_ble_eq_true rfl) rfl ?_
          refine s_iload_n E dX8_sits_48 rfl ?_
          refine s_if_ne E 55 dX8_sits_49 (by decide) (by omega) (fun h49 => ?_) (fun h49 => ?_)
          · have hfr := sFault_rng hp
            refine s_aload_n E dX8_sits_55 rfl ?_
            refine s_callVi E (c_X8_sittingFault _ hp) dX8_sits_56 mf_X8_sittingFault ml_X8_84 rfl (Nat.le_of_ble_eq_true rfl) (Nat.le_of_ble_eq_true rfl) (by decide) sh79 rfl rfl (fun r56 M56 h56 => ?_)
            obtain ⟨e56, f56⟩ := h56; subst r56; subst M56
            refine s_if_lt E 65 dX8_sits_59 (by decide) (by omega) (fun h59 => ?_) (fun h59 => ?_)
            · refine s_aload_n E dX8_sits_65 rfl ?_
              refine s_callVv E (c_X8_sitThrough M hp (by omega) hco hak hs) dX8_sits_66 mf_X8_sitThrough ml_X8_114 rfl (Nat.le_of_ble_eq_true rfl) (Nat.le_of_ble_eq_true rfl) (by decide) sh79 rfl rfl (fun M66 h66 => ?_)
              obtain ⟨e66, f66, g66⟩ := h66
              have s0 : SITM M 5 0 = M66 79 10 := by unfold SITM; rw [← e66, absM_rf0]
              have s1 : SITM M 5 1 = M66 79 11 := by unfold SITM; rw [← e66, absM_rf1]
              have s2 : SITM M 5 2 = M66 79 12 := by unfold SITM; rw [← e66, absM_rf2]
              refine s_iload_n E dX8_sits_69 rfl ?_
              refine s_iconst E dX8_sits_70 ?_
              refine s_icmp_ge E 102 dX8_sits_71 (by decide) (by omega) (by omega) (fun h71 => ?_) (fun h71 => ?_)
              · refine s_iload_n E dX8_sits_102 rfl ?_
                refine s_bipush E dX8_sits_103 rfl ?_
                refine s_irem E dX8_sits_105 (by omega) (by omega) ?_
                refine s_istore_n (ls' := [_, _, _, _]) E dX8_sits_106 (Nat.le_of_ble_eq_true rfl) rfl ?_
                refine s_iload_n E dX8_sits_107 rfl ?_
                refine s_bipush E dX8_sits_108 rfl ?_
                refine s_icmp_ge E 122 dX8_sits_110 (by decide) (by omega) (by omega) (fun h110 => ?_) (fun h110 => ?_)
                · refine s_iload_n E dX8_sits_122 rfl ?_
                  refine s_bipush E dX8_sits_123 rfl ?_
                  refine s_icmp_ge E 139 dX8_sits_125 (by decide) (by omega) (by omega) (fun h125 => ?_) (fun h125 => ?_)
                  · have s5 : SITM M 3 (w % 10) = M66 84 (4 * (w % 10) + 3) := by unfold SITM; rw [← e66, absM_rd3 (by omega)]
                    refine s_aload_n E dX8_sits_139 rfl ?_
                    refine s_getR (kf := 8) E dX8_sits_140 rfl inb_X8 (Nat.le_of_ble_eq_true rfl) fl_X8_29 (by decide) sh79 rfl ?_
                    refine s_iconst E dX8_sits_143 ?_
                    refine s_iload_n E dX8_sits_144 rfl ?_
                    refine s_imul E dX8_sits_145 ?_
                    refine s_iconst E dX8_sits_146 ?_
                    refine s_iadd E dX8_sits_147 ?_
                    refine s_iald E dX8_sits_148 (by decide) sh84 (Nat.le_of_ble_eq_true rfl) (by omega) ?_
                    refine hret _ _ ?_ (fun q => by cases q) _ _ dX8_sits_149
                    refine ⟨?_, f66⟩
                    rw [if_pos (by omega), if_pos (by omega)]
                    unfold sitR
                    (repeat' split) <;> omega
                  · have s4 : SITM M 0 (w % 10) = M66 84 (4 * (w % 10)) := by unfold SITM; rw [← e66, absM_rd0 (by omega)]
                    refine s_aload_n E dX8_sits_128 rfl ?_
                    refine s_getR (kf := 8) E dX8_sits_129 rfl inb_X8 (Nat.le_of_ble_eq_true rfl) fl_X8_29 (by decide) sh79 rfl ?_
                    refine s_iconst E dX8_sits_132 ?_
                    refine s_iload_n E dX8_sits_133 rfl ?_
                    refine s_imul E dX8_sits_134 ?_
                    refine s_iald E dX8_sits_135 (by decide) sh84 (Nat.le_of_ble_eq_true rfl) (by omega) ?_
                    refine s_goto E 149 dX8_sits_136 (by decide) ?_
                    refine hret _ _ ?_ (fun q => by cases q) _ _ dX8_sits_149
                    refine ⟨?_, f66⟩
                    rw [if_pos (by omega), if_pos (by omega)]
                    unfold sitR
                    (repeat' split) <;> omega
                · have s3 : SITM M 4 (w % 10) = M66 85 (w % 10) := by unfold SITM; rw [← e66, absM_rd4 (by omega)]
                  refine s_aload_n E dX8_sits_113 rfl ?_
                  refine s_getR (kf := 9) E dX8_sits_114 rfl inb_X8 (Nat.le_of_ble_eq_true rfl) fl_X8_32 (by decide) sh79 rfl ?_
                  refine s_iload_n E dX8_sits_117 rfl ?_
                  refine s_iald E dX8_sits_118 (by decide) sh85 (Nat.le_of_ble_eq_true rfl) (by omega) ?_
                  refine s_goto E 149 dX8_sits_119 (by decide) ?_
                  refine hret _ _ ?_ (fun q => by cases q) _ _ dX8_sits_149
                  refine ⟨?_, f66⟩
                  rw [if_pos (by omega), if_pos (by omega)]
                  unfold sitR
                  (repeat' split) <;> omega
              · refine s_iload_n E dX8_sits_74 rfl ?_
                refine s_if_ne E 85 dX8_sits_75 (by decide) (by omega) (fun h75 => ?_) (fun h75 => ?_)
                · refine s_iload_n E dX8_sits_85 rfl ?_
                  refine s_iconst E dX8_sits_86 ?_
                  refine s_icmp_ne E 97 dX8_sits_87 (by decide) (by omega) (by omega) (fun h87 => ?_) (fun h87 => ?_)
                  · refine s_aload_n E dX8_sits_97 rfl ?_
                    refine s_getI (kf := 11) E 11 rfl dX8_sits_98 rfl inb_X8 (Nat.le_of_ble_eq_true rfl) fl_X8_94 (by decide) sh79 rfl ?_
                    refine hret _ _ ?_ (fun q => by cases q) _ _ dX8_sits_101
                    refine ⟨?_, f66⟩
                    rw [if_pos (by omega), if_pos (by omega)]
                    unfold sitR
                    (repeat' split) <;> omega
                  · refine s_aload_n E dX8_sits_90 rfl ?_
                    refine s_getI (kf := 12) E 12 rfl dX8_sits_91 rfl inb_X8 (Nat.le_of_ble_eq_true rfl) fl_X8_100 (by decide) sh79 rfl ?_
                    refine s_goto E 101 dX8_sits_94 (by decide) ?_
                    refine hret _ _ ?_ (fun q => by cases q) _ _ dX8_sits_101
                    refine ⟨?_, f66⟩
                    rw [if_pos (by omega), if_pos (by omega)]
                    unfold sitR
                    (repeat' split) <;> omega
                · refine s_aload_n E dX8_sits_78 rfl ?_
                  refine s_getI (kf := 10) E 10 rfl dX8_sits_79 rfl inb_X8 (Nat.le_of_ble_eq_true rfl) fl_X8_97 (by decide) sh79 rfl ?_
                  refine s_goto E 101 dX8_sits_82 (by decide) ?_
                  refine hret _ _ ?_ (fun q => by cases q) _ _ dX8_sits_101
                  refine ⟨?_, f66⟩
                  rw [if_pos (by omega), if_pos (by omega)]
                  unfold sitR
                  (repeat' split) <;> omega
            · refine s_bipush E dX8_sits_62 rfl ?_
              refine hret _ _ ?_ (fun q => by cases q) _ _ dX8_sits_64
              exact ⟨by (repeat' split) <;> first | rfl | omega, KpM.rf M⟩
          · exact absurd h49 (by decide)

set_option maxRecDepth 100000 in
set_option maxHeartbeats 4000000 in
theorem lp_X8_sit_c {v : Ev} {as : List Nat} (M M0 : Mm) (hf : sFault (M 81) (M 79 3) = -6) (hw : SITM M 5 1 = 0) (e0 : absM M0 = SITM M) (k0 : KpM M M0) (E : Cx v cX8_sit 2 yX8_sit.cls 7) (hret : RetI v as cX8_sit .int (fun r M' => (¬ (sFault (M 81) (M 79 3) = -6 ∧ SITM M 5 1 = 0) → r = -5 ∧ KpM M M') ∧ (sFault (M 81) (M 79 3) = -6 ∧ SITM M 5 1 = 0 → r = SITM M 5 0 ∧ (∀ a b, ¬ (84 ≤ a ∧ a ≤ 92) → ¬ (a = 79 ∧ 10 ≤ b ∧ b ≤ 12) → M' a b = if a = 79 ∧ b = 3 then 0 else if a = 80 ∧ 0 ≤ b ∧ b < 24 then SITM M (b % 4) (b / 4) else M a b)))) : ∀ (N : Nat) (M1 : Mm) (i : Int), (24 - i).toNat < N → (0 ≤ i ∧ i ≤ 24) → (∀ a b, M1 a b = if a = 80 ∧ 0 ≤ b ∧ b < i then M0 84 b else M0 a b) → Ws v as SH 0 0 26 [some (rv 79), some (iv i)] [] M1 := by
  intro N
  induction N with
  | zero =>
    intro M1 i hN
    exact absurd hN (Nat.not_lt_zero _)
  | succ N ih =>
    intro M1 i hN g0 g1
    refine s_iload_n E dX8_sit_26 rfl ?_
    refine s_bipush E dX8_sit_27 rfl ?_
    refine s_icmp_ge E 50 dX8_sit_29 (by decide) (by omega) (by omega) (fun h29 => ?_) (fun h29 => ?_)
    · refine s_aload_n E dX8_sit_50 rfl ?_
      refine s_iconst E dX8_sit_51 ?_
      refine s_putI (kf := 3) E 3 rfl dX8_sit_52 rfl inb_X8 tyX8_ok nmX8 (Nat.le_of_ble_eq_true rfl) ⟨rfl, rfl⟩ fl_X8_75 (by decide) sh79 rfl ?_
      refine s_aload_n E dX8_sit_55 rfl ?_
      refine s_getI (kf := 10) E 10 rfl dX8_sit_56 rfl inb_X8 (Nat.le_of_ble_eq_true rfl) fl_X8_97 (by decide) sh79 rfl ?_
      rw [upm_ne (Or.inr (show (10 : Int) ≠ 3 by decide)), g1, if_neg (by omega), ← absM_rf0 (M := M0), e0]
      refine hret _ _ ?_ (fun q => by cases q) _ _ dX8_sit_59
      obtain rfl : i = 24 := by omega
      refine ⟨fun q => absurd ⟨hf, hw⟩ q, fun _ => ⟨rfl, fun a b q1 q2 => ?_⟩⟩
      unfold upm
      by_cases c1 : a = 79 ∧ b = 3
      · rw [if_pos c1, if_pos c1]
      · rw [if_neg c1, if_neg c1, g1]
        by_cases c2 : a = 80 ∧ 0 ≤ b ∧ b < 24
        · rw [if_pos c2, if_pos c2, ← e0]
          unfold absM
          rw [if_pos (by omega)]
          congr 1
          omega
        · rw [if_neg c2, if_neg c2, k0 a b q1 q2]
    · refine s_aload_n E dX8_sit_32 rfl ?_
      refine s_getR (kf := 0) E dX8_sit_33 rfl inb_X8 (Nat.le_of_ble_eq_true rfl) fl_X8_7 (by decide) sh79 rfl ?_
      refine s_iload_n E dX8_sit_36 rfl ?_
      refine s_aload_n E dX8_sit_37 rfl ?_
      refine s_getR (kf := 8) E dX8_sit_38 rfl inb_X8 (Nat.le_of_ble_eq_true rfl) fl_X8_29 (by decide) sh79 rfl ?_
      refine s_iload_n E dX8_sit_41 rfl ?_
      refine s_iald E dX8_sit_42 (by decide) sh84 (Nat.le_of_ble_eq_true rfl) (by omega) ?_
      rw [g1 84 i, if_neg (by omega)]
      refine s_iast E dX8_sit_43 (by decide) sh80 (Nat.le_of_ble_eq_true rfl) (by omega) ?_
      refine s_iinc (ls' := [_, _]) E dX8_sit_44 rfl rfl ?_
      refine s_goto E 26 dX8_sit_47 (by decide) ?_
      refine ih _ _ (by omega) (by omega) (fun a b => ?_)
      unfold upm
      rw [g1 a b]
      by_cases c : a = 80 ∧ b = i
      · rw [if_pos c, if_pos (by omega), c.2]
      · rw [if_neg c]
        (repeat' split) <;> first | rfl | omega

set_option maxRecDepth 100000 in
set_option maxHeartbeats 4000000 in
theorem c_X8_sit (M : Mm) (hp : PadOK (M 81) (M 79 3)) (hco : 0 ≤ M 79 1 ∧ M 79 1 ≤ 99) (hak : 0 ≤ M 79 2 ∧ M 79 2 ≤ 99) (hs : ∀ k, 0 ≤ k → k < 6 → 0 ≤ M 80 (4 * k) ∧ M 80 (4 * k) ≤ 999 ∧ 0 ≤ M 80 (4 * k + 1) ∧ M 80 (4 * k + 1) ≤ 1 ∧ 0 ≤ M 80 (4 * k + 2) ∧ M 80 (4 * k + 2) ≤ 1 ∧ 0 ≤ M 80 (4 * k + 3) ∧ M 80 (4 * k + 3) ≤ 99) : CtI yX8_sit cX8_sit 2 .int 7 SH [rv 79] M (fun r M' => (¬ (sFault (M 81) (M 79 3) = -6 ∧ SITM M 5 1 = 0) → r = -5 ∧ KpM M M') ∧ (sFault (M 81) (M 79 3) = -6 ∧ SITM M 5 1 = 0 → r = SITM M 5 0 ∧ (∀ a b, ¬ (84 ≤ a ∧ a ≤ 92) → ¬ (a = 79 ∧ 10 ≤ b ∧ b ≤ 12) → M' a b = if a = 79 ∧ b = 3 then 0 else if a = 80 ∧ 0 ≤ b ∧ b < 24 then SITM M (b % 4) (b / 4) else M a b))) := by
  refine CtI.of rfl (Nat.le_of_ble_eq_true rfl) (Or.inl rfl) (fun v as E hret => ?_)
  show Ws v as SH 0 0 0 [some (rv 79), none] [] M
  have hfr := sFault_rng hp
  refine s_aload_n E dX8_sit_0 rfl ?_
  refine s_callVi E (c_X8_sittingFault _ hp) dX8_sit_1 mf_X8_sittingFault ml_X8_84 rfl (Nat.le_of_ble_eq_true rfl) (Nat.le_of_ble_eq_true rfl) (by decide) sh79 rfl rfl (fun r1 M1 h1 => ?_)
  obtain ⟨e1, f1⟩ := h1; subst r1; subst M1
  refine s_if_lt E 10 dX8_sit_4 (by decide) (by omega) (fun h4 => ?_) (fun h4 => ?_)
  · refine s_aload_n E dX8_sit_10 rfl ?_
    refine s_callVv E (c_X8_sitThrough M hp (by omega) hco hak hs) dX8_sit_11 mf_X8_sitThrough ml_X8_114 rfl (Nat.le_of_ble_eq_true rfl) (Nat.le_of_ble_eq_true rfl) (by decide) sh79 rfl rfl (fun M11 h11 => ?_)
    obtain ⟨e66, f66, g66⟩ := h11
    have s0 : SITM M 5 0 = M11 79 10 := by unfold SITM; rw [← e66, absM_rf0]
    have s1 : SITM M 5 1 = M11 79 11 := by unfold SITM; rw [← e66, absM_rf1]
    have s2 : SITM M 5 2 = M11 79 12 := by unfold SITM; rw [← e66, absM_rf2]
    have b5 := g66.2
    rw [e66] at b5
    have b6 : 0 ≤ SITM M 5 1 ∧ SITM M 5 1 ≤ 400 := ⟨b5.1, b5.2.1⟩
    refine s_aload_n E dX8_sit_14 rfl ?_
    refine s_getI (kf := 11) E 11 rfl dX8_sit_15 rfl inb_X8 (Nat.le_of_ble_eq_true rfl) fl_X8_94 (by decide) sh79 rfl ?_
    refine s_if_le E 24 dX8_sit_18 (by decide) (by omega) (fun h18 => ?_) (fun h18 => ?_)
    · refine s_iconst E dX8_sit_24 ?_
      refine s_istore_n (ls' := [_, _]) E dX8_sit_25 (Nat.le_of_ble_eq_true rfl) rfl ?_
      exact lp_X8_sit_c M M11 (by omega) (by omega) e66 f66 E hret 25 M11 0 (by decide) (by decide) (fun a b => (if_neg (by omega)).symm)
    · refine s_bipush E dX8_sit_21 rfl ?_
      refine hret _ _ ?_ (fun q => by cases q) _ _ dX8_sit_23
      exact ⟨fun _ => ⟨rfl, f66⟩, fun q => by omega⟩
  · refine s_bipush E dX8_sit_7 rfl ?_
    refine hret _ _ ?_ (fun q => by cases q) _ _ dX8_sit_9
    exact ⟨fun _ => ⟨rfl, KpM.rf M⟩, fun q => by omega⟩
