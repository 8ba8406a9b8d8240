/-! ===== the reference: unit ===== -/
theorem Bd_at {S : HS} {t : TX} (h : Bd S t) : t.1 ≤ 208 ∧ t.2.2.2.1 ≤ 416 := by
  obtain ⟨_, h2, h3, _⟩ := h
  omega
set_option maxHeartbeats 4000000 in
theorem c_X9_unit {l : Launch} {G : va_G} {cy : Nat → ClassId} (D : Nat) (hD : D ≤ 8) (t : TX) (S : HS) (h : ShM S) (hz : 0 ≤ (mI S 47).toInt ∧ (mI S 47).toInt ≤ 200) (hBd : Bd S t) (hw : t.2.1 = -1) (hdp : t.2.2.1 = D) (hW : D < 8 → ∀ t1 : TX, Bd S t1 → t1.2.1 = -1 → t1.2.2.1 = D + 1 → Cn l G cy yX9_whole cX9_whole 1 none (3 * (7 - D) + 4) [.ref 2000] (txM S t1) 0 0 (qV (fun S2 => ∃ u n, prM S n 2 t1 = some u ∧ S2 = txM S u))) : Cn l G cy yX9_unit cX9_unit 4 none (3 * (8 - D) + 2) [.ref 2000] (txM S t) 0 0 (qV (fun S2 => ∃ u n, prM S n 0 t = some u ∧ S2 = txM S u)) := by
  refine Cn.of [some (.ref 2000), none, none, none] (by decide) rfl (Nat.le_of_ble_eq_true rfl) ?_
  have hsz : szM S ≤ 200 := by unfold szM nn; omega
  obtain ⟨hb1, hb2, hb3, hb4⟩ := id hBd
  have ht := hb1 hw
  obtain ⟨k1, k2⟩ := lkP_le ht
  have hsh : ShM (txM S ((lkP S t.1), t.2)) := tx_sh h _
  refine r_aload_n dX9_unit_0 rfl rfl ?_
  refine r_invV0i dX9_unit_1 lm_X9_227 rfl (c_X9_look t S h hz (by omega)) (by first | exact Nat.le_of_ble_eq_true rfl | omega) (by first | exact Nat.le_of_ble_eq_true rfl | omega) (Nat.zero_le _) (Nat.zero_le _) (fun r1 S1 hq1 => ?_)
  obtain ⟨hr1, hz1⟩ := hq1
  subst hz1
  subst hr1
  refine r_ist1 dX9_unit_4 (by first | exact Nat.le_of_ble_eq_true rfl | omega) rfl ?_
  refine r_iload_n dX9_unit_5 rfl rfl ?_
  refine r_bipush (v := 40) dX9_unit_6 (by decide) ?_
  refine r_icmp_ne 86 dX9_unit_8 (by decide) (fun q8 => ?_) (fun q8 => ?_)
  · skip
    have hnb : ¬ (lkC S (lkP S t.1) = 40 ∧ t.2.2.1 < 8) := fun z => q8 z.1
    refine r_iload_n dX9_unit_86 rfl rfl ?_
    refine r_bipush (v := 99) dX9_unit_87 (by decide) ?_
    refine r_icmp_ne 96 dX9_unit_89 (by decide) (fun q89 => ?_) (fun q89 => ?_)
    · skip
      refine r_iload_n dX9_unit_96 rfl rfl ?_
      refine r_bipush (v := 115) dX9_unit_97 (by decide) ?_
      refine r_icmp_ne 106 dX9_unit_99 (by decide) (fun q99 => ?_) (fun q99 => ?_)
      · skip
        refine r_iload_n dX9_unit_106 rfl rfl ?_
        refine r_bipush (v := 119) dX9_unit_107 (by decide) ?_
        refine r_icmp_ne 116 dX9_unit_109 (by decide) (fun q109 => ?_) (fun q109 => ?_)
        · skip
          refine r_iload_n dX9_unit_116 rfl rfl ?_
          refine r_bipush (v := 97) dX9_unit_117 (by decide) ?_
          refine r_icmp_ne 126 dX9_unit_119 (by decide) (fun q119 => ?_) (fun q119 => ?_)
          · skip
            refine r_iload_n dX9_unit_126 rfl rfl ?_
            refine r_bipush (v := 112) dX9_unit_127 (by decide) ?_
            refine r_icmp_ne 136 dX9_unit_129 (by decide) (fun q129 => ?_) (fun q129 => ?_)
            · skip
              have hlt : ltM (lkC S (lkP S t.1)) = -1 := by unfold ltM; rw [if_neg q89, if_neg q99, if_neg q109, if_neg q119, if_neg q129]
              refine r_iconst (v := (-1)) dX9_unit_136 (by decide) ?_
              rw [← hlt]
              refine r_ist2 dX9_unit_137 (by first | exact Nat.le_of_ble_eq_true rfl | omega) rfl ?_
              refine r_iload_n dX9_unit_138 rfl rfl ?_
              refine r_iconst (v := (-1)) dX9_unit_139 (by decide) ?_
              refine r_icmp_ne 148 dX9_unit_140 (by decide) (fun q140 => ?_) (fun q140 => ?_)
              · skip
                have hl : ¬ ltM (lkC S (lkP S t.1)) = -1 := q140
                have hp : (lkP S t.1) < szM S := lkC_in (fun z => hl (by rw [z]; rfl))
                obtain ⟨m1, m2⟩ := lkP_le (S := S) (a := (lkP S t.1) + 1) (by omega)
                refine r_aload_n dX9_unit_148 rfl rfl ?_
                refine r_dup dX9_unit_149 rfl ?_
                refine r_getI dX9_unit_150 lf_X9_218 rfl rfl ?_
                rw [show sI (txM S ((lkP S t.1), t.2)) (fid 9 48) 2000 = nI (lkP S t.1) from tx_48]
                refine r_iconst (v := 1) dX9_unit_153 (by decide) ?_
                refine r_iadd dX9_unit_154 ?_
                refine r_putI dX9_unit_155 (lp_X9_218 _) rfl rfl ?_
                rw [nI_1, tx_s48]
                refine r_aload_n dX9_unit_158 rfl rfl ?_
                refine r_invV0i dX9_unit_159 lm_X9_227 rfl (c_X9_look ((lkP S t.1) + 1, t.2) S h hz (by show (lkP S t.1) + 1 ≤ 215; omega)) (by first | exact Nat.le_of_ble_eq_true rfl | omega) (by first | exact Nat.le_of_ble_eq_true rfl | omega) (Nat.zero_le _) (Nat.zero_le _) (fun r159 S159 hq159 => ?_)
                obtain ⟨hr159, hz159⟩ := hq159
                subst hz159
                subst hr159
                have hsh : ShM (txM S ((lkP S (lkP S t.1 + 1)), t.2)) := tx_sh h _
                refine r_ist3 dX9_unit_162 (by first | exact Nat.le_of_ble_eq_true rfl | omega) rfl ?_
                refine r_iload_n dX9_unit_163 rfl rfl ?_
                refine r_bipush (v := 61) dX9_unit_164 (by decide) ?_
                refine r_icmp_eq 186 dX9_unit_166 (by decide) (fun q166 => ?_) (fun q166 => ?_)
                · skip
                  have hsg : lkC S (lkP S (lkP S t.1 + 1)) = 61 ∨ lkC S (lkP S (lkP S t.1 + 1)) = 60 ∨ lkC S (lkP S (lkP S t.1 + 1)) = 62 := Or.inl q166
                  have hp2 : (lkP S (lkP S t.1 + 1)) < szM S := lkC_in (fun z => by rw [z] at hsg; exact absurd hsg (by decide))
                  refine r_aload_n dX9_unit_186 rfl rfl ?_
                  refine r_dup dX9_unit_187 rfl ?_
                  refine r_getI dX9_unit_188 lf_X9_218 rfl rfl ?_
                  rw [show sI (txM S ((lkP S (lkP S t.1 + 1)), t.2)) (fid 9 48) 2000 = nI (lkP S (lkP S t.1 + 1)) from tx_48]
                  refine r_iconst (v := 1) dX9_unit_191 (by decide) ?_
                  refine r_iadd dX9_unit_192 ?_
                  refine r_putI dX9_unit_193 (lp_X9_218 _) rfl rfl ?_
                  rw [nI_1, tx_s48]
                  refine R.heap (S2 := txM S ((lkP S (lkP S t.1 + 1)) + 1, t.2)) rfl ?_
                  refine r_aload_n dX9_unit_196 rfl rfl ?_
                  refine r_iconst (v := 0) dX9_unit_197 (by decide) ?_
                  refine r_invV1v dX9_unit_198 lm_X9_239 rfl (c_X9_say 0 (txM S ((lkP S (lkP S t.1 + 1)) + 1, t.2)) (tx_sh h _) (by rw [show mI (txM S ((lkP S (lkP S t.1 + 1)) + 1, t.2)) 51 = nI t.2.2.2.1 from tx_51, nI_toInt (by omega)]; omega)) (by first | exact Nat.le_of_ble_eq_true rfl | omega) (by first | exact Nat.le_of_ble_eq_true rfl | omega) (Nat.zero_le _) (Nat.zero_le _) (fun S198 hq198 => ?_)
                  rw [tx_sayS (t := ((lkP S (lkP S t.1 + 1)) + 1, t.2)) (by show t.2.2.2.1 < 420; omega)] at hq198
                  subst hq198
                  refine r_aload_n dX9_unit_201 rfl rfl ?_
                  refine r_iload_n dX9_unit_202 rfl rfl ?_
                  refine r_invV1v dX9_unit_203 lm_X9_239 rfl (c_X9_say (ltM (lkC S (lkP S t.1))) (txM S ((lkP S (lkP S t.1 + 1)) + 1, t.2.1, t.2.2.1, t.2.2.2.1 + 1, (upd t.2.2.2.2 t.2.2.2.1 0))) (tx_sh h _) (by rw [show mI (txM S ((lkP S (lkP S t.1 + 1)) + 1, t.2.1, t.2.2.1, t.2.2.2.1 + 1, (upd t.2.2.2.2 t.2.2.2.1 0))) 51 = nI (t.2.2.2.1 + 1) from tx_51, nI_toInt (by omega)]; omega)) (by first | exact Nat.le_of_ble_eq_true rfl | omega) (by first | exact Nat.le_of_ble_eq_true rfl | omega) (Nat.zero_le _) (Nat.zero_le _) (fun S203 hq203 => ?_)
                  rw [tx_sayS (t := ((lkP S (lkP S t.1 + 1)) + 1, t.2.1, t.2.2.1, t.2.2.2.1 + 1, (upd t.2.2.2.2 t.2.2.2.1 0))) (by show t.2.2.2.1 + 1 < 420; omega)] at hq203
                  subst hq203
                  refine r_aload_n dX9_unit_206 rfl rfl ?_
                  refine r_iload_n dX9_unit_207 rfl rfl ?_
                  refine r_invV1v dX9_unit_208 lm_X9_239 rfl (c_X9_say (lkC S (lkP S (lkP S t.1 + 1))) (txM S ((lkP S (lkP S t.1 + 1)) + 1, t.2.1, t.2.2.1, t.2.2.2.1 + 1 + 1, (upd (upd t.2.2.2.2 t.2.2.2.1 0) (t.2.2.2.1 + 1) (ltM (lkC S (lkP S t.1)))))) (tx_sh h _) (by rw [show mI (txM S ((lkP S (lkP S t.1 + 1)) + 1, t.2.1, t.2.2.1, t.2.2.2.1 + 1 + 1, (upd (upd t.2.2.2.2 t.2.2.2.1 0) (t.2.2.2.1 + 1) (ltM (lkC S (lkP S t.1)))))) 51 = nI (t.2.2.2.1 + 1 + 1) from tx_51, nI_toInt (by omega)]; omega)) (by first | exact Nat.le_of_ble_eq_true rfl | omega) (by first | exact Nat.le_of_ble_eq_true rfl | omega) (Nat.zero_le _) (Nat.zero_le _) (fun S208 hq208 => ?_)
                  rw [tx_sayS (t := ((lkP S (lkP S t.1 + 1)) + 1, t.2.1, t.2.2.1, t.2.2.2.1 + 1 + 1, (upd (upd t.2.2.2.2 t.2.2.2.1 0) (t.2.2.2.1 + 1) (ltM (lkC S (lkP S t.1)))))) (by show t.2.2.2.1 + 1 + 1 < 420; omega)] at hq208
                  subst hq208
                  refine R.heap (S2 := txM S ((lkP S (lkP S t.1 + 1)) + 1, t.2.1, t.2.2.1, t.2.2.2.1 + 3, upd (upd (upd t.2.2.2.2 t.2.2.2.1 0) (t.2.2.2.1 + 1) (ltM (lkC S (lkP S t.1)))) (t.2.2.2.1 + 2) (lkC S (lkP S (lkP S t.1 + 1))))) rfl ?_
                  refine r_aload_n dX9_unit_211 rfl rfl ?_
                  refine r_invV0v dX9_unit_212 lm_X9_243 rfl (c_X9_number ((lkP S (lkP S t.1 + 1)) + 1, t.2.1, t.2.2.1, t.2.2.2.1 + 3, upd (upd (upd t.2.2.2.2 t.2.2.2.1 0) (t.2.2.2.1 + 1) (ltM (lkC S (lkP S t.1)))) (t.2.2.2.1 + 2) (lkC S (lkP S (lkP S t.1 + 1)))) S h hz (by show (lkP S (lkP S t.1 + 1)) + 1 ≤ 215; omega) hw (by show t.2.2.2.1 + 3 < 420; omega)) (by first | exact Nat.le_of_ble_eq_true rfl | omega) (by first | exact Nat.le_of_ble_eq_true rfl | omega) (Nat.zero_le _) (Nat.zero_le _) (fun S212 hq212 => ?_)
                  replace hq212 := hq212.symm
                  subst hq212
                  exact r_vret dX9_unit_215 rfl (Nat.zero_le _) (Nat.zero_le _) ⟨rfl, ⟨atM S t, 1, prM_0a hnb, by unfold atM; rw [if_neg hl, if_pos hsg]⟩⟩
                · skip
                  refine r_iload_n dX9_unit_169 rfl rfl ?_
                  refine r_bipush (v := 60) dX9_unit_170 (by decide) ?_
                  refine r_icmp_eq 186 dX9_unit_172 (by decide) (fun q172 => ?_) (fun q172 => ?_)
                  · skip
                    have hsg : lkC S (lkP S (lkP S t.1 + 1)) = 61 ∨ lkC S (lkP S (lkP S t.1 + 1)) = 60 ∨ lkC S (lkP S (lkP S t.1 + 1)) = 62 := Or.inr (Or.inl q172)
                    have hp2 : (lkP S (lkP S t.1 + 1)) < szM S := lkC_in (fun z => by rw [z] at hsg; exact absurd hsg (by decide))
                    refine r_aload_n dX9_unit_186 rfl rfl ?_
                    refine r_dup dX9_unit_187 rfl ?_
                    refine r_getI dX9_unit_188 lf_X9_218 rfl rfl ?_
                    rw [show sI (txM S ((lkP S (lkP S t.1 + 1)), t.2)) (fid 9 48) 2000 = nI (lkP S (lkP S t.1 + 1)) from tx_48]
                    refine r_iconst (v := 1) dX9_unit_191 (by decide) ?_
                    refine r_iadd dX9_unit_192 ?_
                    refine r_putI dX9_unit_193 (lp_X9_218 _) rfl rfl ?_
                    rw [nI_1, tx_s48]
                    refine R.heap (S2 := txM S ((lkP S (lkP S t.1 + 1)) + 1, t.2)) rfl ?_
                    refine r_aload_n dX9_unit_196 rfl rfl ?_
                    refine r_iconst (v := 0) dX9_unit_197 (by decide) ?_
                    refine r_invV1v dX9_unit_198 lm_X9_239 rfl (c_X9_say 0 (txM S ((lkP S (lkP S t.1 + 1)) + 1, t.2)) (tx_sh h _) (by rw [show mI (txM S ((lkP S (lkP S t.1 + 1)) + 1, t.2)) 51 = nI t.2.2.2.1 from tx_51, nI_toInt (by omega)]; omega)) (by first | exact Nat.le_of_ble_eq_true rfl | omega) (by first | exact Nat.le_of_ble_eq_true rfl | omega) (Nat.zero_le _) (Nat.zero_le _) (fun S198 hq198 => ?_)
                    rw [tx_sayS (t := ((lkP S (lkP S t.1 + 1)) + 1, t.2)) (by show t.2.2.2.1 < 420; omega)] at hq198
                    subst hq198
                    refine r_aload_n dX9_unit_201 rfl rfl ?_
                    refine r_iload_n dX9_unit_202 rfl rfl ?_
                    refine r_invV1v dX9_unit_203 lm_X9_239 rfl (c_X9_say (ltM (lkC S (lkP S t.1))) (txM S ((lkP S (lkP S t.1 + 1)) + 1, t.2.1, t.2.2.1, t.2.2.2.1 + 1, (upd t.2.2.2.2 t.2.2.2.1 0))) (tx_sh h _) (by rw [show mI (txM S ((lkP S (lkP S t.1 + 1)) + 1, t.2.1, t.2.2.1, t.2.2.2.1 + 1, (upd t.2.2.2.2 t.2.2.2.1 0))) 51 = nI (t.2.2.2.1 + 1) from tx_51, nI_toInt (by omega)]; omega)) (by first | exact Nat.le_of_ble_eq_true rfl | omega) (by first | exact Nat.le_of_ble_eq_true rfl | omega) (Nat.zero_le _) (Nat.zero_le _) (fun S203 hq203 => ?_)
                    rw [tx_sayS (t := ((lkP S (lkP S t.1 + 1)) + 1, t.2.1, t.2.2.1, t.2.2.2.1 + 1, (upd t.2.2.2.2 t.2.2.2.1 0))) (by show t.2.2.2.1 + 1 < 420; omega)] at hq203
                    subst hq203
                    refine r_aload_n dX9_unit_206 rfl rfl ?_
                    refine r_iload_n dX9_unit_207 rfl rfl ?_
                    refine r_invV1v dX9_unit_208 lm_X9_239 rfl (c_X9_say (lkC S (lkP S (lkP S t.1 + 1))) (txM S ((lkP S (lkP S t.1 + 1)) + 1, t.2.1, t.2.2.1, t.2.2.2.1 + 1 + 1, (upd (upd t.2.2.2.2 t.2.2.2.1 0) (t.2.2.2.1 + 1) (ltM (lkC S (lkP S t.1)))))) (tx_sh h _) (by rw [show mI (txM S ((lkP S (lkP S t.1 + 1)) + 1, t.2.1, t.2.2.1, t.2.2.2.1 + 1 + 1, (upd (upd t.2.2.2.2 t.2.2.2.1 0) (t.2.2.2.1 + 1) (ltM (lkC S (lkP S t.1)))))) 51 = nI (t.2.2.2.1 + 1 + 1) from tx_51, nI_toInt (by omega)]; omega)) (by first | exact Nat.le_of_ble_eq_true rfl | omega) (by first | exact Nat.le_of_ble_eq_true rfl | omega) (Nat.zero_le _) (Nat.zero_le _) (fun S208 hq208 => ?_)
                    rw [tx_sayS (t := ((lkP S (lkP S t.1 + 1)) + 1, t.2.1, t.2.2.1, t.2.2.2.1 + 1 + 1, (upd (upd t.2.2.2.2 t.2.2.2.1 0) (t.2.2.2.1 + 1) (ltM (lkC S (lkP S t.1)))))) (by show t.2.2.2.1 + 1 + 1 < 420; omega)] at hq208
                    subst hq208
                    refine R.heap (S2 := txM S ((lkP S (lkP S t.1 + 1)) + 1, t.2.1, t.2.2.1, t.2.2.2.1 + 3, upd (upd (upd t.2.2.2.2 t.2.2.2.1 0) (t.2.2.2.1 + 1) (ltM (lkC S (lkP S t.1)))) (t.2.2.2.1 + 2) (lkC S (lkP S (lkP S t.1 + 1))))) rfl ?_
                    refine r_aload_n dX9_unit_211 rfl rfl ?_
                    refine r_invV0v dX9_unit_212 lm_X9_243 rfl (c_X9_number ((lkP S (lkP S t.1 + 1)) + 1, t.2.1, t.2.2.1, t.2.2.2.1 + 3, upd (upd (upd t.2.2.2.2 t.2.2.2.1 0) (t.2.2.2.1 + 1) (ltM (lkC S (lkP S t.1)))) (t.2.2.2.1 + 2) (lkC S (lkP S (lkP S t.1 + 1)))) S h hz (by show (lkP S (lkP S t.1 + 1)) + 1 ≤ 215; omega) hw (by show t.2.2.2.1 + 3 < 420; omega)) (by first | exact Nat.le_of_ble_eq_true rfl | omega) (by first | exact Nat.le_of_ble_eq_true rfl | omega) (Nat.zero_le _) (Nat.zero_le _) (fun S212 hq212 => ?_)
                    replace hq212 := hq212.symm
                    subst hq212
                    exact r_vret dX9_unit_215 rfl (Nat.zero_le _) (Nat.zero_le _) ⟨rfl, ⟨atM S t, 1, prM_0a hnb, by unfold atM; rw [if_neg hl, if_pos hsg]⟩⟩
                  · skip
                    refine r_iload_n dX9_unit_175 rfl rfl ?_
                    refine r_bipush (v := 62) dX9_unit_176 (by decide) ?_
                    refine r_icmp_eq 186 dX9_unit_178 (by decide) (fun q178 => ?_) (fun q178 => ?_)
                    · skip
                      have hsg : lkC S (lkP S (lkP S t.1 + 1)) = 61 ∨ lkC S (lkP S (lkP S t.1 + 1)) = 60 ∨ lkC S (lkP S (lkP S t.1 + 1)) = 62 := Or.inr (Or.inr q178)
                      have hp2 : (lkP S (lkP S t.1 + 1)) < szM S := lkC_in (fun z => by rw [z] at hsg; exact absurd hsg (by decide))
                      refine r_aload_n dX9_unit_186 rfl rfl ?_
                      refine r_dup dX9_unit_187 rfl ?_
                      refine r_getI dX9_unit_188 lf_X9_218 rfl rfl ?_
                      rw [show sI (txM S ((lkP S (lkP S t.1 + 1)), t.2)) (fid 9 48) 2000 = nI (lkP S (lkP S t.1 + 1)) from tx_48]
                      refine r_iconst (v := 1) dX9_unit_191 (by decide) ?_
                      refine r_iadd dX9_unit_192 ?_
                      refine r_putI dX9_unit_193 (lp_X9_218 _) rfl rfl ?_
                      rw [nI_1, tx_s48]
                      refine R.heap (S2 := txM S ((lkP S (lkP S t.1 + 1)) + 1, t.2)) rfl ?_
                      refine r_aload_n dX9_unit_196 rfl rfl ?_
                      refine r_iconst (v := 0) dX9_unit_197 (by decide) ?_
                      refine r_invV1v dX9_unit_198 lm_X9_239 rfl (c_X9_say 0 (txM S ((lkP S (lkP S t.1 + 1)) + 1, t.2)) (tx_sh h _) (by rw [show mI (txM S ((lkP S (lkP S t.1 + 1)) + 1, t.2)) 51 = nI t.2.2.2.1 from tx_51, nI_toInt (by omega)]; omega)) (by first | exact Nat.le_of_ble_eq_true rfl | omega) (by first | exact Nat.le_of_ble_eq_true rfl | omega) (Nat.zero_le _) (Nat.zero_le _) (fun S198 hq198 => ?_)
                      rw [tx_sayS (t := ((lkP S (lkP S t.1 + 1)) + 1, t.2)) (by show t.2.2.2.1 < 420; omega)] at hq198
                      subst hq198
                      refine r_aload_n dX9_unit_201 rfl rfl ?_
                      refine r_iload_n dX9_unit_202 rfl rfl ?_
                      refine r_invV1v dX9_unit_203 lm_X9_239 rfl (c_X9_say (ltM (lkC S (lkP S t.1))) (txM S ((lkP S (lkP S t.1 + 1)) + 1, t.2.1, t.2.2.1, t.2.2.2.1 + 1, (upd t.2.2.2.2 t.2.2.2.1 0))) (tx_sh h _) (by rw [show mI (txM S ((lkP S (lkP S t.1 + 1)) + 1, t.2.1, t.2.2.1, t.2.2.2.1 + 1, (upd t.2.2.2.2 t.2.2.2.1 0))) 51 = nI (t.2.2.2.1 + 1) from tx_51, nI_toInt (by omega)]; omega)) (by first | exact Nat.le_of_ble_eq_true rfl | omega) (by first | exact Nat.le_of_ble_eq_true rfl | omega) (Nat.zero_le _) (Nat.zero_le _) (fun S203 hq203 => ?_)
                      rw [tx_sayS (t := ((lkP S (lkP S t.1 + 1)) + 1, t.2.1, t.2.2.1, t.2.2.2.1 + 1, (upd t.2.2.2.2 t.2.2.2.1 0))) (by show t.2.2.2.1 + 1 < 420; omega)] at hq203
                      subst hq203
                      refine r_aload_n dX9_unit_206 rfl rfl ?_
                      refine r_iload_n dX9_unit_207 rfl rfl ?_
                      refine r_invV1v dX9_unit_208 lm_X9_239 rfl (c_X9_say (lkC S (lkP S (lkP S t.1 + 1))) (txM S ((lkP S (lkP S t.1 + 1)) + 1, t.2.1, t.2.2.1, t.2.2.2.1 + 1 + 1, (upd (upd t.2.2.2.2 t.2.2.2.1 0) (t.2.2.2.1 + 1) (ltM (lkC S (lkP S t.1)))))) (tx_sh h _) (by rw [show mI (txM S ((lkP S (lkP S t.1 + 1)) + 1, t.2.1, t.2.2.1, t.2.2.2.1 + 1 + 1, (upd (upd t.2.2.2.2 t.2.2.2.1 0) (t.2.2.2.1 + 1) (ltM (lkC S (lkP S t.1)))))) 51 = nI (t.2.2.2.1 + 1 + 1) from tx_51, nI_toInt (by omega)]; omega)) (by first | exact Nat.le_of_ble_eq_true rfl | omega) (by first | exact Nat.le_of_ble_eq_true rfl | omega) (Nat.zero_le _) (Nat.zero_le _) (fun S208 hq208 => ?_)
                      rw [tx_sayS (t := ((lkP S (lkP S t.1 + 1)) + 1, t.2.1, t.2.2.1, t.2.2.2.1 + 1 + 1, (upd (upd t.2.2.2.2 t.2.2.2.1 0) (t.2.2.2.1 + 1) (ltM (lkC S (lkP S t.1)))))) (by show t.2.2.2.1 + 1 + 1 < 420; omega)] at hq208
                      subst hq208
                      refine R.heap (S2 := txM S ((lkP S (lkP S t.1 + 1)) + 1, t.2.1, t.2.2.1, t.2.2.2.1 + 3, upd (upd (upd t.2.2.2.2 t.2.2.2.1 0) (t.2.2.2.1 + 1) (ltM (lkC S (lkP S t.1)))) (t.2.2.2.1 + 2) (lkC S (lkP S (lkP S t.1 + 1))))) rfl ?_
                      refine r_aload_n dX9_unit_211 rfl rfl ?_
                      refine r_invV0v dX9_unit_212 lm_X9_243 rfl (c_X9_number ((lkP S (lkP S t.1 + 1)) + 1, t.2.1, t.2.2.1, t.2.2.2.1 + 3, upd (upd (upd t.2.2.2.2 t.2.2.2.1 0) (t.2.2.2.1 + 1) (ltM (lkC S (lkP S t.1)))) (t.2.2.2.1 + 2) (lkC S (lkP S (lkP S t.1 + 1)))) S h hz (by show (lkP S (lkP S t.1 + 1)) + 1 ≤ 215; omega) hw (by show t.2.2.2.1 + 3 < 420; omega)) (by first | exact Nat.le_of_ble_eq_true rfl | omega) (by first | exact Nat.le_of_ble_eq_true rfl | omega) (Nat.zero_le _) (Nat.zero_le _) (fun S212 hq212 => ?_)
                      replace hq212 := hq212.symm
                      subst hq212
                      exact r_vret dX9_unit_215 rfl (Nat.zero_le _) (Nat.zero_le _) ⟨rfl, ⟨atM S t, 1, prM_0a hnb, by unfold atM; rw [if_neg hl, if_pos hsg]⟩⟩
                    · skip
                      refine r_aload_n dX9_unit_181 rfl rfl ?_
                      refine r_invV0v dX9_unit_182 lm_X9_236 rfl (c_X9_fail (txM S ((lkP S (lkP S t.1 + 1)), t.2)) hsh) (by first | exact Nat.le_of_ble_eq_true rfl | omega) (by first | exact Nat.le_of_ble_eq_true rfl | omega) (Nat.zero_le _) (Nat.zero_le _) (fun S182 hq182 => ?_)
                      rw [tx_fail (t := ((lkP S (lkP S t.1 + 1)), t.2)) hw] at hq182
                      subst hq182
                      exact r_vret dX9_unit_185 rfl (Nat.zero_le _) (Nat.zero_le _) ⟨rfl, ⟨atM S t, 1, prM_0a hnb, by unfold atM; rw [if_neg hl, if_neg (fun z => by rcases z with z | z | z; exact q166 z; exact q172 z; exact q178 z)]⟩⟩
              · skip
                refine r_aload_n dX9_unit_143 rfl rfl ?_
                refine r_invV0v dX9_unit_144 lm_X9_236 rfl (c_X9_fail (txM S ((lkP S t.1), t.2)) hsh) (by first | exact Nat.le_of_ble_eq_true rfl | omega) (by first | exact Nat.le_of_ble_eq_true rfl | omega) (Nat.zero_le _) (Nat.zero_le _) (fun S144 hq144 => ?_)
                rw [tx_fail (t := ((lkP S t.1), t.2)) hw] at hq144
                subst hq144
                exact r_vret dX9_unit_147 rfl (Nat.zero_le _) (Nat.zero_le _) ⟨rfl, ⟨atM S t, 1, prM_0a hnb, by unfold atM; rw [if_pos q140]⟩⟩
            · skip
              have hlt : ltM (lkC S (lkP S t.1)) = 4 := by unfold ltM; rw [if_neg q89, if_neg q99, if_neg q109, if_neg q119, if_pos q129]
              refine r_iconst (v := 4) dX9_unit_132 (by decide) ?_
              refine r_goto 137 dX9_unit_133 (by decide) ?_
              rw [← hlt]
              refine r_ist2 dX9_unit_137 (by first | exact Nat.le_of_ble_eq_true rfl | omega) rfl ?_
              refine r_iload_n dX9_unit_138 rfl rfl ?_
              refine r_iconst (v := (-1)) dX9_unit_139 (by decide) ?_
              refine r_icmp_ne 148 dX9_unit_140 (by decide) (fun q140 => ?_) (fun q140 => ?_)
              · skip
                have hl : ¬ ltM (lkC S (lkP S t.1)) = -1 := q140
                have hp : (lkP S t.1) < szM S := lkC_in (fun z => hl (by rw [z]; rfl))
                obtain ⟨m1, m2⟩ := lkP_le (S := S) (a := (lkP S t.1) + 1) (by omega)
                refine r_aload_n dX9_unit_148 rfl rfl ?_
                refine r_dup dX9_unit_149 rfl ?_
                refine r_getI dX9_unit_150 lf_X9_218 rfl rfl ?_
                rw [show sI (txM S ((lkP S t.1), t.2)) (fid 9 48) 2000 = nI (lkP S t.1) from tx_48]
                refine r_iconst (v := 1) dX9_unit_153 (by decide) ?_
                refine r_iadd dX9_unit_154 ?_
                refine r_putI dX9_unit_155 (lp_X9_218 _) rfl rfl ?_
                rw [nI_1, tx_s48]
                refine r_aload_n dX9_unit_158 rfl rfl ?_
                refine r_invV0i dX9_unit_159 lm_X9_227 rfl (c_X9_look ((lkP S t.1) + 1, t.2) S h hz (by show (lkP S t.1) + 1 ≤ 215; omega)) (by first | exact Nat.le_of_ble_eq_true rfl | omega) (by first | exact Nat.le_of_ble_eq_true rfl | omega) (Nat.zero_le _) (Nat.zero_le _) (fun r159 S159 hq159 => ?_)
                obtain ⟨hr159, hz159⟩ := hq159
                subst hz159
                subst hr159
                have hsh : ShM (txM S ((lkP S (lkP S t.1 + 1)), t.2)) := tx_sh h _
                refine r_ist3 dX9_unit_162 (by first | exact Nat.le_of_ble_eq_true rfl | omega) rfl ?_
                refine r_iload_n dX9_unit_163 rfl rfl ?_
                refine r_bipush (v := 61) dX9_unit_164 (by decide) ?_
                refine r_icmp_eq 186 dX9_unit_166 (by decide) (fun q166 => ?_) (fun q166 => ?_)
                · skip
                  have hsg : lkC S (lkP S (lkP S t.1 + 1)) = 61 ∨ lkC S (lkP S (lkP S t.1 + 1)) = 60 ∨ lkC S (lkP S (lkP S t.1 + 1)) = 62 := Or.inl q166
                  have hp2 : (lkP S (lkP S t.1 + 1)) < szM S := lkC_in (fun z => by rw [z] at hsg; exact absurd hsg (by decide))
                  refine r_aload_n dX9_unit_186 rfl rfl ?_
                  refine r_dup dX9_unit_187 rfl ?_
                  refine r_getI dX9_unit_188 lf_X9_218 rfl rfl ?_
                  rw [show sI (txM S ((lkP S (lkP S t.1 + 1)), t.2)) (fid 9 48) 2000 = nI (lkP S (lkP S t.1 + 1)) from tx_48]
                  refine r_iconst (v := 1) dX9_unit_191 (by decide) ?_
                  refine r_iadd dX9_unit_192 ?_
                  refine r_putI dX9_unit_193 (lp_X9_218 _) rfl rfl ?_
                  rw [nI_1, tx_s48]
                  refine R.heap (S2 := txM S ((lkP S (lkP S t.1 + 1)) + 1, t.2)) rfl ?_
                  refine r_aload_n dX9_unit_196 rfl rfl ?_
                  refine r_iconst (v := 0) dX9_unit_197 (by decide) ?_
                  refine r_invV1v dX9_unit_198 lm_X9_239 rfl (c_X9_say 0 (txM S ((lkP S (lkP S t.1 + 1)) + 1, t.2)) (tx_sh h _) (by rw [show mI (txM S ((lkP S (lkP S t.1 + 1)) + 1, t.2)) 51 = nI t.2.2.2.1 from tx_51, nI_toInt (by omega)]; omega)) (by first | exact Nat.le_of_ble_eq_true rfl | omega) (by first | exact Nat.le_of_ble_eq_true rfl | omega) (Nat.zero_le _) (Nat.zero_le _) (fun S198 hq198 => ?_)
                  rw [tx_sayS (t := ((lkP S (lkP S t.1 + 1)) + 1, t.2)) (by show t.2.2.2.1 < 420; omega)] at hq198
                  subst hq198
                  refine r_aload_n dX9_unit_201 rfl rfl ?_
                  refine r_iload_n dX9_unit_202 rfl rfl ?_
                  refine r_invV1v dX9_unit_203 lm_X9_239 rfl (c_X9_say (ltM (lkC S (lkP S t.1))) (txM S ((lkP S (lkP S t.1 + 1)) + 1, t.2.1, t.2.2.1, t.2.2.2.1 + 1, (upd t.2.2.2.2 t.2.2.2.1 0))) (tx_sh h _) (by rw [show mI (txM S ((lkP S (lkP S t.1 + 1)) + 1, t.2.1, t.2.2.1, t.2.2.2.1 + 1, (upd t.2.2.2.2 t.2.2.2.1 0))) 51 = nI (t.2.2.2.1 + 1) from tx_51, nI_toInt (by omega)]; omega)) (by first | exact Nat.le_of_ble_eq_true rfl | omega) (by first | exact Nat.le_of_ble_eq_true rfl | omega) (Nat.zero_le _) (Nat.zero_le _) (fun S203 hq203 => ?_)
                  rw [tx_sayS (t := ((lkP S (lkP S t.1 + 1)) + 1, t.2.1, t.2.2.1, t.2.2.2.1 + 1, (upd t.2.2.2.2 t.2.2.2.1 0))) (by show t.2.2.2.1 + 1 < 420; omega)] at hq203
                  subst hq203
                  refine r_aload_n dX9_unit_206 rfl rfl ?_
                  refine r_iload_n dX9_unit_207 rfl rfl ?_
                  refine r_invV1v dX9_unit_208 lm_X9_239 rfl (c_X9_say (lkC S (lkP S (lkP S t.1 + 1))) (txM S ((lkP S (lkP S t.1 + 1)) + 1, t.2.1, t.2.2.1, t.2.2.2.1 + 1 + 1, (upd (upd t.2.2.2.2 t.2.2.2.1 0) (t.2.2.2.1 + 1) (ltM (lkC S (lkP S t.1)))))) (tx_sh h _) (by rw [show mI (txM S ((lkP S (lkP S t.1 + 1)) + 1, t.2.1, t.2.2.1, t.2.2.2.1 + 1 + 1, (upd (upd t.2.2.2.2 t.2.2.2.1 0) (t.2.2.2.1 + 1) (ltM (lkC S (lkP S t.1)))))) 51 = nI (t.2.2.2.1 + 1 + 1) from tx_51, nI_toInt (by omega)]; omega)) (by first | exact Nat.le_of_ble_eq_true rfl | omega) (by first | exact Nat.le_of_ble_eq_true rfl | omega) (Nat.zero_le _) (Nat.zero_le _) (fun S208 hq208 => ?_)
                  rw [tx_sayS (t := ((lkP S (lkP S t.1 + 1)) + 1, t.2.1, t.2.2.1, t.2.2.2.1 + 1 + 1, (upd (upd t.2.2.2.2 t.2.2.2.1 0) (t.2.2.2.1 + 1) (ltM (lkC S (lkP S t.1)))))) (by show t.2.2.2.1 + 1 + 1 < 420; omega)] at hq208
                  subst hq208
                  refine R.heap (S2 := txM S ((lkP S (lkP S t.1 + 1)) + 1, t.2.1, t.2.2.1, t.2.2.2.1 + 3, upd (upd (upd t.2.2.2.2 t.2.2.2.1 0) (t.2.2.2.1 + 1) (ltM (lkC S (lkP S t.1)))) (t.2.2.2.1 + 2) (lkC S (lkP S (lkP S t.1 + 1))))) rfl ?_
                  refine r_aload_n dX9_unit_211 rfl rfl ?_
                  refine r_invV0v dX9_unit_212 lm_X9_243 rfl (c_X9_number ((lkP S (lkP S t.1 + 1)) + 1, t.2.1, t.2.2.1, t.2.2.2.1 + 3, upd (upd (upd t.2.2.2.2 t.2.2.2.1 0) (t.2.2.2.1 + 1) (ltM (lkC S (lkP S t.1)))) (t.2.2.2.1 + 2) (lkC S (lkP S (lkP S t.1 + 1)))) S h hz (by show (lkP S (lkP S t.1 + 1)) + 1 ≤ 215; omega) hw (by show t.2.2.2.1 + 3 < 420; omega)) (by first | exact Nat.le_of_ble_eq_true rfl | omega) (by first | exact Nat.le_of_ble_eq_true rfl | omega) (Nat.zero_le _) (Nat.zero_le _) (fun S212 hq212 => ?_)
                  replace hq212 := hq212.symm
                  subst hq212
                  exact r_vret dX9_unit_215 rfl (Nat.zero_le _) (Nat.zero_le _) ⟨rfl, ⟨atM S t, 1, prM_0a hnb, by unfold atM; rw [if_neg hl, if_pos hsg]⟩⟩
                · skip
                  refine r_iload_n dX9_unit_169 rfl rfl ?_
                  refine r_bipush (v := 60) dX9_unit_170 (by decide) ?_
                  refine r_icmp_eq 186 dX9_unit_172 (by decide) (fun q172 => ?_) (fun q172 => ?_)
                  · skip
                    have hsg : lkC S (lkP S (lkP S t.1 + 1)) = 61 ∨ lkC S (lkP S (lkP S t.1 + 1)) = 60 ∨ lkC S (lkP S (lkP S t.1 + 1)) = 62 := Or.inr (Or.inl q172)
                    have hp2 : (lkP S (lkP S t.1 + 1)) < szM S := lkC_in (fun z => by rw [z] at hsg; exact absurd hsg (by decide))
                    refine r_aload_n dX9_unit_186 rfl rfl ?_
                    refine r_dup dX9_unit_187 rfl ?_
                    refine r_getI dX9_unit_188 lf_X9_218 rfl rfl ?_
                    rw [show sI (txM S ((lkP S (lkP S t.1 + 1)), t.2)) (fid 9 48) 2000 = nI (lkP S (lkP S t.1 + 1)) from tx_48]
                    refine r_iconst (v := 1) dX9_unit_191 (by decide) ?_
                    refine r_iadd dX9_unit_192 ?_
                    refine r_putI dX9_unit_193 (lp_X9_218 _) rfl rfl ?_
                    rw [nI_1, tx_s48]
                    refine R.heap (S2 := txM S ((lkP S (lkP S t.1 + 1)) + 1, t.2)) rfl ?_
                    refine r_aload_n dX9_unit_196 rfl rfl ?_
                    refine r_iconst (v := 0) dX9_unit_197 (by decide) ?_
                    refine r_invV1v dX9_unit_198 lm_X9_239 rfl (c_X9_say 0 (txM S ((lkP S (lkP S t.1 + 1)) + 1, t.2)) (tx_sh h _) (by rw [show mI (txM S ((lkP S (lkP S t.1 + 1)) + 1, t.2)) 51 = nI t.2.2.2.1 from tx_51, nI_toInt (by omega)]; omega)) (by first | exact Nat.le_of_ble_eq_true rfl | omega) (by first | exact Nat.le_of_ble_eq_true rfl | omega) (Nat.zero_le _) (Nat.zero_le _) (fun S198 hq198 => ?_)
                    rw [tx_sayS (t := ((lkP S (lkP S t.1 + 1)) + 1, t.2)) (by show t.2.2.2.1 < 420; omega)] at hq198
                    subst hq198
                    refine r_aload_n dX9_unit_201 rfl rfl ?_
                    refine r_iload_n dX9_unit_202 rfl rfl ?_
                    refine r_invV1v dX9_unit_203 lm_X9_239 rfl (c_X9_say (ltM (lkC S (lkP S t.1))) (txM S ((lkP S (lkP S t.1 + 1)) + 1, t.2.1, t.2.2.1, t.2.2.2.1 + 1, (upd t.2.2.2.2 t.2.2.2.1 0))) (tx_sh h _) (by rw [show mI (txM S ((lkP S (lkP S t.1 + 1)) + 1, t.2.1, t.2.2.1, t.2.2.2.1 + 1, (upd t.2.2.2.2 t.2.2.2.1 0))) 51 = nI (t.2.2.2.1 + 1) from tx_51, nI_toInt (by omega)]; omega)) (by first | exact Nat.le_of_ble_eq_true rfl | omega) (by first | exact Nat.le_of_ble_eq_true rfl | omega) (Nat.zero_le _) (Nat.zero_le _) (fun S203 hq203 => ?_)
                    rw [tx_sayS (t := ((lkP S (lkP S t.1 + 1)) + 1, t.2.1, t.2.2.1, t.2.2.2.1 + 1, (upd t.2.2.2.2 t.2.2.2.1 0))) (by show t.2.2.2.1 + 1 < 420; omega)] at hq203
                    subst hq203
                    refine r_aload_n dX9_unit_206 rfl rfl ?_
                    refine r_iload_n dX9_unit_207 rfl rfl ?_
                    refine r_invV1v dX9_unit_208 lm_X9_239 rfl (c_X9_say (lkC S (lkP S (lkP S t.1 + 1))) (txM S ((lkP S (lkP S t.1 + 1)) + 1, t.2.1, t.2.2.1, t.2.2.2.1 + 1 + 1, (upd (upd t.2.2.2.2 t.2.2.2.1 0) (t.2.2.2.1 + 1) (ltM (lkC S (lkP S t.1)))))) (tx_sh h _) (by rw [show mI (txM S ((lkP S (lkP S t.1 + 1)) + 1, t.2.1, t.2.2.1, t.2.2.2.1 + 1 + 1, (upd (upd t.2.2.2.2 t.2.2.2.1 0) (t.2.2.2.1 + 1) (ltM (lkC S (lkP S t.1)))))) 51 = nI (t.2.2.2.1 + 1 + 1) from tx_51, nI_toInt (by omega)]; omega)) (by first | exact Nat.le_of_ble_eq_true rfl | omega) (by first | exact Nat.le_of_ble_eq_true rfl | omega) (Nat.zero_le _) (Nat.zero_le _) (fun S208 hq208 => ?_)
                    rw [tx_sayS (t := ((lkP S (lkP S t.1 + 1)) + 1, t.2.1, t.2.2.1, t.2.2.2.1 + 1 + 1, (upd (upd t.2.2.2.2 t.2.2.2.1 0) (t.2.2.2.1 + 1) (ltM (lkC S (lkP S t.1)))))) (by show t.2.2.2.1 + 1 + 1 < 420; omega)] at hq208
                    subst hq208
                    refine R.heap (S2 := txM S ((lkP S (lkP S t.1 + 1)) + 1, t.2.1, t.2.2.1, t.2.2.2.1 + 3, upd (upd (upd t.2.2.2.2 t.2.2.2.1 0) (t.2.2.2.1 + 1) (ltM (lkC S (lkP S t.1)))) (t.2.2.2.1 + 2) (lkC S (lkP S (lkP S t.1 + 1))))) rfl ?_
                    refine r_aload_n dX9_unit_211 rfl rfl ?_
                    refine r_invV0v dX9_unit_212 lm_X9_243 rfl (c_X9_number ((lkP S (lkP S t.1 + 1)) + 1, t.2.1, t.2.2.1, t.2.2.2.1 + 3, upd (upd (upd t.2.2.2.2 t.2.2.2.1 0) (t.2.2.2.1 + 1) (ltM (lkC S (lkP S t.1)))) (t.2.2.2.1 + 2) (lkC S (lkP S (lkP S t.1 + 1)))) S h hz (by show (lkP S (lkP S t.1 + 1)) + 1 ≤ 215; omega) hw (by show t.2.2.2.1 + 3 < 420; omega)) (by first | exact Nat.le_of_ble_eq_true rfl | omega) (by first | exact Nat.le_of_ble_eq_true rfl | omega) (Nat.zero_le _) (Nat.zero_le _) (fun S212 hq212 => ?_)
                    replace hq212 := hq212.symm
                    subst hq212
                    exact r_vret dX9_unit_215 rfl (Nat.zero_le _) (Nat.zero_le _) ⟨rfl, ⟨atM S t, 1, prM_0a hnb, by unfold atM; rw [if_neg hl, if_pos hsg]⟩⟩
                  · skip
                    refine r_iload_n dX9_unit_175 rfl rfl ?_
                    refine r_bipush (v := 62) dX9_unit_176 (by decide) ?_
                    refine r_icmp_eq 186 dX9_unit_178 (by decide) (fun q178 => ?_) (fun q178 => ?_)
                    · skip
                      have hsg : lkC S (lkP S (lkP S t.1 + 1)) = 61 ∨ lkC S (lkP S (lkP S t.1 + 1)) = 60 ∨ lkC S (lkP S (lkP S t.1 + 1)) = 62 := Or.inr (Or.inr q178)
                      have hp2 : (lkP S (lkP S t.1 + 1)) < szM S := lkC_in (fun z => by rw [z] at hsg; exact absurd hsg (by decide))
                      refine r_aload_n dX9_unit_186 rfl rfl ?_
                      refine r_dup dX9_unit_187 rfl ?_
                      refine r_getI dX9_unit_188 lf_X9_218 rfl rfl ?_
                      rw [show sI (txM S ((lkP S (lkP S t.1 + 1)), t.2)) (fid 9 48) 2000 = nI (lkP S (lkP S t.1 + 1)) from tx_48]
                      refine r_iconst (v := 1) dX9_unit_191 (by decide) ?_
                      refine r_iadd dX9_unit_192 ?_
                      refine r_putI dX9_unit_193 (lp_X9_218 _) rfl rfl ?_
                      rw [nI_1, tx_s48]
                      refine R.heap (S2 := txM S ((lkP S (lkP S t.1 + 1)) + 1, t.2)) rfl ?_
                      refine r_aload_n dX9_unit_196 rfl rfl ?_
                      refine r_iconst (v := 0) dX9_unit_197 (by decide) ?_
                      refine r_invV1v dX9_unit_198 lm_X9_239 rfl (c_X9_say 0 (txM S ((lkP S (lkP S t.1 + 1)) + 1, t.2)) (tx_sh h _) (by rw [show mI (txM S ((lkP S (lkP S t.1 + 1)) + 1, t.2)) 51 = nI t.2.2.2.1 from tx_51, nI_toInt (by omega)]; omega)) (by first | exact Nat.le_of_ble_eq_true rfl | omega) (by first | exact Nat.le_of_ble_eq_true rfl | omega) (Nat.zero_le _) (Nat.zero_le _) (fun S198 hq198 => ?_)
                      rw [tx_sayS (t := ((lkP S (lkP S t.1 + 1)) + 1, t.2)) (by show t.2.2.2.1 < 420; omega)] at hq198
                      subst hq198
                      refine r_aload_n dX9_unit_201 rfl rfl ?_
                      refine r_iload_n dX9_unit_202 rfl rfl ?_
                      refine r_invV1v dX9_unit_203 lm_X9_239 rfl (c_X9_say (ltM (lkC S (lkP S t.1))) (txM S ((lkP S (lkP S t.1 + 1)) + 1, t.2.1, t.2.2.1, t.2.2.2.1 + 1, (upd t.2.2.2.2 t.2.2.2.1 0))) (tx_sh h _) (by rw [show mI (txM S ((lkP S (lkP S t.1 + 1)) + 1, t.2.1, t.2.2.1, t.2.2.2.1 + 1, (upd t.2.2.2.2 t.2.2.2.1 0))) 51 = nI (t.2.2.2.1 + 1) from tx_51, nI_toInt (by omega)]; omega)) (by first | exact Nat.le_of_ble_eq_true rfl | omega) (by first | exact Nat.le_of_ble_eq_true rfl | omega) (Nat.zero_le _) (Nat.zero_le _) (fun S203 hq203 => ?_)
                      rw [tx_sayS (t := ((lkP S (lkP S t.1 + 1)) + 1, t.2.1, t.2.2.1, t.2.2.2.1 + 1, (upd t.2.2.2.2 t.2.2.2.1 0))) (by show t.2.2.2.1 + 1 < 420; omega)] at hq203
                      subst hq203
                      refine r_aload_n dX9_unit_206 rfl rfl ?_
                      refine r_iload_n dX9_unit_207 rfl rfl ?_
                      refine r_invV1v dX9_unit_208 lm_X9_239 rfl (c_X9_say (lkC S (lkP S (lkP S t.1 + 1))) (txM S ((lkP S (lkP S t.1 + 1)) + 1, t.2.1, t.2.2.1, t.2.2.2.1 + 1 + 1, (upd (upd t.2.2.2.2 t.2.2.2.1 0) (t.2.2.2.1 + 1) (ltM (lkC S (lkP S t.1)))))) (tx_sh h _) (by rw [show mI (txM S ((lkP S (lkP S t.1 + 1)) + 1, t.2.1, t.2.2.1, t.2.2.2.1 + 1 + 1, (upd (upd t.2.2.2.2 t.2.2.2.1 0) (t.2.2.2.1 + 1) (ltM (lkC S (lkP S t.1)))))) 51 = nI (t.2.2.2.1 + 1 + 1) from tx_51, nI_toInt (by omega)]; omega)) (by first | exact Nat.le_of_ble_eq_true rfl | omega) (by first | exact Nat.le_of_ble_eq_true rfl | omega) (Nat.zero_le _) (Nat.zero_le _) (fun S208 hq208 => ?_)
                      rw [tx_sayS (t := ((lkP S (lkP S t.1 + 1)) + 1, t.2.1, t.2.2.1, t.2.2.2.1 + 1 + 1, (upd (upd t.2.2.2.2 t.2.2.2.1 0) (t.2.2.2.1 + 1) (ltM (lkC S (lkP S t.1)))))) (by show t.2.2.2.1 + 1 + 1 < 420; omega)] at hq208
                      subst hq208
                      refine R.heap (S2 := txM S ((lkP S (lkP S t.1 + 1)) + 1, t.2.1, t.2.2.1, t.2.2.2.1 + 3, upd (upd (upd t.2.2.2.2 t.2.2.2.1 0) (t.2.2.2.1 + 1) (ltM (lkC S (lkP S t.1)))) (t.2.2.2.1 + 2) (lkC S (lkP S (lkP S t.1 + 1))))) rfl ?_
                      refine r_aload_n dX9_unit_211 rfl rfl ?_
                      refine r_invV0v dX9_unit_212 lm_X9_243 rfl (c_X9_number ((lkP S (lkP S t.1 + 1)) + 1, t.2.1, t.2.2.1, t.2.2.2.1 + 3, upd (upd (upd t.2.2.2.2 t.2.2.2.1 0) (t.2.2.2.1 + 1) (ltM (lkC S (lkP S t.1)))) (t.2.2.2.1 + 2) (lkC S (lkP S (lkP S t.1 + 1)))) S h hz (by show (lkP S (lkP S t.1 + 1)) + 1 ≤ 215; omega) hw (by show t.2.2.2.1 + 3 < 420; omega)) (by first | exact Nat.le_of_ble_eq_true rfl | omega) (by first | exact Nat.le_of_ble_eq_true rfl | omega) (Nat.zero_le _) (Nat.zero_le _) (fun S212 hq212 => ?_)
                      replace hq212 := hq212.symm
                      subst hq212
                      exact r_vret dX9_unit_215 rfl (Nat.zero_le _) (Nat.zero_le _) ⟨rfl, ⟨atM S t, 1, prM_0a hnb, by unfold atM; rw [if_neg hl, if_pos hsg]⟩⟩
                    · skip
                      refine r_aload_n dX9_unit_181 rfl rfl ?_
                      refine r_invV0v dX9_unit_182 lm_X9_236 rfl (c_X9_fail (txM S ((lkP S (lkP S t.1 + 1)), t.2)) hsh) (by first | exact Nat.le_of_ble_eq_true rfl | omega) (by first | exact Nat.le_of_ble_eq_true rfl | omega) (Nat.zero_le _) (Nat.zero_le _) (fun S182 hq182 => ?_)
                      rw [tx_fail (t := ((lkP S (lkP S t.1 + 1)), t.2)) hw] at hq182
                      subst hq182
                      exact r_vret dX9_unit_185 rfl (Nat.zero_le _) (Nat.zero_le _) ⟨rfl, ⟨atM S t, 1, prM_0a hnb, by unfold atM; rw [if_neg hl, if_neg (fun z => by rcases z with z | z | z; exact q166 z; exact q172 z; exact q178 z)]⟩⟩
              · skip
                refine r_aload_n dX9_unit_143 rfl rfl ?_
                refine r_invV0v dX9_unit_144 lm_X9_236 rfl (c_X9_fail (txM S ((lkP S t.1), t.2)) hsh) (by first | exact Nat.le_of_ble_eq_true rfl | omega) (by first | exact Nat.le_of_ble_eq_true rfl | omega) (Nat.zero_le _) (Nat.zero_le _) (fun S144 hq144 => ?_)
                rw [tx_fail (t := ((lkP S t.1), t.2)) hw] at hq144
                subst hq144
                exact r_vret dX9_unit_147 rfl (Nat.zero_le _) (Nat.zero_le _) ⟨rfl, ⟨atM S t, 1, prM_0a hnb, by unfold atM; rw [if_pos q140]⟩⟩
          · skip
            have hlt : ltM (lkC S (lkP S t.1)) = 3 := by unfold ltM; rw [if_neg q89, if_neg q99, if_neg q109, if_pos q119]
            refine r_iconst (v := 3) dX9_unit_122 (by decide) ?_
            refine r_goto 137 dX9_unit_123 (by decide) ?_
            rw [← hlt]
            refine r_ist2 dX9_unit_137 (by first | exact Nat.le_of_ble_eq_true rfl | omega) rfl ?_
            refine r_iload_n dX9_unit_138 rfl rfl ?_
            refine r_iconst (v := (-1)) dX9_unit_139 (by decide) ?_
            refine r_icmp_ne 148 dX9_unit_140 (by decide) (fun q140 => ?_) (fun q140 => ?_)
            · skip
              have hl : ¬ ltM (lkC S (lkP S t.1)) = -1 := q140
              have hp : (lkP S t.1) < szM S := lkC_in (fun z => hl (by rw [z]; rfl))
              obtain ⟨m1, m2⟩ := lkP_le (S := S) (a := (lkP S t.1) + 1) (by omega)
              refine r_aload_n dX9_unit_148 rfl rfl ?_
              refine r_dup dX9_unit_149 rfl ?_
              refine r_getI dX9_unit_150 lf_X9_218 rfl rfl ?_
              rw [show sI (txM S ((lkP S t.1), t.2)) (fid 9 48) 2000 = nI (lkP S t.1) from tx_48]
              refine r_iconst (v := 1) dX9_unit_153 (by decide) ?_
              refine r_iadd dX9_unit_154 ?_
              refine r_putI dX9_unit_155 (lp_X9_218 _) rfl rfl ?_
              rw [nI_1, tx_s48]
              refine r_aload_n dX9_unit_158 rfl rfl ?_
              refine r_invV0i dX9_unit_159 lm_X9_227 rfl (c_X9_look ((lkP S t.1) + 1, t.2) S h hz (by show (lkP S t.1) + 1 ≤ 215; omega)) (by first | exact Nat.le_of_ble_eq_true rfl | omega) (by first | exact Nat.le_of_ble_eq_true rfl | omega) (Nat.zero_le _) (Nat.zero_le _) (fun r159 S159 hq159 => ?_)
              obtain ⟨hr159, hz159⟩ := hq159
              subst hz159
              subst hr159
              have hsh : ShM (txM S ((lkP S (lkP S t.1 + 1)), t.2)) := tx_sh h _
              refine r_ist3 dX9_unit_162 (by first | exact Nat.le_of_ble_eq_true rfl | omega) rfl ?_
              refine r_iload_n dX9_unit_163 rfl rfl ?_
              refine r_bipush (v := 61) dX9_unit_164 (by decide) ?_
              refine r_icmp_eq 186 dX9_unit_166 (by decide) (fun q166 => ?_) (fun q166 => ?_)
              · skip
                have hsg : lkC S (lkP S (lkP S t.1 + 1)) = 61 ∨ lkC S (lkP S (lkP S t.1 + 1)) = 60 ∨ lkC S (lkP S (lkP S t.1 + 1)) = 62 := Or.inl q166
                have hp2 : (lkP S (lkP S t.1 + 1)) < szM S := lkC_in (fun z => by rw [z] at hsg; exact absurd hsg (by decide))
                refine r_aload_n dX9_unit_186 rfl rfl ?_
                refine r_dup dX9_unit_187 rfl ?_
                refine r_getI dX9_unit_188 lf_X9_218 rfl rfl ?_
                rw [show sI (txM S ((lkP S (lkP S t.1 + 1)), t.2)) (fid 9 48) 2000 = nI (lkP S (lkP S t.1 + 1)) from tx_48]
                refine r_iconst (v := 1) dX9_unit_191 (by decide) ?_
                refine r_iadd dX9_unit_192 ?_
                refine r_putI dX9_unit_193 (lp_X9_218 _) rfl rfl ?_
                rw [nI_1, tx_s48]
                refine R.heap (S2 := txM S ((lkP S (lkP S t.1 + 1)) + 1, t.2)) rfl ?_
                refine r_aload_n dX9_unit_196 rfl rfl ?_
                refine r_iconst (v := 0) dX9_unit_197 (by decide) ?_
                refine r_invV1v dX9_unit_198 lm_X9_239 rfl (c_X9_say 0 (txM S ((lkP S (lkP S t.1 + 1)) + 1, t.2)) (tx_sh h _) (by rw [show mI (txM S ((lkP S (lkP S t.1 + 1)) + 1, t.2)) 51 = nI t.2.2.2.1 from tx_51, nI_toInt (by omega)]; omega)) (by first | exact Nat.le_of_ble_eq_true rfl | omega) (by first | exact Nat.le_of_ble_eq_true rfl | omega) (Nat.zero_le _) (Nat.zero_le _) (fun S198 hq198 => ?_)
                rw [tx_sayS (t := ((lkP S (lkP S t.1 + 1)) + 1, t.2)) (by show t.2.2.2.1 < 420; omega)] at hq198
                subst hq198
                refine r_aload_n dX9_unit_201 rfl rfl ?_
                refine r_iload_n dX9_unit_202 rfl rfl ?_
                refine r_invV1v dX9_unit_203 lm_X9_239 rfl (c_X9_say (ltM (lkC S (lkP S t.1))) (txM S ((lkP S (lkP S t.1 + 1)) + 1, t.2.1, t.2.2.1, t.2.2.2.1 + 1, (upd t.2.2.2.2 t.2.2.2.1 0))) (tx_sh h _) (by rw [show mI (txM S ((lkP S (lkP S t.1 + 1)) + 1, t.2.1, t.2.2.1, t.2.2.2.1 + 1, (upd t.2.2.2.2 t.2.2.2.1 0))) 51 = nI (t.2.2.2.1 + 1) from tx_51, nI_toInt (by omega)]; omega)) (by first | exact Nat.le_of_ble_eq_true rfl | omega) (by first | exact Nat.le_of_ble_eq_true rfl | omega) (Nat.zero_le _) (Nat.zero_le _) (fun S203 hq203 => ?_)
                rw [tx_sayS (t := ((lkP S (lkP S t.1 + 1)) + 1, t.2.1, t.2.2.1, t.2.2.2.1 + 1, (upd t.2.2.2.2 t.2.2.2.1 0))) (by show t.2.2.2.1 + 1 < 420; omega)] at hq203
                subst hq203
                refine r_aload_n dX9_unit_206 rfl rfl ?_
                refine r_iload_n dX9_unit_207 rfl rfl ?_
                refine r_invV1v dX9_unit_208 lm_X9_239 rfl (c_X9_say (lkC S (lkP S (lkP S t.1 + 1))) (txM S ((lkP S (lkP S t.1 + 1)) + 1, t.2.1, t.2.2.1, t.2.2.2.1 + 1 + 1, (upd (upd t.2.2.2.2 t.2.2.2.1 0) (t.2.2.2.1 + 1) (ltM (lkC S (lkP S t.1)))))) (tx_sh h _) (by rw [show mI (txM S ((lkP S (lkP S t.1 + 1)) + 1, t.2.1, t.2.2.1, t.2.2.2.1 + 1 + 1, (upd (upd t.2.2.2.2 t.2.2.2.1 0) (t.2.2.2.1 + 1) (ltM (lkC S (lkP S t.1)))))) 51 = nI (t.2.2.2.1 + 1 + 1) from tx_51, nI_toInt (by omega)]; omega)) (by first | exact Nat.le_of_ble_eq_true rfl | omega) (by first | exact Nat.le_of_ble_eq_true rfl | omega) (Nat.zero_le _) (Nat.zero_le _) (fun S208 hq208 => ?_)
                rw [tx_sayS (t := ((lkP S (lkP S t.1 + 1)) + 1, t.2.1, t.2.2.1, t.2.2.2.1 + 1 + 1, (upd (upd t.2.2.2.2 t.2.2.2.1 0) (t.2.2.2.1 + 1) (ltM (lkC S (lkP S t.1)))))) (by show t.2.2.2.1 + 1 + 1 < 420; omega)] at hq208
                subst hq208
                refine R.heap (S2 := txM S ((lkP S (lkP S t.1 + 1)) + 1, t.2.1, t.2.2.1, t.2.2.2.1 + 3, upd (upd (upd t.2.2.2.2 t.2.2.2.1 0) (t.2.2.2.1 + 1) (ltM (lkC S (lkP S t.1)))) (t.2.2.2.1 + 2) (lkC S (lkP S (lkP S t.1 + 1))))) rfl ?_
                refine r_aload_n dX9_unit_211 rfl rfl ?_
                refine r_invV0v dX9_unit_212 lm_X9_243 rfl (c_X9_number ((lkP S (lkP S t.1 + 1)) + 1, t.2.1, t.2.2.1, t.2.2.2.1 + 3, upd (upd (upd t.2.2.2.2 t.2.2.2.1 0) (t.2.2.2.1 + 1) (ltM (lkC S (lkP S t.1)))) (t.2.2.2.1 + 2) (lkC S (lkP S (lkP S t.1 + 1)))) S h hz (by show (lkP S (lkP S t.1 + 1)) + 1 ≤ 215; omega) hw (by show t.2.2.2.1 + 3 < 420; omega)) (by first | exact Nat.le_of_ble_eq_true rfl | omega) (by first | exact Nat.le_of_ble_eq_true rfl | omega) (Nat.zero_le _) (Nat.zero_le _) (fun S212 hq212 => ?_)
                replace hq212 := hq212.symm
                subst hq212
                exact r_vret dX9_unit_215 rfl (Nat.zero_le _) (Nat.zero_le _) ⟨rfl, ⟨atM S t, 1, prM_0a hnb, by unfold atM; rw [if_neg hl, if_pos hsg]⟩⟩
              · skip
                refine r_iload_n dX9_unit_169 rfl rfl ?_
                refine r_bipush (v := 60) dX9_unit_170 (by decide) ?_
                refine r_icmp_eq 186 dX9_unit_172 (by decide) (fun q172 => ?_) (fun q172 => ?_)
                · skip
                  have hsg : lkC S (lkP S (lkP S t.1 + 1)) = 61 ∨ lkC S (lkP S (lkP S t.1 + 1)) = 60 ∨ lkC S (lkP S (lkP S t.1 + 1)) = 62 := Or.inr (Or.inl q172)
                  have hp2 : (lkP S (lkP S t.1 + 1)) < szM S := lkC_in (fun z => by rw [z] at hsg; exact absurd hsg (by decide))
                  refine r_aload_n dX9_unit_186 rfl rfl ?_
                  refine r_dup dX9_unit_187 rfl ?_
                  refine r_getI dX9_unit_188 lf_X9_218 rfl rfl ?_
                  rw [show sI (txM S ((lkP S (lkP S t.1 + 1)), t.2)) (fid 9 48) 2000 = nI (lkP S (lkP S t.1 + 1)) from tx_48]
                  refine r_iconst (v := 1) dX9_unit_191 (by decide) ?_
                  refine r_iadd dX9_unit_192 ?_
                  refine r_putI dX9_unit_193 (lp_X9_218 _) rfl rfl ?_
                  rw [nI_1, tx_s48]
                  refine R.heap (S2 := txM S ((lkP S (lkP S t.1 + 1)) + 1, t.2)) rfl ?_
                  refine r_aload_n dX9_unit_196 rfl rfl ?_
                  refine r_iconst (v := 0) dX9_unit_197 (by decide) ?_
                  refine r_invV1v dX9_unit_198 lm_X9_239 rfl (c_X9_say 0 (txM S ((lkP S (lkP S t.1 + 1)) + 1, t.2)) (tx_sh h _) (by rw [show mI (txM S ((lkP S (lkP S t.1 + 1)) + 1, t.2)) 51 = nI t.2.2.2.1 from tx_51, nI_toInt (by omega)]; omega)) (by first | exact Nat.le_of_ble_eq_true rfl | omega) (by first | exact Nat.le_of_ble_eq_true rfl | omega) (Nat.zero_le _) (Nat.zero_le _) (fun S198 hq198 => ?_)
                  rw [tx_sayS (t := ((lkP S (lkP S t.1 + 1)) + 1, t.2)) (by show t.2.2.2.1 < 420; omega)] at hq198
                  subst hq198
                  refine r_aload_n dX9_unit_201 rfl rfl ?_
                  refine r_iload_n dX9_unit_202 rfl rfl ?_
                  refine r_invV1v dX9_unit_203 lm_X9_239 rfl (c_X9_say (ltM (lkC S (lkP S t.1))) (txM S ((lkP S (lkP S t.1 + 1)) + 1, t.2.1, t.2.2.1, t.2.2.2.1 + 1, (upd t.2.2.2.2 t.2.2.2.1 0))) (tx_sh h _) (by rw [show mI (txM S ((lkP S (lkP S t.1 + 1)) + 1, t.2.1, t.2.2.1, t.2.2.2.1 + 1, (upd t.2.2.2.2 t.2.2.2.1 0))) 51 = nI (t.2.2.2.1 + 1) from tx_51, nI_toInt (by omega)]; omega)) (by first | exact Nat.le_of_ble_eq_true rfl | omega) (by first | exact Nat.le_of_ble_eq_true rfl | omega) (Nat.zero_le _) (Nat.zero_le _) (fun S203 hq203 => ?_)
                  rw [tx_sayS (t := ((lkP S (lkP S t.1 + 1)) + 1, t.2.1, t.2.2.1, t.2.2.2.1 + 1, (upd t.2.2.2.2 t.2.2.2.1 0))) (by show t.2.2.2.1 + 1 < 420; omega)] at hq203
                  subst hq203
                  refine r_aload_n dX9_unit_206 rfl rfl ?_
                  refine r_iload_n dX9_unit_207 rfl rfl ?_
                  refine r_invV1v dX9_unit_208 lm_X9_239 rfl (c_X9_say (lkC S (lkP S (lkP S t.1 + 1))) (txM S ((lkP S (lkP S t.1 + 1)) + 1, t.2.1, t.2.2.1, t.2.2.2.1 + 1 + 1, (upd (upd t.2.2.2.2 t.2.2.2.1 0) (t.2.2.2.1 + 1) (ltM (lkC S (lkP S t.1)))))) (tx_sh h _) (by rw [show mI (txM S ((lkP S (lkP S t.1 + 1)) + 1, t.2.1, t.2.2.1, t.2.2.2.1 + 1 + 1, (upd (upd t.2.2.2.2 t.2.2.2.1 0) (t.2.2.2.1 + 1) (ltM (lkC S (lkP S t.1)))))) 51 = nI (t.2.2.2.1 + 1 + 1) from tx_51, nI_toInt (by omega)]; omega)) (by first | exact Nat.le_of_ble_eq_true rfl | omega) (by first | exact Nat.le_of_ble_eq_true rfl | omega) (Nat.zero_le _) (Nat.zero_le _) (fun S208 hq208 => ?_)
                  rw [tx_sayS (t := ((lkP S (lkP S t.1 + 1)) + 1, t.2.1, t.2.2.1, t.2.2.2.1 + 1 + 1, (upd (upd t.2.2.2.2 t.2.2.2.1 0) (t.2.2.2.1 + 1) (ltM (lkC S (lkP S t.1)))))) (by show t.2.2.2.1 + 1 + 1 < 420; omega)] at hq208
                  subst hq208
                  refine R.heap (S2 := txM S ((lkP S (lkP S t.1 + 1)) + 1, t.2.1, t.2.2.1, t.2.2.2.1 + 3, upd (upd (upd t.2.2.2.2 t.2.2.2.1 0) (t.2.2.2.1 + 1) (ltM (lkC S (lkP S t.1)))) (t.2.2.2.1 + 2) (lkC S (lkP S (lkP S t.1 + 1))))) rfl ?_
                  refine r_aload_n dX9_unit_211 rfl rfl ?_
                  refine r_invV0v dX9_unit_212 lm_X9_243 rfl (c_X9_number ((lkP S (lkP S t.1 + 1)) + 1, t.2.1, t.2.2.1, t.2.2.2.1 + 3, upd (upd (upd t.2.2.2.2 t.2.2.2.1 0) (t.2.2.2.1 + 1) (ltM (lkC S (lkP S t.1)))) (t.2.2.2.1 + 2) (lkC S (lkP S (lkP S t.1 + 1)))) S h hz (by show (lkP S (lkP S t.1 + 1)) + 1 ≤ 215; omega) hw (by show t.2.2.2.1 + 3 < 420; omega)) (by first | exact Nat.le_of_ble_eq_true rfl | omega) (by first | exact Nat.le_of_ble_eq_true rfl | omega) (Nat.zero_le _) (Nat.zero_le _) (fun S212 hq212 => ?_)
                  replace hq212 := hq212.symm
                  subst hq212
                  exact r_vret dX9_unit_215 rfl (Nat.zero_le _) (Nat.zero_le _) ⟨rfl, ⟨atM S t, 1, prM_0a hnb, by unfold atM; rw [if_neg hl, if_pos hsg]⟩⟩
                · skip
                  refine r_iload_n dX9_unit_175 rfl rfl ?_
                  refine r_bipush (v := 62) dX9_unit_176 (by decide) ?_
                  refine r_icmp_eq 186 dX9_unit_178 (by decide) (fun q178 => ?_) (fun q178 => ?_)
                  · skip
                    have hsg : lkC S (lkP S (lkP S t.1 + 1)) = 61 ∨ lkC S (lkP S (lkP S t.1 + 1)) = 60 ∨ lkC S (lkP S (lkP S t.1 + 1)) = 62 := Or.inr (Or.inr q178)
                    have hp2 : (lkP S (lkP S t.1 + 1)) < szM S := lkC_in (fun z => by rw [z] at hsg; exact absurd hsg (by decide))
                    refine r_aload_n dX9_unit_186 rfl rfl ?_
                    refine r_dup dX9_unit_187 rfl ?_
                    refine r_getI dX9_unit_188 lf_X9_218 rfl rfl ?_
                    rw [show sI (txM S ((lkP S (lkP S t.1 + 1)), t.2)) (fid 9 48) 2000 = nI (lkP S (lkP S t.1 + 1)) from tx_48]
                    refine r_iconst (v := 1) dX9_unit_191 (by decide) ?_
                    refine r_iadd dX9_unit_192 ?_
                    refine r_putI dX9_unit_193 (lp_X9_218 _) rfl rfl ?_
                    rw [nI_1, tx_s48]
                    refine R.heap (S2 := txM S ((lkP S (lkP S t.1 + 1)) + 1, t.2)) rfl ?_
                    refine r_aload_n dX9_unit_196 rfl rfl ?_
                    refine r_iconst (v := 0) dX9_unit_197 (by decide) ?_
                    refine r_invV1v dX9_unit_198 lm_X9_239 rfl (c_X9_say 0 (txM S ((lkP S (lkP S t.1 + 1)) + 1, t.2)) (tx_sh h _) (by rw [show mI (txM S ((lkP S (lkP S t.1 + 1)) + 1, t.2)) 51 = nI t.2.2.2.1 from tx_51, nI_toInt (by omega)]; omega)) (by first | exact Nat.le_of_ble_eq_true rfl | omega) (by first | exact Nat.le_of_ble_eq_true rfl | omega) (Nat.zero_le _) (Nat.zero_le _) (fun S198 hq198 => ?_)
                    rw [tx_sayS (t := ((lkP S (lkP S t.1 + 1)) + 1, t.2)) (by show t.2.2.2.1 < 420; omega)] at hq198
                    subst hq198
                    refine r_aload_n dX9_unit_201 rfl rfl ?_
                    refine r_iload_n dX9_unit_202 rfl rfl ?_
                    refine r_invV1v dX9_unit_203 lm_X9_239 rfl (c_X9_say (ltM (lkC S (lkP S t.1))) (txM S ((lkP S (lkP S t.1 + 1)) + 1, t.2.1, t.2.2.1, t.2.2.2.1 + 1, (upd t.2.2.2.2 t.2.2.2.1 0))) (tx_sh h _) (by rw [show mI (txM S ((lkP S (lkP S t.1 + 1)) + 1, t.2.1, t.2.2.1, t.2.2.2.1 + 1, (upd t.2.2.2.2 t.2.2.2.1 0))) 51 = nI (t.2.2.2.1 + 1) from tx_51, nI_toInt (by omega)]; omega)) (by first | exact Nat.le_of_ble_eq_true rfl | omega) (by first | exact Nat.le_of_ble_eq_true rfl | omega) (Nat.zero_le _) (Nat.zero_le _) (fun S203 hq203 => ?_)
                    rw [tx_sayS (t := ((lkP S (lkP S t.1 + 1)) + 1, t.2.1, t.2.2.1, t.2.2.2.1 + 1, (upd t.2.2.2.2 t.2.2.2.1 0))) (by show t.2.2.2.1 + 1 < 420; omega)] at hq203
                    subst hq203
                    refine r_aload_n dX9_unit_206 rfl rfl ?_
                    refine r_iload_n dX9_unit_207 rfl rfl ?_
                    refine r_invV1v dX9_unit_208 lm_X9_239 rfl (c_X9_say (lkC S (lkP S (lkP S t.1 + 1))) (txM S ((lkP S (lkP S t.1 + 1)) + 1, t.2.1, t.2.2.1, t.2.2.2.1 + 1 + 1, (upd (upd t.2.2.2.2 t.2.2.2.1 0) (t.2.2.2.1 + 1) (ltM (lkC S (lkP S t.1)))))) (tx_sh h _) (by rw [show mI (txM S ((lkP S (lkP S t.1 + 1)) + 1, t.2.1, t.2.2.1, t.2.2.2.1 + 1 + 1, (upd (upd t.2.2.2.2 t.2.2.2.1 0) (t.2.2.2.1 + 1) (ltM (lkC S (lkP S t.1)))))) 51 = nI (t.2.2.2.1 + 1 + 1) from tx_51, nI_toInt (by omega)]; omega)) (by first | exact Nat.le_of_ble_eq_true rfl | omega) (by first | exact Nat.le_of_ble_eq_true rfl | omega) (Nat.zero_le _) (Nat.zero_le _) (fun S208 hq208 => ?_)
                    rw [tx_sayS (t := ((lkP S (lkP S t.1 + 1)) + 1, t.2.1, t.2.2.1, t.2.2.2.1 + 1 + 1, (upd (upd t.2.2.2.2 t.2.2.2.1 0) (t.2.2.2.1 + 1) (ltM (lkC S (lkP S t.1)))))) (by show t.2.2.2.1 + 1 + 1 < 420; omega)] at hq208
                    subst hq208
                    refine R.heap (S2 := txM S ((lkP S (lkP S t.1 + 1)) + 1, t.2.1, t.2.2.1, t.2.2.2.1 + 3, upd (upd (upd t.2.2.2.2 t.2.2.2.1 0) (t.2.2.2.1 + 1) (ltM (lkC S (lkP S t.1)))) (t.2.2.2.1 + 2) (lkC S (lkP S (lkP S t.1 + 1))))) rfl ?_
                    refine r_aload_n dX9_unit_211 rfl rfl ?_
                    refine r_invV0v dX9_unit_212 lm_X9_243 rfl (c_X9_number ((lkP S (lkP S t.1 + 1)) + 1, t.2.1, t.2.2.1, t.2.2.2.1 + 3, upd (upd (upd t.2.2.2.2 t.2.2.2.1 0) (t.2.2.2.1 + 1) (ltM (lkC S (lkP S t.1)))) (t.2.2.2.1 + 2) (lkC S (lkP S (lkP S t.1 + 1)))) S h hz (by show (lkP S (lkP S t.1 + 1)) + 1 ≤ 215; omega) hw (by show t.2.2.2.1 + 3 < 420; omega)) (by first | exact Nat.le_of_ble_eq_true rfl | omega) (by first | exact Nat.le_of_ble_eq_true rfl | omega) (Nat.zero_le _) (Nat.zero_le _) (fun S212 hq212 => ?_)
                    replace hq212 := hq212.symm
                    subst hq212
                    exact r_vret dX9_unit_215 rfl (Nat.zero_le _) (Nat.zero_le _) ⟨rfl, ⟨atM S t, 1, prM_0a hnb, by unfold atM; rw [if_neg hl, if_pos hsg]⟩⟩
                  · skip
                    refine r_aload_n dX9_unit_181 rfl rfl ?_
                    refine r_invV0v dX9_unit_182 lm_X9_236 rfl (c_X9_fail (txM S ((lkP S (lkP S t.1 + 1)), t.2)) hsh) (by first | exact Nat.le_of_ble_eq_true rfl | omega) (by first | exact Nat.le_of_ble_eq_true rfl | omega) (Nat.zero_le _) (Nat.zero_le _) (fun S182 hq182 => ?_)
                    rw [tx_fail (t := ((lkP S (lkP S t.1 + 1)), t.2)) hw] at hq182
                    subst hq182
                    exact r_vret dX9_unit_185 rfl (Nat.zero_le _) (Nat.zero_le _) ⟨rfl, ⟨atM S t, 1, prM_0a hnb, by unfold atM; rw [if_neg hl, if_neg (fun z => by rcases z with z | z | z; exact q166 z; exact q172 z; exact q178 z)]⟩⟩
            · skip
              refine r_aload_n dX9_unit_143 rfl rfl ?_
              refine r_invV0v dX9_unit_144 lm_X9_236 rfl (c_X9_fail (txM S ((lkP S t.1), t.2)) hsh) (by first | exact Nat.le_of_ble_eq_true rfl | omega) (by first | exact Nat.le_of_ble_eq_true rfl | omega) (Nat.zero_le _) (Nat.zero_le _) (fun S144 hq144 => ?_)
              rw [tx_fail (t := ((lkP S t.1), t.2)) hw] at hq144
              subst hq144
              exact r_vret dX9_unit_147 rfl (Nat.zero_le _) (Nat.zero_le _) ⟨rfl, ⟨atM S t, 1, prM_0a hnb, by unfold atM; rw [if_pos q140]⟩⟩
        · skip
          have hlt : ltM (lkC S (lkP S t.1)) = 2 := by unfold ltM; rw [if_neg q89, if_neg q99, if_pos q109]
          refine r_iconst (v := 2) dX9_unit_112 (by decide) ?_
          refine r_goto 137 dX9_unit_113 (by decide) ?_
          rw [← hlt]
          refine r_ist2 dX9_unit_137 (by first | exact Nat.le_of_ble_eq_true rfl | omega) rfl ?_
          refine r_iload_n dX9_unit_138 rfl rfl ?_
          refine r_iconst (v := (-1)) dX9_unit_139 (by decide) ?_
          refine r_icmp_ne 148 dX9_unit_140 (by decide) (fun q140 => ?_) (fun q140 => ?_)
          · skip
            have hl : ¬ ltM (lkC S (lkP S t.1)) = -1 := q140
            have hp : (lkP S t.1) < szM S := lkC_in (fun z => hl (by rw [z]; rfl))
            obtain ⟨m1, m2⟩ := lkP_le (S := S) (a := (lkP S t.1) + 1) (by omega)
            refine r_aload_n dX9_unit_148 rfl rfl ?_
            refine r_dup dX9_unit_149 rfl ?_
            refine r_getI dX9_unit_150 lf_X9_218 rfl rfl ?_
            rw [show sI (txM S ((lkP S t.1), t.2)) (fid 9 48) 2000 = nI (lkP S t.1) from tx_48]
            refine r_iconst (v := 1) dX9_unit_153 (by decide) ?_
            refine r_iadd dX9_unit_154 ?_
            refine r_putI dX9_unit_155 (lp_X9_218 _) rfl rfl ?_
            rw [nI_1, tx_s48]
            refine r_aload_n dX9_unit_158 rfl rfl ?_
            refine r_invV0i dX9_unit_159 lm_X9_227 rfl (c_X9_look ((lkP S t.1) + 1, t.2) S h hz (by show (lkP S t.1) + 1 ≤ 215; omega)) (by first | exact Nat.le_of_ble_eq_true rfl | omega) (by first | exact Nat.le_of_ble_eq_true rfl | omega) (Nat.zero_le _) (Nat.zero_le _) (fun r159 S159 hq159 => ?_)
            obtain ⟨hr159, hz159⟩ := hq159
            subst hz159
            subst hr159
            have hsh : ShM (txM S ((lkP S (lkP S t.1 + 1)), t.2)) := tx_sh h _
            refine r_ist3 dX9_unit_162 (by first | exact Nat.le_of_ble_eq_true rfl | omega) rfl ?_
            refine r_iload_n dX9_unit_163 rfl rfl ?_
            refine r_bipush (v := 61) dX9_unit_164 (by decide) ?_
            refine r_icmp_eq 186 dX9_unit_166 (by decide) (fun q166 => ?_) (fun q166 => ?_)
            · skip
              have hsg : lkC S (lkP S (lkP S t.1 + 1)) = 61 ∨ lkC S (lkP S (lkP S t.1 + 1)) = 60 ∨ lkC S (lkP S (lkP S t.1 + 1)) = 62 := Or.inl q166
              have hp2 : (lkP S (lkP S t.1 + 1)) < szM S := lkC_in (fun z => by rw [z] at hsg; exact absurd hsg (by decide))
              refine r_aload_n dX9_unit_186 rfl rfl ?_
              refine r_dup dX9_unit_187 rfl ?_
              refine r_getI dX9_unit_188 lf_X9_218 rfl rfl ?_
              rw [show sI (txM S ((lkP S (lkP S t.1 + 1)), t.2)) (fid 9 48) 2000 = nI (lkP S (lkP S t.1 + 1)) from tx_48]
              refine r_iconst (v := 1) dX9_unit_191 (by decide) ?_
              refine r_iadd dX9_unit_192 ?_
              refine r_putI dX9_unit_193 (lp_X9_218 _) rfl rfl ?_
              rw [nI_1, tx_s48]
              refine R.heap (S2 := txM S ((lkP S (lkP S t.1 + 1)) + 1, t.2)) rfl ?_
              refine r_aload_n dX9_unit_196 rfl rfl ?_
              refine r_iconst (v := 0) dX9_unit_197 (by decide) ?_
              refine r_invV1v dX9_unit_198 lm_X9_239 rfl (c_X9_say 0 (txM S ((lkP S (lkP S t.1 + 1)) + 1, t.2)) (tx_sh h _) (by rw [show mI (txM S ((lkP S (lkP S t.1 + 1)) + 1, t.2)) 51 = nI t.2.2.2.1 from tx_51, nI_toInt (by omega)]; omega)) (by first | exact Nat.le_of_ble_eq_true rfl | omega) (by first | exact Nat.le_of_ble_eq_true rfl | omega) (Nat.zero_le _) (Nat.zero_le _) (fun S198 hq198 => ?_)
              rw [tx_sayS (t := ((lkP S (lkP S t.1 + 1)) + 1, t.2)) (by show t.2.2.2.1 < 420; omega)] at hq198
              subst hq198
              refine r_aload_n dX9_unit_201 rfl rfl ?_
              refine r_iload_n dX9_unit_202 rfl rfl ?_
              refine r_invV1v dX9_unit_203 lm_X9_239 rfl (c_X9_say (ltM (lkC S (lkP S t.1))) (txM S ((lkP S (lkP S t.1 + 1)) + 1, t.2.1, t.2.2.1, t.2.2.2.1 + 1, (upd t.2.2.2.2 t.2.2.2.1 0))) (tx_sh h _) (by rw [show mI (txM S ((lkP S (lkP S t.1 + 1)) + 1, t.2.1, t.2.2.1, t.2.2.2.1 + 1, (upd t.2.2.2.2 t.2.2.2.1 0))) 51 = nI (t.2.2.2.1 + 1) from tx_51, nI_toInt (by omega)]; omega)) (by first | exact Nat.le_of_ble_eq_true rfl | omega) (by first | exact Nat.le_of_ble_eq_true rfl | omega) (Nat.zero_le _) (Nat.zero_le _) (fun S203 hq203 => ?_)
              rw [tx_sayS (t := ((lkP S (lkP S t.1 + 1)) + 1, t.2.1, t.2.2.1, t.2.2.2.1 + 1, (upd t.2.2.2.2 t.2.2.2.1 0))) (by show t.2.2.2.1 + 1 < 420; omega)] at hq203
              subst hq203
              refine r_aload_n dX9_unit_206 rfl rfl ?_
              refine r_iload_n dX9_unit_207 rfl rfl ?_
              refine r_invV1v dX9_unit_208 lm_X9_239 rfl (c_X9_say (lkC S (lkP S (lkP S t.1 + 1))) (txM S ((lkP S (lkP S t.1 + 1)) + 1, t.2.1, t.2.2.1, t.2.2.2.1 + 1 + 1, (upd (upd t.2.2.2.2 t.2.2.2.1 0) (t.2.2.2.1 + 1) (ltM (lkC S (lkP S t.1)))))) (tx_sh h _) (by rw [show mI (txM S ((lkP S (lkP S t.1 + 1)) + 1, t.2.1, t.2.2.1, t.2.2.2.1 + 1 + 1, (upd (upd t.2.2.2.2 t.2.2.2.1 0) (t.2.2.2.1 + 1) (ltM (lkC S (lkP S t.1)))))) 51 = nI (t.2.2.2.1 + 1 + 1) from tx_51, nI_toInt (by omega)]; omega)) (by first | exact Nat.le_of_ble_eq_true rfl | omega) (by first | exact Nat.le_of_ble_eq_true rfl | omega) (Nat.zero_le _) (Nat.zero_le _) (fun S208 hq208 => ?_)
              rw [tx_sayS (t := ((lkP S (lkP S t.1 + 1)) + 1, t.2.1, t.2.2.1, t.2.2.2.1 + 1 + 1, (upd (upd t.2.2.2.2 t.2.2.2.1 0) (t.2.2.2.1 + 1) (ltM (lkC S (lkP S t.1)))))) (by show t.2.2.2.1 + 1 + 1 < 420; omega)] at hq208
              subst hq208
              refine R.heap (S2 := txM S ((lkP S (lkP S t.1 + 1)) + 1, t.2.1, t.2.2.1, t.2.2.2.1 + 3, upd (upd (upd t.2.2.2.2 t.2.2.2.1 0) (t.2.2.2.1 + 1) (ltM (lkC S (lkP S t.1)))) (t.2.2.2.1 + 2) (lkC S (lkP S (lkP S t.1 + 1))))) rfl ?_
              refine r_aload_n dX9_unit_211 rfl rfl ?_
              refine r_invV0v dX9_unit_212 lm_X9_243 rfl (c_X9_number ((lkP S (lkP S t.1 + 1)) + 1, t.2.1, t.2.2.1, t.2.2.2.1 + 3, upd (upd (upd t.2.2.2.2 t.2.2.2.1 0) (t.2.2.2.1 + 1) (ltM (lkC S (lkP S t.1)))) (t.2.2.2.1 + 2) (lkC S (lkP S (lkP S t.1 + 1)))) S h hz (by show (lkP S (lkP S t.1 + 1)) + 1 ≤ 215; omega) hw (by show t.2.2.2.1 + 3 < 420; omega)) (by first | exact Nat.le_of_ble_eq_true rfl | omega) (by first | exact Nat.le_of_ble_eq_true rfl | omega) (Nat.zero_le _) (Nat.zero_le _) (fun S212 hq212 => ?_)
              replace hq212 := hq212.symm
              subst hq212
              exact r_vret dX9_unit_215 rfl (Nat.zero_le _) (Nat.zero_le _) ⟨rfl, ⟨atM S t, 1, prM_0a hnb, by unfold atM; rw [if_neg hl, if_pos hsg]⟩⟩
            · skip
              refine r_iload_n dX9_unit_169 rfl rfl ?_
              refine r_bipush (v := 60) dX9_unit_170 (by decide) ?_
              refine r_icmp_eq 186 dX9_unit_172 (by decide) (fun q172 => ?_) (fun q172 => ?_)
              · skip
                have hsg : lkC S (lkP S (lkP S t.1 + 1)) = 61 ∨ lkC S (lkP S (lkP S t.1 + 1)) = 60 ∨ lkC S (lkP S (lkP S t.1 + 1)) = 62 := Or.inr (Or.inl q172)
                have hp2 : (lkP S (lkP S t.1 + 1)) < szM S := lkC_in (fun z => by rw [z] at hsg; exact absurd hsg (by decide))
                refine r_aload_n dX9_unit_186 rfl rfl ?_
                refine r_dup dX9_unit_187 rfl ?_
                refine r_getI dX9_unit_188 lf_X9_218 rfl rfl ?_
                rw [show sI (txM S ((lkP S (lkP S t.1 + 1)), t.2)) (fid 9 48) 2000 = nI (lkP S (lkP S t.1 + 1)) from tx_48]
                refine r_iconst (v := 1) dX9_unit_191 (by decide) ?_
                refine r_iadd dX9_unit_192 ?_
                refine r_putI dX9_unit_193 (lp_X9_218 _) rfl rfl ?_
                rw [nI_1, tx_s48]
                refine R.heap (S2 := txM S ((lkP S (lkP S t.1 + 1)) + 1, t.2)) rfl ?_
                refine r_aload_n dX9_unit_196 rfl rfl ?_
                refine r_iconst (v := 0) dX9_unit_197 (by decide) ?_
                refine r_invV1v dX9_unit_198 lm_X9_239 rfl (c_X9_say 0 (txM S ((lkP S (lkP S t.1 + 1)) + 1, t.2)) (tx_sh h _) (by rw [show mI (txM S ((lkP S (lkP S t.1 + 1)) + 1, t.2)) 51 = nI t.2.2.2.1 from tx_51, nI_toInt (by omega)]; omega)) (by first | exact Nat.le_of_ble_eq_true rfl | omega) (by first | exact Nat.le_of_ble_eq_true rfl | omega) (Nat.zero_le _) (Nat.zero_le _) (fun S198 hq198 => ?_)
                rw [tx_sayS (t := ((lkP S (lkP S t.1 + 1)) + 1, t.2)) (by show t.2.2.2.1 < 420; omega)] at hq198
                subst hq198
                refine r_aload_n dX9_unit_201 rfl rfl ?_
                refine r_iload_n dX9_unit_202 rfl rfl ?_
                refine r_invV1v dX9_unit_203 lm_X9_239 rfl (c_X9_say (ltM (lkC S (lkP S t.1))) (txM S ((lkP S (lkP S t.1 + 1)) + 1, t.2.1, t.2.2.1, t.2.2.2.1 + 1, (upd t.2.2.2.2 t.2.2.2.1 0))) (tx_sh h _) (by rw [show mI (txM S ((lkP S (lkP S t.1 + 1)) + 1, t.2.1, t.2.2.1, t.2.2.2.1 + 1, (upd t.2.2.2.2 t.2.2.2.1 0))) 51 = nI (t.2.2.2.1 + 1) from tx_51, nI_toInt (by omega)]; omega)) (by first | exact Nat.le_of_ble_eq_true rfl | omega) (by first | exact Nat.le_of_ble_eq_true rfl | omega) (Nat.zero_le _) (Nat.zero_le _) (fun S203 hq203 => ?_)
                rw [tx_sayS (t := ((lkP S (lkP S t.1 + 1)) + 1, t.2.1, t.2.2.1, t.2.2.2.1 + 1, (upd t.2.2.2.2 t.2.2.2.1 0))) (by show t.2.2.2.1 + 1 < 420; omega)] at hq203
                subst hq203
                refine r_aload_n dX9_unit_206 rfl rfl ?_
                refine r_iload_n dX9_unit_207 rfl rfl ?_
                refine r_invV1v dX9_unit_208 lm_X9_239 rfl (c_X9_say (lkC S (lkP S (lkP S t.1 + 1))) (txM S ((lkP S (lkP S t.1 + 1)) + 1, t.2.1, t.2.2.1, t.2.2.2.1 + 1 + 1, (upd (upd t.2.2.2.2 t.2.2.2.1 0) (t.2.2.2.1 + 1) (ltM (lkC S (lkP S t.1)))))) (tx_sh h _) (by rw [show mI (txM S ((lkP S (lkP S t.1 + 1)) + 1, t.2.1, t.2.2.1, t.2.2.2.1 + 1 + 1, (upd (upd t.2.2.2.2 t.2.2.2.1 0) (t.2.2.2.1 + 1) (ltM (lkC S (lkP S t.1)))))) 51 = nI (t.2.2.2.1 + 1 + 1) from tx_51, nI_toInt (by omega)]; omega)) (by first | exact Nat.le_of_ble_eq_true rfl | omega) (by first | exact Nat.le_of_ble_eq_true rfl | omega) (Nat.zero_le _) (Nat.zero_le _) (fun S208 hq208 => ?_)
                rw [tx_sayS (t := ((lkP S (lkP S t.1 + 1)) + 1, t.2.1, t.2.2.1, t.2.2.2.1 + 1 + 1, (upd (upd t.2.2.2.2 t.2.2.2.1 0) (t.2.2.2.1 + 1) (ltM (lkC S (lkP S t.1)))))) (by show t.2.2.2.1 + 1 + 1 < 420; omega)] at hq208
                subst hq208
                refine R.heap (S2 := txM S ((lkP S (lkP S t.1 + 1)) + 1, t.2.1, t.2.2.1, t.2.2.2.1 + 3, upd (upd (upd t.2.2.2.2 t.2.2.2.1 0) (t.2.2.2.1 + 1) (ltM (lkC S (lkP S t.1)))) (t.2.2.2.1 + 2) (lkC S (lkP S (lkP S t.1 + 1))))) rfl ?_
                refine r_aload_n dX9_unit_211 rfl rfl ?_
                refine r_invV0v dX9_unit_212 lm_X9_243 rfl (c_X9_number ((lkP S (lkP S t.1 + 1)) + 1, t.2.1, t.2.2.1, t.2.2.2.1 + 3, upd (upd (upd t.2.2.2.2 t.2.2.2.1 0) (t.2.2.2.1 + 1) (ltM (lkC S (lkP S t.1)))) (t.2.2.2.1 + 2) (lkC S (lkP S (lkP S t.1 + 1)))) S h hz (by show (lkP S (lkP S t.1 + 1)) + 1 ≤ 215; omega) hw (by show t.2.2.2.1 + 3 < 420; omega)) (by first | exact Nat.le_of_ble_eq_true rfl | omega) (by first | exact Nat.le_of_ble_eq_true rfl | omega) (Nat.zero_le _) (Nat.zero_le _) (fun S212 hq212 => ?_)
                replace hq212 := hq212.symm
                subst hq212
                exact r_vret dX9_unit_215 rfl (Nat.zero_le _) (Nat.zero_le _) ⟨rfl, ⟨atM S t, 1, prM_0a hnb, by unfold atM; rw [if_neg hl, if_pos hsg]⟩⟩
              · skip
                refine r_iload_n dX9_unit_175 rfl rfl ?_
                refine r_bipush (v := 62) dX9_unit_176 (by decide) ?_
                refine r_icmp_eq 186 dX9_unit_178 (by decide) (fun q178 => ?_) (fun q178 => ?_)
                · skip
                  have hsg : lkC S (lkP S (lkP S t.1 + 1)) = 61 ∨ lkC S (lkP S (lkP S t.1 + 1)) = 60 ∨ lkC S (lkP S (lkP S t.1 + 1)) = 62 := Or.inr (Or.inr q178)
                  have hp2 : (lkP S (lkP S t.1 + 1)) < szM S := lkC_in (fun z => by rw [z] at hsg; exact absurd hsg (by decide))
                  refine r_aload_n dX9_unit_186 rfl rfl ?_
                  refine r_dup dX9_unit_187 rfl ?_
                  refine r_getI dX9_unit_188 lf_X9_218 rfl rfl ?_
                  rw [show sI (txM S ((lkP S (lkP S t.1 + 1)), t.2)) (fid 9 48) 2000 = nI (lkP S (lkP S t.1 + 1)) from tx_48]
                  refine r_iconst (v := 1) dX9_unit_191 (by decide) ?_
                  refine r_iadd dX9_unit_192 ?_
                  refine r_putI dX9_unit_193 (lp_X9_218 _) rfl rfl ?_
                  rw [nI_1, tx_s48]
                  refine R.heap (S2 := txM S ((lkP S (lkP S t.1 + 1)) + 1, t.2)) rfl ?_
                  refine r_aload_n dX9_unit_196 rfl rfl ?_
                  refine r_iconst (v := 0) dX9_unit_197 (by decide) ?_
                  refine r_invV1v dX9_unit_198 lm_X9_239 rfl (c_X9_say 0 (txM S ((lkP S (lkP S t.1 + 1)) + 1, t.2)) (tx_sh h _) (by rw [show mI (txM S ((lkP S (lkP S t.1 + 1)) + 1, t.2)) 51 = nI t.2.2.2.1 from tx_51, nI_toInt (by omega)]; omega)) (by first | exact Nat.le_of_ble_eq_true rfl | omega) (by first | exact Nat.le_of_ble_eq_true rfl | omega) (Nat.zero_le _) (Nat.zero_le _) (fun S198 hq198 => ?_)
                  rw [tx_sayS (t := ((lkP S (lkP S t.1 + 1)) + 1, t.2)) (by show t.2.2.2.1 < 420; omega)] at hq198
                  subst hq198
                  refine r_aload_n dX9_unit_201 rfl rfl ?_
                  refine r_iload_n dX9_unit_202 rfl rfl ?_
                  refine r_invV1v dX9_unit_203 lm_X9_239 rfl (c_X9_say (ltM (lkC S (lkP S t.1))) (txM S ((lkP S (lkP S t.1 + 1)) + 1, t.2.1, t.2.2.1, t.2.2.2.1 + 1, (upd t.2.2.2.2 t.2.2.2.1 0))) (tx_sh h _) (by rw [show mI (txM S ((lkP S (lkP S t.1 + 1)) + 1, t.2.1, t.2.2.1, t.2.2.2.1 + 1, (upd t.2.2.2.2 t.2.2.2.1 0))) 51 = nI (t.2.2.2.1 + 1) from tx_51, nI_toInt (by omega)]; omega)) (by first | exact Nat.le_of_ble_eq_true rfl | omega) (by first | exact Nat.le_of_ble_eq_true rfl | omega) (Nat.zero_le _) (Nat.zero_le _) (fun S203 hq203 => ?_)
                  rw [tx_sayS (t := ((lkP S (lkP S t.1 + 1)) + 1, t.2.1, t.2.2.1, t.2.2.2.1 + 1, (upd t.2.2.2.2 t.2.2.2.1 0))) (by show t.2.2.2.1 + 1 < 420; omega)] at hq203
                  subst hq203
                  refine r_aload_n dX9_unit_206 rfl rfl ?_
                  refine r_iload_n dX9_unit_207 rfl rfl ?_
                  refine r_invV1v dX9_unit_208 lm_X9_239 rfl (c_X9_say (lkC S (lkP S (lkP S t.1 + 1))) (txM S ((lkP S (lkP S t.1 + 1)) + 1, t.2.1, t.2.2.1, t.2.2.2.1 + 1 + 1, (upd (upd t.2.2.2.2 t.2.2.2.1 0) (t.2.2.2.1 + 1) (ltM (lkC S (lkP S t.1)))))) (tx_sh h _) (by rw [show mI (txM S ((lkP S (lkP S t.1 + 1)) + 1, t.2.1, t.2.2.1, t.2.2.2.1 + 1 + 1, (upd (upd t.2.2.2.2 t.2.2.2.1 0) (t.2.2.2.1 + 1) (ltM (lkC S (lkP S t.1)))))) 51 = nI (t.2.2.2.1 + 1 + 1) from tx_51, nI_toInt (by omega)]; omega)) (by first | exact Nat.le_of_ble_eq_true rfl | omega) (by first | exact Nat.le_of_ble_eq_true rfl | omega) (Nat.zero_le _) (Nat.zero_le _) (fun S208 hq208 => ?_)
                  rw [tx_sayS (t := ((lkP S (lkP S t.1 + 1)) + 1, t.2.1, t.2.2.1, t.2.2.2.1 + 1 + 1, (upd (upd t.2.2.2.2 t.2.2.2.1 0) (t.2.2.2.1 + 1) (ltM (lkC S (lkP S t.1)))))) (by show t.2.2.2.1 + 1 + 1 < 420; omega)] at hq208
                  subst hq208
                  refine R.heap (S2 := txM S ((lkP S (lkP S t.1 + 1)) + 1, t.2.1, t.2.2.1, t.2.2.2.1 + 3, upd (upd (upd t.2.2.2.2 t.2.2.2.1 0) (t.2.2.2.1 + 1) (ltM (lkC S (lkP S t.1)))) (t.2.2.2.1 + 2) (lkC S (lkP S (lkP S t.1 + 1))))) rfl ?_
                  refine r_aload_n dX9_unit_211 rfl rfl ?_
                  refine r_invV0v dX9_unit_212 lm_X9_243 rfl (c_X9_number ((lkP S (lkP S t.1 + 1)) + 1, t.2.1, t.2.2.1, t.2.2.2.1 + 3, upd (upd (upd t.2.2.2.2 t.2.2.2.1 0) (t.2.2.2.1 + 1) (ltM (lkC S (lkP S t.1)))) (t.2.2.2.1 + 2) (lkC S (lkP S (lkP S t.1 + 1)))) S h hz (by show (lkP S (lkP S t.1 + 1)) + 1 ≤ 215; omega) hw (by show t.2.2.2.1 + 3 < 420; omega)) (by first | exact Nat.le_of_ble_eq_true rfl | omega) (by first | exact Nat.le_of_ble_eq_true rfl | omega) (Nat.zero_le _) (Nat.zero_le _) (fun S212 hq212 => ?_)
                  replace hq212 := hq212.symm
                  subst hq212
                  exact r_vret dX9_unit_215 rfl (Nat.zero_le _) (Nat.zero_le _) ⟨rfl, ⟨atM S t, 1, prM_0a hnb, by unfold atM; rw [if_neg hl, if_pos hsg]⟩⟩
                · skip
                  refine r_aload_n dX9_unit_181 rfl rfl ?_
                  refine r_invV0v dX9_unit_182 lm_X9_236 rfl (c_X9_fail (txM S ((lkP S (lkP S t.1 + 1)), t.2)) hsh) (by first | exact Nat.le_of_ble_eq_true rfl | omega) (by first | exact Nat.le_of_ble_eq_true rfl | omega) (Nat.zero_le _) (Nat.zero_le _) (fun S182 hq182 => ?_)
                  rw [tx_fail (t := ((lkP S (lkP S t.1 + 1)), t.2)) hw] at hq182
                  subst hq182
                  exact r_vret dX9_unit_185 rfl (Nat.zero_le _) (Nat.zero_le _) ⟨rfl, ⟨atM S t, 1, prM_0a hnb, by unfold atM; rw [if_neg hl, if_neg (fun z => by rcases z with z | z | z; exact q166 z; exact q172 z; exact q178 z)]⟩⟩
          · skip
            refine r_aload_n dX9_unit_143 rfl rfl ?_
            refine r_invV0v dX9_unit_144 lm_X9_236 rfl (c_X9_fail (txM S ((lkP S t.1), t.2)) hsh) (by first | exact Nat.le_of_ble_eq_true rfl | omega) (by first | exact Nat.le_of_ble_eq_true rfl | omega) (Nat.zero_le _) (Nat.zero_le _) (fun S144 hq144 => ?_)
            rw [tx_fail (t := ((lkP S t.1), t.2)) hw] at hq144
            subst hq144
            exact r_vret dX9_unit_147 rfl (Nat.zero_le _) (Nat.zero_le _) ⟨rfl, ⟨atM S t, 1, prM_0a hnb, by unfold atM; rw [if_pos q140]⟩⟩
      · skip
        have hlt : ltM (lkC S (lkP S t.1)) = 1 := by unfold ltM; rw [if_neg q89, if_pos q99]
        refine r_iconst (v := 1) dX9_unit_102 (by decide) ?_
        refine r_goto 137 dX9_unit_103 (by decide) ?_
        rw [← hlt]
        refine r_ist2 dX9_unit_137 (by first | exact Nat.le_of_ble_eq_true rfl | omega) rfl ?_
        refine r_iload_n dX9_unit_138 rfl rfl ?_
        refine r_iconst (v := (-1)) dX9_unit_139 (by decide) ?_
        refine r_icmp_ne 148 dX9_unit_140 (by decide) (fun q140 => ?_) (fun q140 => ?_)
        · skip
          have hl : ¬ ltM (lkC S (lkP S t.1)) = -1 := q140
          have hp : (lkP S t.1) < szM S := lkC_in (fun z => hl (by rw [z]; rfl))
          obtain ⟨m1, m2⟩ := lkP_le (S := S) (a := (lkP S t.1) + 1) (by omega)
          refine r_aload_n dX9_unit_148 rfl rfl ?_
          refine r_dup dX9_unit_149 rfl ?_
          refine r_getI dX9_unit_150 lf_X9_218 rfl rfl ?_
          rw [show sI (txM S ((lkP S t.1), t.2)) (fid 9 48) 2000 = nI (lkP S t.1) from tx_48]
          refine r_iconst (v := 1) dX9_unit_153 (by decide) ?_
          refine r_iadd dX9_unit_154 ?_
          refine r_putI dX9_unit_155 (lp_X9_218 _) rfl rfl ?_
          rw [nI_1, tx_s48]
          refine r_aload_n dX9_unit_158 rfl rfl ?_
          refine r_invV0i dX9_unit_159 lm_X9_227 rfl (c_X9_look ((lkP S t.1) + 1, t.2) S h hz (by show (lkP S t.1) + 1 ≤ 215; omega)) (by first | exact Nat.le_of_ble_eq_true rfl | omega) (by first | exact Nat.le_of_ble_eq_true rfl | omega) (Nat.zero_le _) (Nat.zero_le _) (fun r159 S159 hq159 => ?_)
          obtain ⟨hr159, hz159⟩ := hq159
          subst hz159
          subst hr159
          have hsh : ShM (txM S ((lkP S (lkP S t.1 + 1)), t.2)) := tx_sh h _
          refine r_ist3 dX9_unit_162 (by first | exact Nat.le_of_ble_eq_true rfl | omega) rfl ?_
          refine r_iload_n dX9_unit_163 rfl rfl ?_
          refine r_bipush (v := 61) dX9_unit_164 (by decide) ?_
          refine r_icmp_eq 186 dX9_unit_166 (by decide) (fun q166 => ?_) (fun q166 => ?_)
          · skip
            have hsg : lkC S (lkP S (lkP S t.1 + 1)) = 61 ∨ lkC S (lkP S (lkP S t.1 + 1)) = 60 ∨ lkC S (lkP S (lkP S t.1 + 1)) = 62 := Or.inl q166
            have hp2 : (lkP S (lkP S t.1 + 1)) < szM S := lkC_in (fun z => by rw [z] at hsg; exact absurd hsg (by decide))
            refine r_aload_n dX9_unit_186 rfl rfl ?_
            refine r_dup dX9_unit_187 rfl ?_
            refine r_getI dX9_unit_188 lf_X9_218 rfl rfl ?_
            rw [show sI (txM S ((lkP S (lkP S t.1 + 1)), t.2)) (fid 9 48) 2000 = nI (lkP S (lkP S t.1 + 1)) from tx_48]
            refine r_iconst (v := 1) dX9_unit_191 (by decide) ?_
            refine r_iadd dX9_unit_192 ?_
            refine r_putI dX9_unit_193 (lp_X9_218 _) rfl rfl ?_
            rw [nI_1, tx_s48]
            refine R.heap (S2 := txM S ((lkP S (lkP S t.1 + 1)) + 1, t.2)) rfl ?_
            refine r_aload_n dX9_unit_196 rfl rfl ?_
            refine r_iconst (v := 0) dX9_unit_197 (by decide) ?_
            refine r_invV1v dX9_unit_198 lm_X9_239 rfl (c_X9_say 0 (txM S ((lkP S (lkP S t.1 + 1)) + 1, t.2)) (tx_sh h _) (by rw [show mI (txM S ((lkP S (lkP S t.1 + 1)) + 1, t.2)) 51 = nI t.2.2.2.1 from tx_51, nI_toInt (by omega)]; omega)) (by first | exact Nat.le_of_ble_eq_true rfl | omega) (by first | exact Nat.le_of_ble_eq_true rfl | omega) (Nat.zero_le _) (Nat.zero_le _) (fun S198 hq198 => ?_)
            rw [tx_sayS (t := ((lkP S (lkP S t.1 + 1)) + 1, t.2)) (by show t.2.2.2.1 < 420; omega)] at hq198
            subst hq198
            refine r_aload_n dX9_unit_201 rfl rfl ?_
            refine r_iload_n dX9_unit_202 rfl rfl ?_
            refine r_invV1v dX9_unit_203 lm_X9_239 rfl (c_X9_say (ltM (lkC S (lkP S t.1))) (txM S ((lkP S (lkP S t.1 + 1)) + 1, t.2.1, t.2.2.1, t.2.2.2.1 + 1, (upd t.2.2.2.2 t.2.2.2.1 0))) (tx_sh h _) (by rw [show mI (txM S ((lkP S (lkP S t.1 + 1)) + 1, t.2.1, t.2.2.1, t.2.2.2.1 + 1, (upd t.2.2.2.2 t.2.2.2.1 0))) 51 = nI (t.2.2.2.1 + 1) from tx_51, nI_toInt (by omega)]; omega)) (by first | exact Nat.le_of_ble_eq_true rfl | omega) (by first | exact Nat.le_of_ble_eq_true rfl | omega) (Nat.zero_le _) (Nat.zero_le _) (fun S203 hq203 => ?_)
            rw [tx_sayS (t := ((lkP S (lkP S t.1 + 1)) + 1, t.2.1, t.2.2.1, t.2.2.2.1 + 1, (upd t.2.2.2.2 t.2.2.2.1 0))) (by show t.2.2.2.1 + 1 < 420; omega)] at hq203
            subst hq203
            refine r_aload_n dX9_unit_206 rfl rfl ?_
            refine r_iload_n dX9_unit_207 rfl rfl ?_
            refine r_invV1v dX9_unit_208 lm_X9_239 rfl (c_X9_say (lkC S (lkP S (lkP S t.1 + 1))) (txM S ((lkP S (lkP S t.1 + 1)) + 1, t.2.1, t.2.2.1, t.2.2.2.1 + 1 + 1, (upd (upd t.2.2.2.2 t.2.2.2.1 0) (t.2.2.2.1 + 1) (ltM (lkC S (lkP S t.1)))))) (tx_sh h _) (by rw [show mI (txM S ((lkP S (lkP S t.1 + 1)) + 1, t.2.1, t.2.2.1, t.2.2.2.1 + 1 + 1, (upd (upd t.2.2.2.2 t.2.2.2.1 0) (t.2.2.2.1 + 1) (ltM (lkC S (lkP S t.1)))))) 51 = nI (t.2.2.2.1 + 1 + 1) from tx_51, nI_toInt (by omega)]; omega)) (by first | exact Nat.le_of_ble_eq_true rfl | omega) (by first | exact Nat.le_of_ble_eq_true rfl | omega) (Nat.zero_le _) (Nat.zero_le _) (fun S208 hq208 => ?_)
            rw [tx_sayS (t := ((lkP S (lkP S t.1 + 1)) + 1, t.2.1, t.2.2.1, t.2.2.2.1 + 1 + 1, (upd (upd t.2.2.2.2 t.2.2.2.1 0) (t.2.2.2.1 + 1) (ltM (lkC S (lkP S t.1)))))) (by show t.2.2.2.1 + 1 + 1 < 420; omega)] at hq208
            subst hq208
            refine R.heap (S2 := txM S ((lkP S (lkP S t.1 + 1)) + 1, t.2.1, t.2.2.1, t.2.2.2.1 + 3, upd (upd (upd t.2.2.2.2 t.2.2.2.1 0) (t.2.2.2.1 + 1) (ltM (lkC S (lkP S t.1)))) (t.2.2.2.1 + 2) (lkC S (lkP S (lkP S t.1 + 1))))) rfl ?_
            refine r_aload_n dX9_unit_211 rfl rfl ?_
            refine r_invV0v dX9_unit_212 lm_X9_243 rfl (c_X9_number ((lkP S (lkP S t.1 + 1)) + 1, t.2.1, t.2.2.1, t.2.2.2.1 + 3, upd (upd (upd t.2.2.2.2 t.2.2.2.1 0) (t.2.2.2.1 + 1) (ltM (lkC S (lkP S t.1)))) (t.2.2.2.1 + 2) (lkC S (lkP S (lkP S t.1 + 1)))) S h hz (by show (lkP S (lkP S t.1 + 1)) + 1 ≤ 215; omega) hw (by show t.2.2.2.1 + 3 < 420; omega)) (by first | exact Nat.le_of_ble_eq_true rfl | omega) (by first | exact Nat.le_of_ble_eq_true rfl | omega) (Nat.zero_le _) (Nat.zero_le _) (fun S212 hq212 => ?_)
            replace hq212 := hq212.symm
            subst hq212
            exact r_vret dX9_unit_215 rfl (Nat.zero_le _) (Nat.zero_le _) ⟨rfl, ⟨atM S t, 1, prM_0a hnb, by unfold atM; rw [if_neg hl, if_pos hsg]⟩⟩
          · skip
            refine r_iload_n dX9_unit_169 rfl rfl ?_
            refine r_bipush (v := 60) dX9_unit_170 (by decide) ?_
            refine r_icmp_eq 186 dX9_unit_172 (by decide) (fun q172 => ?_) (fun q172 => ?_)
            · skip
              have hsg : lkC S (lkP S (lkP S t.1 + 1)) = 61 ∨ lkC S (lkP S (lkP S t.1 + 1)) = 60 ∨ lkC S (lkP S (lkP S t.1 + 1)) = 62 := Or.inr (Or.inl q172)
              have hp2 : (lkP S (lkP S t.1 + 1)) < szM S := lkC_in (fun z => by rw [z] at hsg; exact absurd hsg (by decide))
              refine r_aload_n dX9_unit_186 rfl rfl ?_
              refine r_dup dX9_unit_187 rfl ?_
              refine r_getI dX9_unit_188 lf_X9_218 rfl rfl ?_
              rw [show sI (txM S ((lkP S (lkP S t.1 + 1)), t.2)) (fid 9 48) 2000 = nI (lkP S (lkP S t.1 + 1)) from tx_48]
              refine r_iconst (v := 1) dX9_unit_191 (by decide) ?_
              refine r_iadd dX9_unit_192 ?_
              refine r_putI dX9_unit_193 (lp_X9_218 _) rfl rfl ?_
              rw [nI_1, tx_s48]
              refine R.heap (S2 := txM S ((lkP S (lkP S t.1 + 1)) + 1, t.2)) rfl ?_
              refine r_aload_n dX9_unit_196 rfl rfl ?_
              refine r_iconst (v := 0) dX9_unit_197 (by decide) ?_
              refine r_invV1v dX9_unit_198 lm_X9_239 rfl (c_X9_say 0 (txM S ((lkP S (lkP S t.1 + 1)) + 1, t.2)) (tx_sh h _) (by rw [show mI (txM S ((lkP S (lkP S t.1 + 1)) + 1, t.2)) 51 = nI t.2.2.2.1 from tx_51, nI_toInt (by omega)]; omega)) (by first | exact Nat.le_of_ble_eq_true rfl | omega) (by first | exact Nat.le_of_ble_eq_true rfl | omega) (Nat.zero_le _) (Nat.zero_le _) (fun S198 hq198 => ?_)
              rw [tx_sayS (t := ((lkP S (lkP S t.1 + 1)) + 1, t.2)) (by show t.2.2.2.1 < 420; omega)] at hq198
              subst hq198
              refine r_aload_n dX9_unit_201 rfl rfl ?_
              refine r_iload_n dX9_unit_202 rfl rfl ?_
              refine r_invV1v dX9_unit_203 lm_X9_239 rfl (c_X9_say (ltM (lkC S (lkP S t.1))) (txM S ((lkP S (lkP S t.1 + 1)) + 1, t.2.1, t.2.2.1, t.2.2.2.1 + 1, (upd t.2.2.2.2 t.2.2.2.1 0))) (tx_sh h _) (by rw [show mI (txM S ((lkP S (lkP S t.1 + 1)) + 1, t.2.1, t.2.2.1, t.2.2.2.1 + 1, (upd t.2.2.2.2 t.2.2.2.1 0))) 51 = nI (t.2.2.2.1 + 1) from tx_51, nI_toInt (by omega)]; omega)) (by first | exact Nat.le_of_ble_eq_true rfl | omega) (by first | exact Nat.le_of_ble_eq_true rfl | omega) (Nat.zero_le _) (Nat.zero_le _) (fun S203 hq203 => ?_)
              rw [tx_sayS (t := ((lkP S (lkP S t.1 + 1)) + 1, t.2.1, t.2.2.1, t.2.2.2.1 + 1, (upd t.2.2.2.2 t.2.2.2.1 0))) (by show t.2.2.2.1 + 1 < 420; omega)] at hq203
              subst hq203
              refine r_aload_n dX9_unit_206 rfl rfl ?_
              refine r_iload_n dX9_unit_207 rfl rfl ?_
              refine r_invV1v dX9_unit_208 lm_X9_239 rfl (c_X9_say (lkC S (lkP S (lkP S t.1 + 1))) (txM S ((lkP S (lkP S t.1 + 1)) + 1, t.2.1, t.2.2.1, t.2.2.2.1 + 1 + 1, (upd (upd t.2.2.2.2 t.2.2.2.1 0) (t.2.2.2.1 + 1) (ltM (lkC S (lkP S t.1)))))) (tx_sh h _) (by rw [show mI (txM S ((lkP S (lkP S t.1 + 1)) + 1, t.2.1, t.2.2.1, t.2.2.2.1 + 1 + 1, (upd (upd t.2.2.2.2 t.2.2.2.1 0) (t.2.2.2.1 + 1) (ltM (lkC S (lkP S t.1)))))) 51 = nI (t.2.2.2.1 + 1 + 1) from tx_51, nI_toInt (by omega)]; omega)) (by first | exact Nat.le_of_ble_eq_true rfl | omega) (by first | exact Nat.le_of_ble_eq_true rfl | omega) (Nat.zero_le _) (Nat.zero_le _) (fun S208 hq208 => ?_)
              rw [tx_sayS (t := ((lkP S (lkP S t.1 + 1)) + 1, t.2.1, t.2.2.1, t.2.2.2.1 + 1 + 1, (upd (upd t.2.2.2.2 t.2.2.2.1 0) (t.2.2.2.1 + 1) (ltM (lkC S (lkP S t.1)))))) (by show t.2.2.2.1 + 1 + 1 < 420; omega)] at hq208
              subst hq208
              refine R.heap (S2 := txM S ((lkP S (lkP S t.1 + 1)) + 1, t.2.1, t.2.2.1, t.2.2.2.1 + 3, upd (upd (upd t.2.2.2.2 t.2.2.2.1 0) (t.2.2.2.1 + 1) (ltM (lkC S (lkP S t.1)))) (t.2.2.2.1 + 2) (lkC S (lkP S (lkP S t.1 + 1))))) rfl ?_
              refine r_aload_n dX9_unit_211 rfl rfl ?_
              refine r_invV0v dX9_unit_212 lm_X9_243 rfl (c_X9_number ((lkP S (lkP S t.1 + 1)) + 1, t.2.1, t.2.2.1, t.2.2.2.1 + 3, upd (upd (upd t.2.2.2.2 t.2.2.2.1 0) (t.2.2.2.1 + 1) (ltM (lkC S (lkP S t.1)))) (t.2.2.2.1 + 2) (lkC S (lkP S (lkP S t.1 + 1)))) S h hz (by show (lkP S (lkP S t.1 + 1)) + 1 ≤ 215; omega) hw (by show t.2.2.2.1 + 3 < 420; omega)) (by first | exact Nat.le_of_ble_eq_true rfl | omega) (by first | exact Nat.le_of_ble_eq_true rfl | omega) (Nat.zero_le _) (Nat.zero_le _) (fun S212 hq212 => ?_)
              replace hq212 := hq212.symm
              subst hq212
              exact r_vret dX9_unit_215 rfl (Nat.zero_le _) (Nat.zero_le _) ⟨rfl, ⟨atM S t, 1, prM_0a hnb, by unfold atM; rw [if_neg hl, if_pos hsg]⟩⟩
            · skip
              refine r_iload_n dX9_unit_175 rfl rfl ?_
              refine r_bipush (v := 62) dX9_unit_176 (by decide) ?_
              refine r_icmp_eq 186 dX9_unit_178 (by decide) (fun q178 => ?_) (fun q178 => ?_)
              · skip
                have hsg : lkC S (lkP S (lkP S t.1 + 1)) = 61 ∨ lkC S (lkP S (lkP S t.1 + 1)) = 60 ∨ lkC S (lkP S (lkP S t.1 + 1)) = 62 := Or.inr (Or.inr q178)
                have hp2 : (lkP S (lkP S t.1 + 1)) < szM S := lkC_in (fun z => by rw [z] at hsg; exact absurd hsg (by decide))
                refine r_aload_n dX9_unit_186 rfl rfl ?_
                refine r_dup dX9_unit_187 rfl ?_
                refine r_getI dX9_unit_188 lf_X9_218 rfl rfl ?_
                rw [show sI (txM S ((lkP S (lkP S t.1 + 1)), t.2)) (fid 9 48) 2000 = nI (lkP S (lkP S t.1 + 1)) from tx_48]
                refine r_iconst (v := 1) dX9_unit_191 (by decide) ?_
                refine r_iadd dX9_unit_192 ?_
                refine r_putI dX9_unit_193 (lp_X9_218 _) rfl rfl ?_
                rw [nI_1, tx_s48]
                refine R.heap (S2 := txM S ((lkP S (lkP S t.1 + 1)) + 1, t.2)) rfl ?_
                refine r_aload_n dX9_unit_196 rfl rfl ?_
                refine r_iconst (v := 0) dX9_unit_197 (by decide) ?_
                refine r_invV1v dX9_unit_198 lm_X9_239 rfl (c_X9_say 0 (txM S ((lkP S (lkP S t.1 + 1)) + 1, t.2)) (tx_sh h _) (by rw [show mI (txM S ((lkP S (lkP S t.1 + 1)) + 1, t.2)) 51 = nI t.2.2.2.1 from tx_51, nI_toInt (by omega)]; omega)) (by first | exact Nat.le_of_ble_eq_true rfl | omega) (by first | exact Nat.le_of_ble_eq_true rfl | omega) (Nat.zero_le _) (Nat.zero_le _) (fun S198 hq198 => ?_)
                rw [tx_sayS (t := ((lkP S (lkP S t.1 + 1)) + 1, t.2)) (by show t.2.2.2.1 < 420; omega)] at hq198
                subst hq198
                refine r_aload_n dX9_unit_201 rfl rfl ?_
                refine r_iload_n dX9_unit_202 rfl rfl ?_
                refine r_invV1v dX9_unit_203 lm_X9_239 rfl (c_X9_say (ltM (lkC S (lkP S t.1))) (txM S ((lkP S (lkP S t.1 + 1)) + 1, t.2.1, t.2.2.1, t.2.2.2.1 + 1, (upd t.2.2.2.2 t.2.2.2.1 0))) (tx_sh h _) (by rw [show mI (txM S ((lkP S (lkP S t.1 + 1)) + 1, t.2.1, t.2.2.1, t.2.2.2.1 + 1, (upd t.2.2.2.2 t.2.2.2.1 0))) 51 = nI (t.2.2.2.1 + 1) from tx_51, nI_toInt (by omega)]; omega)) (by first | exact Nat.le_of_ble_eq_true rfl | omega) (by first | exact Nat.le_of_ble_eq_true rfl | omega) (Nat.zero_le _) (Nat.zero_le _) (fun S203 hq203 => ?_)
                rw [tx_sayS (t := ((lkP S (lkP S t.1 + 1)) + 1, t.2.1, t.2.2.1, t.2.2.2.1 + 1, (upd t.2.2.2.2 t.2.2.2.1 0))) (by show t.2.2.2.1 + 1 < 420; omega)] at hq203
                subst hq203
                refine r_aload_n dX9_unit_206 rfl rfl ?_
                refine r_iload_n dX9_unit_207 rfl rfl ?_
                refine r_invV1v dX9_unit_208 lm_X9_239 rfl (c_X9_say (lkC S (lkP S (lkP S t.1 + 1))) (txM S ((lkP S (lkP S t.1 + 1)) + 1, t.2.1, t.2.2.1, t.2.2.2.1 + 1 + 1, (upd (upd t.2.2.2.2 t.2.2.2.1 0) (t.2.2.2.1 + 1) (ltM (lkC S (lkP S t.1)))))) (tx_sh h _) (by rw [show mI (txM S ((lkP S (lkP S t.1 + 1)) + 1, t.2.1, t.2.2.1, t.2.2.2.1 + 1 + 1, (upd (upd t.2.2.2.2 t.2.2.2.1 0) (t.2.2.2.1 + 1) (ltM (lkC S (lkP S t.1)))))) 51 = nI (t.2.2.2.1 + 1 + 1) from tx_51, nI_toInt (by omega)]; omega)) (by first | exact Nat.le_of_ble_eq_true rfl | omega) (by first | exact Nat.le_of_ble_eq_true rfl | omega) (Nat.zero_le _) (Nat.zero_le _) (fun S208 hq208 => ?_)
                rw [tx_sayS (t := ((lkP S (lkP S t.1 + 1)) + 1, t.2.1, t.2.2.1, t.2.2.2.1 + 1 + 1, (upd (upd t.2.2.2.2 t.2.2.2.1 0) (t.2.2.2.1 + 1) (ltM (lkC S (lkP S t.1)))))) (by show t.2.2.2.1 + 1 + 1 < 420; omega)] at hq208
                subst hq208
                refine R.heap (S2 := txM S ((lkP S (lkP S t.1 + 1)) + 1, t.2.1, t.2.2.1, t.2.2.2.1 + 3, upd (upd (upd t.2.2.2.2 t.2.2.2.1 0) (t.2.2.2.1 + 1) (ltM (lkC S (lkP S t.1)))) (t.2.2.2.1 + 2) (lkC S (lkP S (lkP S t.1 + 1))))) rfl ?_
                refine r_aload_n dX9_unit_211 rfl rfl ?_
                refine r_invV0v dX9_unit_212 lm_X9_243 rfl (c_X9_number ((lkP S (lkP S t.1 + 1)) + 1, t.2.1, t.2.2.1, t.2.2.2.1 + 3, upd (upd (upd t.2.2.2.2 t.2.2.2.1 0) (t.2.2.2.1 + 1) (ltM (lkC S (lkP S t.1)))) (t.2.2.2.1 + 2) (lkC S (lkP S (lkP S t.1 + 1)))) S h hz (by show (lkP S (lkP S t.1 + 1)) + 1 ≤ 215; omega) hw (by show t.2.2.2.1 + 3 < 420; omega)) (by first | exact Nat.le_of_ble_eq_true rfl | omega) (by first | exact Nat.le_of_ble_eq_true rfl | omega) (Nat.zero_le _) (Nat.zero_le _) (fun S212 hq212 => ?_)
                replace hq212 := hq212.symm
                subst hq212
                exact r_vret dX9_unit_215 rfl (Nat.zero_le _) (Nat.zero_le _) ⟨rfl, ⟨atM S t, 1, prM_0a hnb, by unfold atM; rw [if_neg hl, if_pos hsg]⟩⟩
              · skip
                refine r_aload_n dX9_unit_181 rfl rfl ?_
                refine r_invV0v dX9_unit_182 lm_X9_236 rfl (c_X9_fail (txM S ((lkP S (lkP S t.1 + 1)), t.2)) hsh) (by first | exact Nat.le_of_ble_eq_true rfl | omega) (by first | exact Nat.le_of_ble_eq_true rfl | omega) (Nat.zero_le _) (Nat.zero_le _) (fun S182 hq182 => ?_)
                rw [tx_fail (t := ((lkP S (lkP S t.1 + 1)), t.2)) hw] at hq182
                subst hq182
                exact r_vret dX9_unit_185 rfl (Nat.zero_le _) (Nat.zero_le _) ⟨rfl, ⟨atM S t, 1, prM_0a hnb, by unfold atM; rw [if_neg hl, if_neg (fun z => by rcases z with z | z | z; exact q166 z; exact q172 z; exact q178 z)]⟩⟩
        · skip
          refine r_aload_n dX9_unit_143 rfl rfl ?_
          refine r_invV0v dX9_unit_144 lm_X9_236 rfl (c_X9_fail (txM S ((lkP S t.1), t.2)) hsh) (by first | exact Nat.le_of_ble_eq_true rfl | omega) (by first | exact Nat.le_of_ble_eq_true rfl | omega) (Nat.zero_le _) (Nat.zero_le _) (fun S144 hq144 => ?_)
          rw [tx_fail (t := ((lkP S t.1), t.2)) hw] at hq144
          subst hq144
          exact r_vret dX9_unit_147 rfl (Nat.zero_le _) (Nat.zero_le _) ⟨rfl, ⟨atM S t, 1, prM_0a hnb, by unfold atM; rw [if_pos q140]⟩⟩
    · skip
      have hlt : ltM (lkC S (lkP S t.1)) = 0 := by unfold ltM; rw [if_pos q89]
      refine r_iconst (v := 0) dX9_unit_92 (by decide) ?_
      refine r_goto 137 dX9_unit_93 (by decide) ?_
      rw [← hlt]
      refine r_ist2 dX9_unit_137 (by first | exact Nat.le_of_ble_eq_true rfl | omega) rfl ?_
      refine r_iload_n dX9_unit_138 rfl rfl ?_
      refine r_iconst (v := (-1)) dX9_unit_139 (by decide) ?_
      refine r_icmp_ne 148 dX9_unit_140 (by decide) (fun q140 => ?_) (fun q140 => ?_)
      · skip
        have hl : ¬ ltM (lkC S (lkP S t.1)) = -1 := q140
        have hp : (lkP S t.1) < szM S := lkC_in (fun z => hl (by rw [z]; rfl))
        obtain ⟨m1, m2⟩ := lkP_le (S := S) (a := (lkP S t.1) + 1) (by omega)
        refine r_aload_n dX9_unit_148 rfl rfl ?_
        refine r_dup dX9_unit_149 rfl ?_
        refine r_getI dX9_unit_150 lf_X9_218 rfl rfl ?_
        rw [show sI (txM S ((lkP S t.1), t.2)) (fid 9 48) 2000 = nI (lkP S t.1) from tx_48]
        refine r_iconst (v := 1) dX9_unit_153 (by decide) ?_
        refine r_iadd dX9_unit_154 ?_
        refine r_putI dX9_unit_155 (lp_X9_218 _) rfl rfl ?_
        rw [nI_1, tx_s48]
        refine r_aload_n dX9_unit_158 rfl rfl ?_
        refine r_invV0i dX9_unit_159 lm_X9_227 rfl (c_X9_look ((lkP S t.1) + 1, t.2) S h hz (by show (lkP S t.1) + 1 ≤ 215; omega)) (by first | exact Nat.le_of_ble_eq_true rfl | omega) (by first | exact Nat.le_of_ble_eq_true rfl | omega) (Nat.zero_le _) (Nat.zero_le _) (fun r159 S159 hq159 => ?_)
        obtain ⟨hr159, hz159⟩ := hq159
        subst hz159
        subst hr159
        have hsh : ShM (txM S ((lkP S (lkP S t.1 + 1)), t.2)) := tx_sh h _
        refine r_ist3 dX9_unit_162 (by first | exact Nat.le_of_ble_eq_true rfl | omega) rfl ?_
        refine r_iload_n dX9_unit_163 rfl rfl ?_
        refine r_bipush (v := 61) dX9_unit_164 (by decide) ?_
        refine r_icmp_eq 186 dX9_unit_166 (by decide) (fun q166 => ?_) (fun q166 => ?_)
        · skip
          have hsg : lkC S (lkP S (lkP S t.1 + 1)) = 61 ∨ lkC S (lkP S (lkP S t.1 + 1)) = 60 ∨ lkC S (lkP S (lkP S t.1 + 1)) = 62 := Or.inl q166
          have hp2 : (lkP S (lkP S t.1 + 1)) < szM S := lkC_in (fun z => by rw [z] at hsg; exact absurd hsg (by decide))
          refine r_aload_n dX9_unit_186 rfl rfl ?_
          refine r_dup dX9_unit_187 rfl ?_
          refine r_getI dX9_unit_188 lf_X9_218 rfl rfl ?_
          rw [show sI (txM S ((lkP S (lkP S t.1 + 1)), t.2)) (fid 9 48) 2000 = nI (lkP S (lkP S t.1 + 1)) from tx_48]
          refine r_iconst (v := 1) dX9_unit_191 (by decide) ?_
          refine r_iadd dX9_unit_192 ?_
          refine r_putI dX9_unit_193 (lp_X9_218 _) rfl rfl ?_
          rw [nI_1, tx_s48]
          refine R.heap (S2 := txM S ((lkP S (lkP S t.1 + 1)) + 1, t.2)) rfl ?_
          refine r_aload_n dX9_unit_196 rfl rfl ?_
          refine r_iconst (v := 0) dX9_unit_197 (by decide) ?_
          refine r_invV1v dX9_unit_198 lm_X9_239 rfl (c_X9_say 0 (txM S ((lkP S (lkP S t.1 + 1)) + 1, t.2)) (tx_sh h _) (by rw [show mI (txM S ((lkP S (lkP S t.1 + 1)) + 1, t.2)) 51 = nI t.2.2.2.1 from tx_51, nI_toInt (by omega)]; omega)) (by first | exact Nat.le_of_ble_eq_true rfl | omega) (by first | exact Nat.le_of_ble_eq_true rfl | omega) (Nat.zero_le _) (Nat.zero_le _) (fun S198 hq198 => ?_)
          rw [tx_sayS (t := ((lkP S (lkP S t.1 + 1)) + 1, t.2)) (by show t.2.2.2.1 < 420; omega)] at hq198
          subst hq198
          refine r_aload_n dX9_unit_201 rfl rfl ?_
          refine r_iload_n dX9_unit_202 rfl rfl ?_
          refine r_invV1v dX9_unit_203 lm_X9_239 rfl (c_X9_say (ltM (lkC S (lkP S t.1))) (txM S ((lkP S (lkP S t.1 + 1)) + 1, t.2.1, t.2.2.1, t.2.2.2.1 + 1, (upd t.2.2.2.2 t.2.2.2.1 0))) (tx_sh h _) (by rw [show mI (txM S ((lkP S (lkP S t.1 + 1)) + 1, t.2.1, t.2.2.1, t.2.2.2.1 + 1, (upd t.2.2.2.2 t.2.2.2.1 0))) 51 = nI (t.2.2.2.1 + 1) from tx_51, nI_toInt (by omega)]; omega)) (by first | exact Nat.le_of_ble_eq_true rfl | omega) (by first | exact Nat.le_of_ble_eq_true rfl | omega) (Nat.zero_le _) (Nat.zero_le _) (fun S203 hq203 => ?_)
          rw [tx_sayS (t := ((lkP S (lkP S t.1 + 1)) + 1, t.2.1, t.2.2.1, t.2.2.2.1 + 1, (upd t.2.2.2.2 t.2.2.2.1 0))) (by show t.2.2.2.1 + 1 < 420; omega)] at hq203
          subst hq203
          refine r_aload_n dX9_unit_206 rfl rfl ?_
          refine r_iload_n dX9_unit_207 rfl rfl ?_
          refine r_invV1v dX9_unit_208 lm_X9_239 rfl (c_X9_say (lkC S (lkP S (lkP S t.1 + 1))) (txM S ((lkP S (lkP S t.1 + 1)) + 1, t.2.1, t.2.2.1, t.2.2.2.1 + 1 + 1, (upd (upd t.2.2.2.2 t.2.2.2.1 0) (t.2.2.2.1 + 1) (ltM (lkC S (lkP S t.1)))))) (tx_sh h _) (by rw [show mI (txM S ((lkP S (lkP S t.1 + 1)) + 1, t.2.1, t.2.2.1, t.2.2.2.1 + 1 + 1, (upd (upd t.2.2.2.2 t.2.2.2.1 0) (t.2.2.2.1 + 1) (ltM (lkC S (lkP S t.1)))))) 51 = nI (t.2.2.2.1 + 1 + 1) from tx_51, nI_toInt (by omega)]; omega)) (by first | exact Nat.le_of_ble_eq_true rfl | omega) (by first | exact Nat.le_of_ble_eq_true rfl | omega) (Nat.zero_le _) (Nat.zero_le _) (fun S208 hq208 => ?_)
          rw [tx_sayS (t := ((lkP S (lkP S t.1 + 1)) + 1, t.2.1, t.2.2.1, t.2.2.2.1 + 1 + 1, (upd (upd t.2.2.2.2 t.2.2.2.1 0) (t.2.2.2.1 + 1) (ltM (lkC S (lkP S t.1)))))) (by show t.2.2.2.1 + 1 + 1 < 420; omega)] at hq208
          subst hq208
          refine R.heap (S2 := txM S ((lkP S (lkP S t.1 + 1)) + 1, t.2.1, t.2.2.1, t.2.2.2.1 + 3, upd (upd (upd t.2.2.2.2 t.2.2.2.1 0) (t.2.2.2.1 + 1) (ltM (lkC S (lkP S t.1)))) (t.2.2.2.1 + 2) (lkC S (lkP S (lkP S t.1 + 1))))) rfl ?_
          refine r_aload_n dX9_unit_211 rfl rfl ?_
          refine r_invV0v dX9_unit_212 lm_X9_243 rfl (c_X9_number ((lkP S (lkP S t.1 + 1)) + 1, t.2.1, t.2.2.1, t.2.2.2.1 + 3, upd (upd (upd t.2.2.2.2 t.2.2.2.1 0) (t.2.2.2.1 + 1) (ltM (lkC S (lkP S t.1)))) (t.2.2.2.1 + 2) (lkC S (lkP S (lkP S t.1 + 1)))) S h hz (by show (lkP S (lkP S t.1 + 1)) + 1 ≤ 215; omega) hw (by show t.2.2.2.1 + 3 < 420; omega)) (by first | exact Nat.le_of_ble_eq_true rfl | omega) (by first | exact Nat.le_of_ble_eq_true rfl | omega) (Nat.zero_le _) (Nat.zero_le _) (fun S212 hq212 => ?_)
          replace hq212 := hq212.symm
          subst hq212
          exact r_vret dX9_unit_215 rfl (Nat.zero_le _) (Nat.zero_le _) ⟨rfl, ⟨atM S t, 1, prM_0a hnb, by unfold atM; rw [if_neg hl, if_pos hsg]⟩⟩
        · skip
          refine r_iload_n dX9_unit_169 rfl rfl ?_
          refine r_bipush (v := 60) dX9_unit_170 (by decide) ?_
          refine r_icmp_eq 186 dX9_unit_172 (by decide) (fun q172 => ?_) (fun q172 => ?_)
          · skip
            have hsg : lkC S (lkP S (lkP S t.1 + 1)) = 61 ∨ lkC S (lkP S (lkP S t.1 + 1)) = 60 ∨ lkC S (lkP S (lkP S t.1 + 1)) = 62 := Or.inr (Or.inl q172)
            have hp2 : (lkP S (lkP S t.1 + 1)) < szM S := lkC_in (fun z => by rw [z] at hsg; exact absurd hsg (by decide))
            refine r_aload_n dX9_unit_186 rfl rfl ?_
            refine r_dup dX9_unit_187 rfl ?_
            refine r_getI dX9_unit_188 lf_X9_218 rfl rfl ?_
            rw [show sI (txM S ((lkP S (lkP S t.1 + 1)), t.2)) (fid 9 48) 2000 = nI (lkP S (lkP S t.1 + 1)) from tx_48]
            refine r_iconst (v := 1) dX9_unit_191 (by decide) ?_
            refine r_iadd dX9_unit_192 ?_
            refine r_putI dX9_unit_193 (lp_X9_218 _) rfl rfl ?_
            rw [nI_1, tx_s48]
            refine R.heap (S2 := txM S ((lkP S (lkP S t.1 + 1)) + 1, t.2)) rfl ?_
            refine r_aload_n dX9_unit_196 rfl rfl ?_
            refine r_iconst (v := 0) dX9_unit_197 (by decide) ?_
            refine r_invV1v dX9_unit_198 lm_X9_239 rfl (c_X9_say 0 (txM S ((lkP S (lkP S t.1 + 1)) + 1, t.2)) (tx_sh h _) (by rw [show mI (txM S ((lkP S (lkP S t.1 + 1)) + 1, t.2)) 51 = nI t.2.2.2.1 from tx_51, nI_toInt (by omega)]; omega)) (by first | exact Nat.le_of_ble_eq_true rfl | omega) (by first | exact Nat.le_of_ble_eq_true rfl | omega) (Nat.zero_le _) (Nat.zero_le _) (fun S198 hq198 => ?_)
            rw [tx_sayS (t := ((lkP S (lkP S t.1 + 1)) + 1, t.2)) (by show t.2.2.2.1 < 420; omega)] at hq198
            subst hq198
            refine r_aload_n dX9_unit_201 rfl rfl ?_
            refine r_iload_n dX9_unit_202 rfl rfl ?_
            refine r_invV1v dX9_unit_203 lm_X9_239 rfl (c_X9_say (ltM (lkC S (lkP S t.1))) (txM S ((lkP S (lkP S t.1 + 1)) + 1, t.2.1, t.2.2.1, t.2.2.2.1 + 1, (upd t.2.2.2.2 t.2.2.2.1 0))) (tx_sh h _) (by rw [show mI (txM S ((lkP S (lkP S t.1 + 1)) + 1, t.2.1, t.2.2.1, t.2.2.2.1 + 1, (upd t.2.2.2.2 t.2.2.2.1 0))) 51 = nI (t.2.2.2.1 + 1) from tx_51, nI_toInt (by omega)]; omega)) (by first | exact Nat.le_of_ble_eq_true rfl | omega) (by first | exact Nat.le_of_ble_eq_true rfl | omega) (Nat.zero_le _) (Nat.zero_le _) (fun S203 hq203 => ?_)
            rw [tx_sayS (t := ((lkP S (lkP S t.1 + 1)) + 1, t.2.1, t.2.2.1, t.2.2.2.1 + 1, (upd t.2.2.2.2 t.2.2.2.1 0))) (by show t.2.2.2.1 + 1 < 420; omega)] at hq203
            subst hq203
            refine r_aload_n dX9_unit_206 rfl rfl ?_
            refine r_iload_n dX9_unit_207 rfl rfl ?_
            refine r_invV1v dX9_unit_208 lm_X9_239 rfl (c_X9_say (lkC S (lkP S (lkP S t.1 + 1))) (txM S ((lkP S (lkP S t.1 + 1)) + 1, t.2.1, t.2.2.1, t.2.2.2.1 + 1 + 1, (upd (upd t.2.2.2.2 t.2.2.2.1 0) (t.2.2.2.1 + 1) (ltM (lkC S (lkP S t.1)))))) (tx_sh h _) (by rw [show mI (txM S ((lkP S (lkP S t.1 + 1)) + 1, t.2.1, t.2.2.1, t.2.2.2.1 + 1 + 1, (upd (upd t.2.2.2.2 t.2.2.2.1 0) (t.2.2.2.1 + 1) (ltM (lkC S (lkP S t.1)))))) 51 = nI (t.2.2.2.1 + 1 + 1) from tx_51, nI_toInt (by omega)]; omega)) (by first | exact Nat.le_of_ble_eq_true rfl | omega) (by first | exact Nat.le_of_ble_eq_true rfl | omega) (Nat.zero_le _) (Nat.zero_le _) (fun S208 hq208 => ?_)
            rw [tx_sayS (t := ((lkP S (lkP S t.1 + 1)) + 1, t.2.1, t.2.2.1, t.2.2.2.1 + 1 + 1, (upd (upd t.2.2.2.2 t.2.2.2.1 0) (t.2.2.2.1 + 1) (ltM (lkC S (lkP S t.1)))))) (by show t.2.2.2.1 + 1 + 1 < 420; omega)] at hq208
            subst hq208
            refine R.heap (S2 := txM S ((lkP S (lkP S t.1 + 1)) + 1, t.2.1, t.2.2.1, t.2.2.2.1 + 3, upd (upd (upd t.2.2.2.2 t.2.2.2.1 0) (t.2.2.2.1 + 1) (ltM (lkC S (lkP S t.1)))) (t.2.2.2.1 + 2) (lkC S (lkP S (lkP S t.1 + 1))))) rfl ?_
            refine r_aload_n dX9_unit_211 rfl rfl ?_
            refine r_invV0v dX9_unit_212 lm_X9_243 rfl (c_X9_number ((lkP S (lkP S t.1 + 1)) + 1, t.2.1, t.2.2.1, t.2.2.2.1 + 3, upd (upd (upd t.2.2.2.2 t.2.2.2.1 0) (t.2.2.2.1 + 1) (ltM (lkC S (lkP S t.1)))) (t.2.2.2.1 + 2) (lkC S (lkP S (lkP S t.1 + 1)))) S h hz (by show (lkP S (lkP S t.1 + 1)) + 1 ≤ 215; omega) hw (by show t.2.2.2.1 + 3 < 420; omega)) (by first | exact Nat.le_of_ble_eq_true rfl | omega) (by first | exact Nat.le_of_ble_eq_true rfl | omega) (Nat.zero_le _) (Nat.zero_le _) (fun S212 hq212 => ?_)
            replace hq212 := hq212.symm
            subst hq212
            exact r_vret dX9_unit_215 rfl (Nat.zero_le _) (Nat.zero_le _) ⟨rfl, ⟨atM S t, 1, prM_0a hnb, by unfold atM; rw [if_neg hl, if_pos hsg]⟩⟩
          · skip
            refine r_iload_n dX9_unit_175 rfl rfl ?_
            refine r_bipush (v := 62) dX9_unit_176 (by decide) ?_
            refine r_icmp_eq 186 dX9_unit_178 (by decide) (fun q178 => ?_) (fun q178 => ?_)
            · skip
              have hsg : lkC S (lkP S (lkP S t.1 + 1)) = 61 ∨ lkC S (lkP S (lkP S t.1 + 1)) = 60 ∨ lkC S (lkP S (lkP S t.1 + 1)) = 62 := Or.inr (Or.inr q178)
              have hp2 : (lkP S (lkP S t.1 + 1)) < szM S := lkC_in (fun z => by rw [z] at hsg; exact absurd hsg (by decide))
              refine r_aload_n dX9_unit_186 rfl rfl ?_
              refine r_dup dX9_unit_187 rfl ?_
              refine r_getI dX9_unit_188 lf_X9_218 rfl rfl ?_
              rw [show sI (txM S ((lkP S (lkP S t.1 + 1)), t.2)) (fid 9 48) 2000 = nI (lkP S (lkP S t.1 + 1)) from tx_48]
              refine r_iconst (v := 1) dX9_unit_191 (by decide) ?_
              refine r_iadd dX9_unit_192 ?_
              refine r_putI dX9_unit_193 (lp_X9_218 _) rfl rfl ?_
              rw [nI_1, tx_s48]
              refine R.heap (S2 := txM S ((lkP S (lkP S t.1 + 1)) + 1, t.2)) rfl ?_
              refine r_aload_n dX9_unit_196 rfl rfl ?_
              refine r_iconst (v := 0) dX9_unit_197 (by decide) ?_
              refine r_invV1v dX9_unit_198 lm_X9_239 rfl (c_X9_say 0 (txM S ((lkP S (lkP S t.1 + 1)) + 1, t.2)) (tx_sh h _) (by rw [show mI (txM S ((lkP S (lkP S t.1 + 1)) + 1, t.2)) 51 = nI t.2.2.2.1 from tx_51, nI_toInt (by omega)]; omega)) (by first | exact Nat.le_of_ble_eq_true rfl | omega) (by first | exact Nat.le_of_ble_eq_true rfl | omega) (Nat.zero_le _) (Nat.zero_le _) (fun S198 hq198 => ?_)
              rw [tx_sayS (t := ((lkP S (lkP S t.1 + 1)) + 1, t.2)) (by show t.2.2.2.1 < 420; omega)] at hq198
              subst hq198
              refine r_aload_n dX9_unit_201 rfl rfl ?_
              refine r_iload_n dX9_unit_202 rfl rfl ?_
              refine r_invV1v dX9_unit_203 lm_X9_239 rfl (c_X9_say (ltM (lkC S (lkP S t.1))) (txM S ((lkP S (lkP S t.1 + 1)) + 1, t.2.1, t.2.2.1, t.2.2.2.1 + 1, (upd t.2.2.2.2 t.2.2.2.1 0))) (tx_sh h _) (by rw [show mI (txM S ((lkP S (lkP S t.1 + 1)) + 1, t.2.1, t.2.2.1, t.2.2.2.1 + 1, (upd t.2.2.2.2 t.2.2.2.1 0))) 51 = nI (t.2.2.2.1 + 1) from tx_51, nI_toInt (by omega)]; omega)) (by first | exact Nat.le_of_ble_eq_true rfl | omega) (by first | exact Nat.le_of_ble_eq_true rfl | omega) (Nat.zero_le _) (Nat.zero_le _) (fun S203 hq203 => ?_)
              rw [tx_sayS (t := ((lkP S (lkP S t.1 + 1)) + 1, t.2.1, t.2.2.1, t.2.2.2.1 + 1, (upd t.2.2.2.2 t.2.2.2.1 0))) (by show t.2.2.2.1 + 1 < 420; omega)] at hq203
              subst hq203
              refine r_aload_n dX9_unit_206 rfl rfl ?_
              refine r_iload_n dX9_unit_207 rfl rfl ?_
              refine r_invV1v dX9_unit_208 lm_X9_239 rfl (c_X9_say (lkC S (lkP S (lkP S t.1 + 1))) (txM S ((lkP S (lkP S t.1 + 1)) + 1, t.2.1, t.2.2.1, t.2.2.2.1 + 1 + 1, (upd (upd t.2.2.2.2 t.2.2.2.1 0) (t.2.2.2.1 + 1) (ltM (lkC S (lkP S t.1)))))) (tx_sh h _) (by rw [show mI (txM S ((lkP S (lkP S t.1 + 1)) + 1, t.2.1, t.2.2.1, t.2.2.2.1 + 1 + 1, (upd (upd t.2.2.2.2 t.2.2.2.1 0) (t.2.2.2.1 + 1) (ltM (lkC S (lkP S t.1)))))) 51 = nI (t.2.2.2.1 + 1 + 1) from tx_51, nI_toInt (by omega)]; omega)) (by first | exact Nat.le_of_ble_eq_true rfl | omega) (by first | exact Nat.le_of_ble_eq_true rfl | omega) (Nat.zero_le _) (Nat.zero_le _) (fun S208 hq208 => ?_)
              rw [tx_sayS (t := ((lkP S (lkP S t.1 + 1)) + 1, t.2.1, t.2.2.1, t.2.2.2.1 + 1 + 1, (upd (upd t.2.2.2.2 t.2.2.2.1 0) (t.2.2.2.1 + 1) (ltM (lkC S (lkP S t.1)))))) (by show t.2.2.2.1 + 1 + 1 < 420; omega)] at hq208
              subst hq208
              refine R.heap (S2 := txM S ((lkP S (lkP S t.1 + 1)) + 1, t.2.1, t.2.2.1, t.2.2.2.1 + 3, upd (upd (upd t.2.2.2.2 t.2.2.2.1 0) (t.2.2.2.1 + 1) (ltM (lkC S (lkP S t.1)))) (t.2.2.2.1 + 2) (lkC S (lkP S (lkP S t.1 + 1))))) rfl ?_
              refine r_aload_n dX9_unit_211 rfl rfl ?_
              refine r_invV0v dX9_unit_212 lm_X9_243 rfl (c_X9_number ((lkP S (lkP S t.1 + 1)) + 1, t.2.1, t.2.2.1, t.2.2.2.1 + 3, upd (upd (upd t.2.2.2.2 t.2.2.2.1 0) (t.2.2.2.1 + 1) (ltM (lkC S (lkP S t.1)))) (t.2.2.2.1 + 2) (lkC S (lkP S (lkP S t.1 + 1)))) S h hz (by show (lkP S (lkP S t.1 + 1)) + 1 ≤ 215; omega) hw (by show t.2.2.2.1 + 3 < 420; omega)) (by first | exact Nat.le_of_ble_eq_true rfl | omega) (by first | exact Nat.le_of_ble_eq_true rfl | omega) (Nat.zero_le _) (Nat.zero_le _) (fun S212 hq212 => ?_)
              replace hq212 := hq212.symm
              subst hq212
              exact r_vret dX9_unit_215 rfl (Nat.zero_le _) (Nat.zero_le _) ⟨rfl, ⟨atM S t, 1, prM_0a hnb, by unfold atM; rw [if_neg hl, if_pos hsg]⟩⟩
            · skip
              refine r_aload_n dX9_unit_181 rfl rfl ?_
              refine r_invV0v dX9_unit_182 lm_X9_236 rfl (c_X9_fail (txM S ((lkP S (lkP S t.1 + 1)), t.2)) hsh) (by first | exact Nat.le_of_ble_eq_true rfl | omega) (by first | exact Nat.le_of_ble_eq_true rfl | omega) (Nat.zero_le _) (Nat.zero_le _) (fun S182 hq182 => ?_)
              rw [tx_fail (t := ((lkP S (lkP S t.1 + 1)), t.2)) hw] at hq182
              subst hq182
              exact r_vret dX9_unit_185 rfl (Nat.zero_le _) (Nat.zero_le _) ⟨rfl, ⟨atM S t, 1, prM_0a hnb, by unfold atM; rw [if_neg hl, if_neg (fun z => by rcases z with z | z | z; exact q166 z; exact q172 z; exact q178 z)]⟩⟩
      · skip
        refine r_aload_n dX9_unit_143 rfl rfl ?_
        refine r_invV0v dX9_unit_144 lm_X9_236 rfl (c_X9_fail (txM S ((lkP S t.1), t.2)) hsh) (by first | exact Nat.le_of_ble_eq_true rfl | omega) (by first | exact Nat.le_of_ble_eq_true rfl | omega) (Nat.zero_le _) (Nat.zero_le _) (fun S144 hq144 => ?_)
        rw [tx_fail (t := ((lkP S t.1), t.2)) hw] at hq144
        subst hq144
        exact r_vret dX9_unit_147 rfl (Nat.zero_le _) (Nat.zero_le _) ⟨rfl, ⟨atM S t, 1, prM_0a hnb, by unfold atM; rw [if_pos q140]⟩⟩
  · skip
    refine r_aload_n dX9_unit_11 rfl rfl ?_
    refine r_getI dX9_unit_12 lf_X9_230 rfl rfl ?_
    rw [show sI (txM S ((lkP S t.1), t.2)) (fid 9 50) 2000 = nI t.2.2.1 from tx_50]
    refine r_bipush (v := 8) dX9_unit_15 (by decide) ?_
    refine r_icmp_ge 86 dX9_unit_17 (by decide) (fun q17 => ?_) (fun q17 => ?_)
    · skip
      have hnb : ¬ (lkC S (lkP S t.1) = 40 ∧ t.2.2.1 < 8) := fun z => by have z2 := z.2; rw [fa_le, nI_toInt (by omega)] at q17; have : (8 : Int32).toInt = 8 := rfl; omega
      refine r_iload_n dX9_unit_86 rfl rfl ?_
      refine r_bipush (v := 99) dX9_unit_87 (by decide) ?_
      refine r_icmp_ne 96 dX9_unit_89 (by decide) (fun q89 => ?_) (fun q89 => ?_)
      · skip
        refine r_iload_n dX9_unit_96 rfl rfl ?_
        refine r_bipush (v := 115) dX9_unit_97 (by decide) ?_
        refine r_icmp_ne 106 dX9_unit_99 (by decide) (fun q99 => ?_) (fun q99 => ?_)
        · skip
          refine r_iload_n dX9_unit_106 rfl rfl ?_
          refine r_bipush (v := 119) dX9_unit_107 (by decide) ?_
          refine r_icmp_ne 116 dX9_unit_109 (by decide) (fun q109 => ?_) (fun q109 => ?_)
          · skip
            refine r_iload_n dX9_unit_116 rfl rfl ?_
            refine r_bipush (v := 97) dX9_unit_117 (by decide) ?_
            refine r_icmp_ne 126 dX9_unit_119 (by decide) (fun q119 => ?_) (fun q119 => ?_)
            · skip
              refine r_iload_n dX9_unit_126 rfl rfl ?_
              refine r_bipush (v := 112) dX9_unit_127 (by decide) ?_
              refine r_icmp_ne 136 dX9_unit_129 (by decide) (fun q129 => ?_) (fun q129 => ?_)
              · skip
                have hlt : ltM (lkC S (lkP S t.1)) = -1 := by unfold ltM; rw [if_neg q89, if_neg q99, if_neg q109, if_neg q119, if_neg q129]
                refine r_iconst (v := (-1)) dX9_unit_136 (by decide) ?_
                rw [← hlt]
                refine r_ist2 dX9_unit_137 (by first | exact Nat.le_of_ble_eq_true rfl | omega) rfl ?_
                refine r_iload_n dX9_unit_138 rfl rfl ?_
                refine r_iconst (v := (-1)) dX9_unit_139 (by decide) ?_
                refine r_icmp_ne 148 dX9_unit_140 (by decide) (fun q140 => ?_) (fun q140 => ?_)
                · skip
                  have hl : ¬ ltM (lkC S (lkP S t.1)) = -1 := q140
                  have hp : (lkP S t.1) < szM S := lkC_in (fun z => hl (by rw [z]; rfl))
                  obtain ⟨m1, m2⟩ := lkP_le (S := S) (a := (lkP S t.1) + 1) (by omega)
                  refine r_aload_n dX9_unit_148 rfl rfl ?_
                  refine r_dup dX9_unit_149 rfl ?_
                  refine r_getI dX9_unit_150 lf_X9_218 rfl rfl ?_
                  rw [show sI (txM S ((lkP S t.1), t.2)) (fid 9 48) 2000 = nI (lkP S t.1) from tx_48]
                  refine r_iconst (v := 1) dX9_unit_153 (by decide) ?_
                  refine r_iadd dX9_unit_154 ?_
                  refine r_putI dX9_unit_155 (lp_X9_218 _) rfl rfl ?_
                  rw [nI_1, tx_s48]
                  refine r_aload_n dX9_unit_158 rfl rfl ?_
                  refine r_invV0i dX9_unit_159 lm_X9_227 rfl (c_X9_look ((lkP S t.1) + 1, t.2) S h hz (by show (lkP S t.1) + 1 ≤ 215; omega)) (by first | exact Nat.le_of_ble_eq_true rfl | omega) (by first | exact Nat.le_of_ble_eq_true rfl | omega) (Nat.zero_le _) (Nat.zero_le _) (fun r159 S159 hq159 => ?_)
                  obtain ⟨hr159, hz159⟩ := hq159
                  subst hz159
                  subst hr159
                  have hsh : ShM (txM S ((lkP S (lkP S t.1 + 1)), t.2)) := tx_sh h _
                  refine r_ist3 dX9_unit_162 (by first | exact Nat.le_of_ble_eq_true rfl | omega) rfl ?_
                  refine r_iload_n dX9_unit_163 rfl rfl ?_
                  refine r_bipush (v := 61) dX9_unit_164 (by decide) ?_
                  refine r_icmp_eq 186 dX9_unit_166 (by decide) (fun q166 => ?_) (fun q166 => ?_)
                  · skip
                    have hsg : lkC S (lkP S (lkP S t.1 + 1)) = 61 ∨ lkC S (lkP S (lkP S t.1 + 1)) = 60 ∨ lkC S (lkP S (lkP S t.1 + 1)) = 62 := Or.inl q166
                    have hp2 : (lkP S (lkP S t.1 + 1)) < szM S := lkC_in (fun z => by rw [z] at hsg; exact absurd hsg (by decide))
                    refine r_aload_n dX9_unit_186 rfl rfl ?_
                    refine r_dup dX9_unit_187 rfl ?_
                    refine r_getI dX9_unit_188 lf_X9_218 rfl rfl ?_
                    rw [show sI (txM S ((lkP S (lkP S t.1 + 1)), t.2)) (fid 9 48) 2000 = nI (lkP S (lkP S t.1 + 1)) from tx_48]
                    refine r_iconst (v := 1) dX9_unit_191 (by decide) ?_
                    refine r_iadd dX9_unit_192 ?_
                    refine r_putI dX9_unit_193 (lp_X9_218 _) rfl rfl ?_
                    rw [nI_1, tx_s48]
                    refine R.heap (S2 := txM S ((lkP S (lkP S t.1 + 1)) + 1, t.2)) rfl ?_
                    refine r_aload_n dX9_unit_196 rfl rfl ?_
                    refine r_iconst (v := 0) dX9_unit_197 (by decide) ?_
                    refine r_invV1v dX9_unit_198 lm_X9_239 rfl (c_X9_say 0 (txM S ((lkP S (lkP S t.1 + 1)) + 1, t.2)) (tx_sh h _) (by rw [show mI (txM S ((lkP S (lkP S t.1 + 1)) + 1, t.2)) 51 = nI t.2.2.2.1 from tx_51, nI_toInt (by omega)]; omega)) (by first | exact Nat.le_of_ble_eq_true rfl | omega) (by first | exact Nat.le_of_ble_eq_true rfl | omega) (Nat.zero_le _) (Nat.zero_le _) (fun S198 hq198 => ?_)
                    rw [tx_sayS (t := ((lkP S (lkP S t.1 + 1)) + 1, t.2)) (by show t.2.2.2.1 < 420; omega)] at hq198
                    subst hq198
                    refine r_aload_n dX9_unit_201 rfl rfl ?_
                    refine r_iload_n dX9_unit_202 rfl rfl ?_
                    refine r_invV1v dX9_unit_203 lm_X9_239 rfl (c_X9_say (ltM (lkC S (lkP S t.1))) (txM S ((lkP S (lkP S t.1 + 1)) + 1, t.2.1, t.2.2.1, t.2.2.2.1 + 1, (upd t.2.2.2.2 t.2.2.2.1 0))) (tx_sh h _) (by rw [show mI (txM S ((lkP S (lkP S t.1 + 1)) + 1, t.2.1, t.2.2.1, t.2.2.2.1 + 1, (upd t.2.2.2.2 t.2.2.2.1 0))) 51 = nI (t.2.2.2.1 + 1) from tx_51, nI_toInt (by omega)]; omega)) (by first | exact Nat.le_of_ble_eq_true rfl | omega) (by first | exact Nat.le_of_ble_eq_true rfl | omega) (Nat.zero_le _) (Nat.zero_le _) (fun S203 hq203 => ?_)
                    rw [tx_sayS (t := ((lkP S (lkP S t.1 + 1)) + 1, t.2.1, t.2.2.1, t.2.2.2.1 + 1, (upd t.2.2.2.2 t.2.2.2.1 0))) (by show t.2.2.2.1 + 1 < 420; omega)] at hq203
                    subst hq203
                    refine r_aload_n dX9_unit_206 rfl rfl ?_
                    refine r_iload_n dX9_unit_207 rfl rfl ?_
                    refine r_invV1v dX9_unit_208 lm_X9_239 rfl (c_X9_say (lkC S (lkP S (lkP S t.1 + 1))) (txM S ((lkP S (lkP S t.1 + 1)) + 1, t.2.1, t.2.2.1, t.2.2.2.1 + 1 + 1, (upd (upd t.2.2.2.2 t.2.2.2.1 0) (t.2.2.2.1 + 1) (ltM (lkC S (lkP S t.1)))))) (tx_sh h _) (by rw [show mI (txM S ((lkP S (lkP S t.1 + 1)) + 1, t.2.1, t.2.2.1, t.2.2.2.1 + 1 + 1, (upd (upd t.2.2.2.2 t.2.2.2.1 0) (t.2.2.2.1 + 1) (ltM (lkC S (lkP S t.1)))))) 51 = nI (t.2.2.2.1 + 1 + 1) from tx_51, nI_toInt (by omega)]; omega)) (by first | exact Nat.le_of_ble_eq_true rfl | omega) (by first | exact Nat.le_of_ble_eq_true rfl | omega) (Nat.zero_le _) (Nat.zero_le _) (fun S208 hq208 => ?_)
                    rw [tx_sayS (t := ((lkP S (lkP S t.1 + 1)) + 1, t.2.1, t.2.2.1, t.2.2.2.1 + 1 + 1, (upd (upd t.2.2.2.2 t.2.2.2.1 0) (t.2.2.2.1 + 1) (ltM (lkC S (lkP S t.1)))))) (by show t.2.2.2.1 + 1 + 1 < 420; omega)] at hq208
                    subst hq208
                    refine R.heap (S2 := txM S ((lkP S (lkP S t.1 + 1)) + 1, t.2.1, t.2.2.1, t.2.2.2.1 + 3, upd (upd (upd t.2.2.2.2 t.2.2.2.1 0) (t.2.2.2.1 + 1) (ltM (lkC S (lkP S t.1)))) (t.2.2.2.1 + 2) (lkC S (lkP S (lkP S t.1 + 1))))) rfl ?_
                    refine r_aload_n dX9_unit_211 rfl rfl ?_
                    refine r_invV0v dX9_unit_212 lm_X9_243 rfl (c_X9_number ((lkP S (lkP S t.1 + 1)) + 1, t.2.1, t.2.2.1, t.2.2.2.1 + 3, upd (upd (upd t.2.2.2.2 t.2.2.2.1 0) (t.2.2.2.1 + 1) (ltM (lkC S (lkP S t.1)))) (t.2.2.2.1 + 2) (lkC S (lkP S (lkP S t.1 + 1)))) S h hz (by show (lkP S (lkP S t.1 + 1)) + 1 ≤ 215; omega) hw (by show t.2.2.2.1 + 3 < 420; omega)) (by first | exact Nat.le_of_ble_eq_true rfl | omega) (by first | exact Nat.le_of_ble_eq_true rfl | omega) (Nat.zero_le _) (Nat.zero_le _) (fun S212 hq212 => ?_)
                    replace hq212 := hq212.symm
                    subst hq212
                    exact r_vret dX9_unit_215 rfl (Nat.zero_le _) (Nat.zero_le _) ⟨rfl, ⟨atM S t, 1, prM_0a hnb, by unfold atM; rw [if_neg hl, if_pos hsg]⟩⟩
                  · skip
                    refine r_iload_n dX9_unit_169 rfl rfl ?_
                    refine r_bipush (v := 60) dX9_unit_170 (by decide) ?_
                    refine r_icmp_eq 186 dX9_unit_172 (by decide) (fun q172 => ?_) (fun q172 => ?_)
                    · skip
                      have hsg : lkC S (lkP S (lkP S t.1 + 1)) = 61 ∨ lkC S (lkP S (lkP S t.1 + 1)) = 60 ∨ lkC S (lkP S (lkP S t.1 + 1)) = 62 := Or.inr (Or.inl q172)
                      have hp2 : (lkP S (lkP S t.1 + 1)) < szM S := lkC_in (fun z => by rw [z] at hsg; exact absurd hsg (by decide))
                      refine r_aload_n dX9_unit_186 rfl rfl ?_
                      refine r_dup dX9_unit_187 rfl ?_
                      refine r_getI dX9_unit_188 lf_X9_218 rfl rfl ?_
                      rw [show sI (txM S ((lkP S (lkP S t.1 + 1)), t.2)) (fid 9 48) 2000 = nI (lkP S (lkP S t.1 + 1)) from tx_48]
                      refine r_iconst (v := 1) dX9_unit_191 (by decide) ?_
                      refine r_iadd dX9_unit_192 ?_
                      refine r_putI dX9_unit_193 (lp_X9_218 _) rfl rfl ?_
                      rw [nI_1, tx_s48]
                      refine R.heap (S2 := txM S ((lkP S (lkP S t.1 + 1)) + 1, t.2)) rfl ?_
                      refine r_aload_n dX9_unit_196 rfl rfl ?_
                      refine r_iconst (v := 0) dX9_unit_197 (by decide) ?_
                      refine r_invV1v dX9_unit_198 lm_X9_239 rfl (c_X9_say 0 (txM S ((lkP S (lkP S t.1 + 1)) + 1, t.2)) (tx_sh h _) (by rw [show mI (txM S ((lkP S (lkP S t.1 + 1)) + 1, t.2)) 51 = nI t.2.2.2.1 from tx_51, nI_toInt (by omega)]; omega)) (by first | exact Nat.le_of_ble_eq_true rfl | omega) (by first | exact Nat.le_of_ble_eq_true rfl | omega) (Nat.zero_le _) (Nat.zero_le _) (fun S198 hq198 => ?_)
                      rw [tx_sayS (t := ((lkP S (lkP S t.1 + 1)) + 1, t.2)) (by show t.2.2.2.1 < 420; omega)] at hq198
                      subst hq198
                      refine r_aload_n dX9_unit_201 rfl rfl ?_
                      refine r_iload_n dX9_unit_202 rfl rfl ?_
                      refine r_invV1v dX9_unit_203 lm_X9_239 rfl (c_X9_say (ltM (lkC S (lkP S t.1))) (txM S ((lkP S (lkP S t.1 + 1)) + 1, t.2.1, t.2.2.1, t.2.2.2.1 + 1, (upd t.2.2.2.2 t.2.2.2.1 0))) (tx_sh h _) (by rw [show mI (txM S ((lkP S (lkP S t.1 + 1)) + 1, t.2.1, t.2.2.1, t.2.2.2.1 + 1, (upd t.2.2.2.2 t.2.2.2.1 0))) 51 = nI (t.2.2.2.1 + 1) from tx_51, nI_toInt (by omega)]; omega)) (by first | exact Nat.le_of_ble_eq_true rfl | omega) (by first | exact Nat.le_of_ble_eq_true rfl | omega) (Nat.zero_le _) (Nat.zero_le _) (fun S203 hq203 => ?_)
                      rw [tx_sayS (t := ((lkP S (lkP S t.1 + 1)) + 1, t.2.1, t.2.2.1, t.2.2.2.1 + 1, (upd t.2.2.2.2 t.2.2.2.1 0))) (by show t.2.2.2.1 + 1 < 420; omega)] at hq203
                      subst hq203
                      refine r_aload_n dX9_unit_206 rfl rfl ?_
                      refine r_iload_n dX9_unit_207 rfl rfl ?_
                      refine r_invV1v dX9_unit_208 lm_X9_239 rfl (c_X9_say (lkC S (lkP S (lkP S t.1 + 1))) (txM S ((lkP S (lkP S t.1 + 1)) + 1, t.2.1, t.2.2.1, t.2.2.2.1 + 1 + 1, (upd (upd t.2.2.2.2 t.2.2.2.1 0) (t.2.2.2.1 + 1) (ltM (lkC S (lkP S t.1)))))) (tx_sh h _) (by rw [show mI (txM S ((lkP S (lkP S t.1 + 1)) + 1, t.2.1, t.2.2.1, t.2.2.2.1 + 1 + 1, (upd (upd t.2.2.2.2 t.2.2.2.1 0) (t.2.2.2.1 + 1) (ltM (lkC S (lkP S t.1)))))) 51 = nI (t.2.2.2.1 + 1 + 1) from tx_51, nI_toInt (by omega)]; omega)) (by first | exact Nat.le_of_ble_eq_true rfl | omega) (by first | exact Nat.le_of_ble_eq_true rfl | omega) (Nat.zero_le _) (Nat.zero_le _) (fun S208 hq208 => ?_)
                      rw [tx_sayS (t := ((lkP S (lkP S t.1 + 1)) + 1, t.2.1, t.2.2.1, t.2.2.2.1 + 1 + 1, (upd (upd t.2.2.2.2 t.2.2.2.1 0) (t.2.2.2.1 + 1) (ltM (lkC S (lkP S t.1)))))) (by show t.2.2.2.1 + 1 + 1 < 420; omega)] at hq208
                      subst hq208
                      refine R.heap (S2 := txM S ((lkP S (lkP S t.1 + 1)) + 1, t.2.1, t.2.2.1, t.2.2.2.1 + 3, upd (upd (upd t.2.2.2.2 t.2.2.2.1 0) (t.2.2.2.1 + 1) (ltM (lkC S (lkP S t.1)))) (t.2.2.2.1 + 2) (lkC S (lkP S (lkP S t.1 + 1))))) rfl ?_
                      refine r_aload_n dX9_unit_211 rfl rfl ?_
                      refine r_invV0v dX9_unit_212 lm_X9_243 rfl (c_X9_number ((lkP S (lkP S t.1 + 1)) + 1, t.2.1, t.2.2.1, t.2.2.2.1 + 3, upd (upd (upd t.2.2.2.2 t.2.2.2.1 0) (t.2.2.2.1 + 1) (ltM (lkC S (lkP S t.1)))) (t.2.2.2.1 + 2) (lkC S (lkP S (lkP S t.1 + 1)))) S h hz (by show (lkP S (lkP S t.1 + 1)) + 1 ≤ 215; omega) hw (by show t.2.2.2.1 + 3 < 420; omega)) (by first | exact Nat.le_of_ble_eq_true rfl | omega) (by first | exact Nat.le_of_ble_eq_true rfl | omega) (Nat.zero_le _) (Nat.zero_le _) (fun S212 hq212 => ?_)
                      replace hq212 := hq212.symm
                      subst hq212
                      exact r_vret dX9_unit_215 rfl (Nat.zero_le _) (Nat.zero_le _) ⟨rfl, ⟨atM S t, 1, prM_0a hnb, by unfold atM; rw [if_neg hl, if_pos hsg]⟩⟩
                    · skip
                      refine r_iload_n dX9_unit_175 rfl rfl ?_
                      refine r_bipush (v := 62) dX9_unit_176 (by decide) ?_
                      refine r_icmp_eq 186 dX9_unit_178 (by decide) (fun q178 => ?_) (fun q178 => ?_)
                      · skip
                        have hsg : lkC S (lkP S (lkP S t.1 + 1)) = 61 ∨ lkC S (lkP S (lkP S t.1 + 1)) = 60 ∨ lkC S (lkP S (lkP S t.1 + 1)) = 62 := Or.inr (Or.inr q178)
                        have hp2 : (lkP S (lkP S t.1 + 1)) < szM S := lkC_in (fun z => by rw [z] at hsg; exact absurd hsg (by decide))
                        refine r_aload_n dX9_unit_186 rfl rfl ?_
                        refine r_dup dX9_unit_187 rfl ?_
                        refine r_getI dX9_unit_188 lf_X9_218 rfl rfl ?_
                        rw [show sI (txM S ((lkP S (lkP S t.1 + 1)), t.2)) (fid 9 48) 2000 = nI (lkP S (lkP S t.1 + 1)) from tx_48]
                        refine r_iconst (v := 1) dX9_unit_191 (by decide) ?_
                        refine r_iadd dX9_unit_192 ?_
                        refine r_putI dX9_unit_193 (lp_X9_218 _) rfl rfl ?_
                        rw [nI_1, tx_s48]
                        refine R.heap (S2 := txM S ((lkP S (lkP S t.1 + 1)) + 1, t.2)) rfl ?_
                        refine r_aload_n dX9_unit_196 rfl rfl ?_
                        refine r_iconst (v := 0) dX9_unit_197 (by decide) ?_
                        refine r_invV1v dX9_unit_198 lm_X9_239 rfl (c_X9_say 0 (txM S ((lkP S (lkP S t.1 + 1)) + 1, t.2)) (tx_sh h _) (by rw [show mI (txM S ((lkP S (lkP S t.1 + 1)) + 1, t.2)) 51 = nI t.2.2.2.1 from tx_51, nI_toInt (by omega)]; omega)) (by first | exact Nat.le_of_ble_eq_true rfl | omega) (by first | exact Nat.le_of_ble_eq_true rfl | omega) (Nat.zero_le _) (Nat.zero_le _) (fun S198 hq198 => ?_)
                        rw [tx_sayS (t := ((lkP S (lkP S t.1 + 1)) + 1, t.2)) (by show t.2.2.2.1 < 420; omega)] at hq198
                        subst hq198
                        refine r_aload_n dX9_unit_201 rfl rfl ?_
                        refine r_iload_n dX9_unit_202 rfl rfl ?_
                        refine r_invV1v dX9_unit_203 lm_X9_239 rfl (c_X9_say (ltM (lkC S (lkP S t.1))) (txM S ((lkP S (lkP S t.1 + 1)) + 1, t.2.1, t.2.2.1, t.2.2.2.1 + 1, (upd t.2.2.2.2 t.2.2.2.1 0))) (tx_sh h _) (by rw [show mI (txM S ((lkP S (lkP S t.1 + 1)) + 1, t.2.1, t.2.2.1, t.2.2.2.1 + 1, (upd t.2.2.2.2 t.2.2.2.1 0))) 51 = nI (t.2.2.2.1 + 1) from tx_51, nI_toInt (by omega)]; omega)) (by first | exact Nat.le_of_ble_eq_true rfl | omega) (by first | exact Nat.le_of_ble_eq_true rfl | omega) (Nat.zero_le _) (Nat.zero_le _) (fun S203 hq203 => ?_)
                        rw [tx_sayS (t := ((lkP S (lkP S t.1 + 1)) + 1, t.2.1, t.2.2.1, t.2.2.2.1 + 1, (upd t.2.2.2.2 t.2.2.2.1 0))) (by show t.2.2.2.1 + 1 < 420; omega)] at hq203
                        subst hq203
                        refine r_aload_n dX9_unit_206 rfl rfl ?_
                        refine r_iload_n dX9_unit_207 rfl rfl ?_
                        refine r_invV1v dX9_unit_208 lm_X9_239 rfl (c_X9_say (lkC S (lkP S (lkP S t.1 + 1))) (txM S ((lkP S (lkP S t.1 + 1)) + 1, t.2.1, t.2.2.1, t.2.2.2.1 + 1 + 1, (upd (upd t.2.2.2.2 t.2.2.2.1 0) (t.2.2.2.1 + 1) (ltM (lkC S (lkP S t.1)))))) (tx_sh h _) (by rw [show mI (txM S ((lkP S (lkP S t.1 + 1)) + 1, t.2.1, t.2.2.1, t.2.2.2.1 + 1 + 1, (upd (upd t.2.2.2.2 t.2.2.2.1 0) (t.2.2.2.1 + 1) (ltM (lkC S (lkP S t.1)))))) 51 = nI (t.2.2.2.1 + 1 + 1) from tx_51, nI_toInt (by omega)]; omega)) (by first | exact Nat.le_of_ble_eq_true rfl | omega) (by first | exact Nat.le_of_ble_eq_true rfl | omega) (Nat.zero_le _) (Nat.zero_le _) (fun S208 hq208 => ?_)
                        rw [tx_sayS (t := ((lkP S (lkP S t.1 + 1)) + 1, t.2.1, t.2.2.1, t.2.2.2.1 + 1 + 1, (upd (upd t.2.2.2.2 t.2.2.2.1 0) (t.2.2.2.1 + 1) (ltM (lkC S (lkP S t.1)))))) (by show t.2.2.2.1 + 1 + 1 < 420; omega)] at hq208
                        subst hq208
                        refine R.heap (S2 := txM S ((lkP S (lkP S t.1 + 1)) + 1, t.2.1, t.2.2.1, t.2.2.2.1 + 3, upd (upd (upd t.2.2.2.2 t.2.2.2.1 0) (t.2.2.2.1 + 1) (ltM (lkC S (lkP S t.1)))) (t.2.2.2.1 + 2) (lkC S (lkP S (lkP S t.1 + 1))))) rfl ?_
                        refine r_aload_n dX9_unit_211 rfl rfl ?_
                        refine r_invV0v dX9_unit_212 lm_X9_243 rfl (c_X9_number ((lkP S (lkP S t.1 + 1)) + 1, t.2.1, t.2.2.1, t.2.2.2.1 + 3, upd (upd (upd t.2.2.2.2 t.2.2.2.1 0) (t.2.2.2.1 + 1) (ltM (lkC S (lkP S t.1)))) (t.2.2.2.1 + 2) (lkC S (lkP S (lkP S t.1 + 1)))) S h hz (by show (lkP S (lkP S t.1 + 1)) + 1 ≤ 215; omega) hw (by show t.2.2.2.1 + 3 < 420; omega)) (by first | exact Nat.le_of_ble_eq_true rfl | omega) (by first | exact Nat.le_of_ble_eq_true rfl | omega) (Nat.zero_le _) (Nat.zero_le _) (fun S212 hq212 => ?_)
                        replace hq212 := hq212.symm
                        subst hq212
                        exact r_vret dX9_unit_215 rfl (Nat.zero_le _) (Nat.zero_le _) ⟨rfl, ⟨atM S t, 1, prM_0a hnb, by unfold atM; rw [if_neg hl, if_pos hsg]⟩⟩
                      · skip
                        refine r_aload_n dX9_unit_181 rfl rfl ?_
                        refine r_invV0v dX9_unit_182 lm_X9_236 rfl (c_X9_fail (txM S ((lkP S (lkP S t.1 + 1)), t.2)) hsh) (by first | exact Nat.le_of_ble_eq_true rfl | omega) (by first | exact Nat.le_of_ble_eq_true rfl | omega) (Nat.zero_le _) (Nat.zero_le _) (fun S182 hq182 => ?_)
                        rw [tx_fail (t := ((lkP S (lkP S t.1 + 1)), t.2)) hw] at hq182
                        subst hq182
                        exact r_vret dX9_unit_185 rfl (Nat.zero_le _) (Nat.zero_le _) ⟨rfl, ⟨atM S t, 1, prM_0a hnb, by unfold atM; rw [if_neg hl, if_neg (fun z => by rcases z with z | z | z; exact q166 z; exact q172 z; exact q178 z)]⟩⟩
                · skip
                  refine r_aload_n dX9_unit_143 rfl rfl ?_
                  refine r_invV0v dX9_unit_144 lm_X9_236 rfl (c_X9_fail (txM S ((lkP S t.1), t.2)) hsh) (by first | exact Nat.le_of_ble_eq_true rfl | omega) (by first | exact Nat.le_of_ble_eq_true rfl | omega) (Nat.zero_le _) (Nat.zero_le _) (fun S144 hq144 => ?_)
                  rw [tx_fail (t := ((lkP S t.1), t.2)) hw] at hq144
                  subst hq144
                  exact r_vret dX9_unit_147 rfl (Nat.zero_le _) (Nat.zero_le _) ⟨rfl, ⟨atM S t, 1, prM_0a hnb, by unfold atM; rw [if_pos q140]⟩⟩
              · skip
                have hlt : ltM (lkC S (lkP S t.1)) = 4 := by unfold ltM; rw [if_neg q89, if_neg q99, if_neg q109, if_neg q119, if_pos q129]
                refine r_iconst (v := 4) dX9_unit_132 (by decide) ?_
                refine r_goto 137 dX9_unit_133 (by decide) ?_
                rw [← hlt]
                refine r_ist2 dX9_unit_137 (by first | exact Nat.le_of_ble_eq_true rfl | omega) rfl ?_
                refine r_iload_n dX9_unit_138 rfl rfl ?_
                refine r_iconst (v := (-1)) dX9_unit_139 (by decide) ?_
                refine r_icmp_ne 148 dX9_unit_140 (by decide) (fun q140 => ?_) (fun q140 => ?_)
                · skip
                  have hl : ¬ ltM (lkC S (lkP S t.1)) = -1 := q140
                  have hp : (lkP S t.1) < szM S := lkC_in (fun z => hl (by rw [z]; rfl))
                  obtain ⟨m1, m2⟩ := lkP_le (S := S) (a := (lkP S t.1) + 1) (by omega)
                  refine r_aload_n dX9_unit_148 rfl rfl ?_
                  refine r_dup dX9_unit_149 rfl ?_
                  refine r_getI dX9_unit_150 lf_X9_218 rfl rfl ?_
                  rw [show sI (txM S ((lkP S t.1), t.2)) (fid 9 48) 2000 = nI (lkP S t.1) from tx_48]
                  refine r_iconst (v := 1) dX9_unit_153 (by decide) ?_
                  refine r_iadd dX9_unit_154 ?_
                  refine r_putI dX9_unit_155 (lp_X9_218 _) rfl rfl ?_
                  rw [nI_1, tx_s48]
                  refine r_aload_n dX9_unit_158 rfl rfl ?_
                  refine r_invV0i dX9_unit_159 lm_X9_227 rfl (c_X9_look ((lkP S t.1) + 1, t.2) S h hz (by show (lkP S t.1) + 1 ≤ 215; omega)) (by first | exact Nat.le_of_ble_eq_true rfl | omega) (by first | exact Nat.le_of_ble_eq_true rfl | omega) (Nat.zero_le _) (Nat.zero_le _) (fun r159 S159 hq159 => ?_)
                  obtain ⟨hr159, hz159⟩ := hq159
                  subst hz159
                  subst hr159
                  have hsh : ShM (txM S ((lkP S (lkP S t.1 + 1)), t.2)) := tx_sh h _
                  refine r_ist3 dX9_unit_162 (by first | exact Nat.le_of_ble_eq_true rfl | omega) rfl ?_
                  refine r_iload_n dX9_unit_163 rfl rfl ?_
                  refine r_bipush (v := 61) dX9_unit_164 (by decide) ?_
                  refine r_icmp_eq 186 dX9_unit_166 (by decide) (fun q166 => ?_) (fun q166 => ?_)
                  · skip
                    have hsg : lkC S (lkP S (lkP S t.1 + 1)) = 61 ∨ lkC S (lkP S (lkP S t.1 + 1)) = 60 ∨ lkC S (lkP S (lkP S t.1 + 1)) = 62 := Or.inl q166
                    have hp2 : (lkP S (lkP S t.1 + 1)) < szM S := lkC_in (fun z => by rw [z] at hsg; exact absurd hsg (by decide))
                    refine r_aload_n dX9_unit_186 rfl rfl ?_
                    refine r_dup dX9_unit_187 rfl ?_
                    refine r_getI dX9_unit_188 lf_X9_218 rfl rfl ?_
                    rw [show sI (txM S ((lkP S (lkP S t.1 + 1)), t.2)) (fid 9 48) 2000 = nI (lkP S (lkP S t.1 + 1)) from tx_48]
                    refine r_iconst (v := 1) dX9_unit_191 (by decide) ?_
                    refine r_iadd dX9_unit_192 ?_
                    refine r_putI dX9_unit_193 (lp_X9_218 _) rfl rfl ?_
                    rw [nI_1, tx_s48]
                    refine R.heap (S2 := txM S ((lkP S (lkP S t.1 + 1)) + 1, t.2)) rfl ?_
                    refine r_aload_n dX9_unit_196 rfl rfl ?_
                    refine r_iconst (v := 0) dX9_unit_197 (by decide) ?_
                    refine r_invV1v dX9_unit_198 lm_X9_239 rfl (c_X9_say 0 (txM S ((lkP S (lkP S t.1 + 1)) + 1, t.2)) (tx_sh h _) (by rw [show mI (txM S ((lkP S (lkP S t.1 + 1)) + 1, t.2)) 51 = nI t.2.2.2.1 from tx_51, nI_toInt (by omega)]; omega)) (by first | exact Nat.le_of_ble_eq_true rfl | omega) (by first | exact Nat.le_of_ble_eq_true rfl | omega) (Nat.zero_le _) (Nat.zero_le _) (fun S198 hq198 => ?_)
                    rw [tx_sayS (t := ((lkP S (lkP S t.1 + 1)) + 1, t.2)) (by show t.2.2.2.1 < 420; omega)] at hq198
                    subst hq198
                    refine r_aload_n dX9_unit_201 rfl rfl ?_
                    refine r_iload_n dX9_unit_202 rfl rfl ?_
                    refine r_invV1v dX9_unit_203 lm_X9_239 rfl (c_X9_say (ltM (lkC S (lkP S t.1))) (txM S ((lkP S (lkP S t.1 + 1)) + 1, t.2.1, t.2.2.1, t.2.2.2.1 + 1, (upd t.2.2.2.2 t.2.2.2.1 0))) (tx_sh h _) (by rw [show mI (txM S ((lkP S (lkP S t.1 + 1)) + 1, t.2.1, t.2.2.1, t.2.2.2.1 + 1, (upd t.2.2.2.2 t.2.2.2.1 0))) 51 = nI (t.2.2.2.1 + 1) from tx_51, nI_toInt (by omega)]; omega)) (by first | exact Nat.le_of_ble_eq_true rfl | omega) (by first | exact Nat.le_of_ble_eq_true rfl | omega) (Nat.zero_le _) (Nat.zero_le _) (fun S203 hq203 => ?_)
                    rw [tx_sayS (t := ((lkP S (lkP S t.1 + 1)) + 1, t.2.1, t.2.2.1, t.2.2.2.1 + 1, (upd t.2.2.2.2 t.2.2.2.1 0))) (by show t.2.2.2.1 + 1 < 420; omega)] at hq203
                    subst hq203
                    refine r_aload_n dX9_unit_206 rfl rfl ?_
                    refine r_iload_n dX9_unit_207 rfl rfl ?_
                    refine r_invV1v dX9_unit_208 lm_X9_239 rfl (c_X9_say (lkC S (lkP S (lkP S t.1 + 1))) (txM S ((lkP S (lkP S t.1 + 1)) + 1, t.2.1, t.2.2.1, t.2.2.2.1 + 1 + 1, (upd (upd t.2.2.2.2 t.2.2.2.1 0) (t.2.2.2.1 + 1) (ltM (lkC S (lkP S t.1)))))) (tx_sh h _) (by rw [show mI (txM S ((lkP S (lkP S t.1 + 1)) + 1, t.2.1, t.2.2.1, t.2.2.2.1 + 1 + 1, (upd (upd t.2.2.2.2 t.2.2.2.1 0) (t.2.2.2.1 + 1) (ltM (lkC S (lkP S t.1)))))) 51 = nI (t.2.2.2.1 + 1 + 1) from tx_51, nI_toInt (by omega)]; omega)) (by first | exact Nat.le_of_ble_eq_true rfl | omega) (by first | exact Nat.le_of_ble_eq_true rfl | omega) (Nat.zero_le _) (Nat.zero_le _) (fun S208 hq208 => ?_)
                    rw [tx_sayS (t := ((lkP S (lkP S t.1 + 1)) + 1, t.2.1, t.2.2.1, t.2.2.2.1 + 1 + 1, (upd (upd t.2.2.2.2 t.2.2.2.1 0) (t.2.2.2.1 + 1) (ltM (lkC S (lkP S t.1)))))) (by show t.2.2.2.1 + 1 + 1 < 420; omega)] at hq208
                    subst hq208
                    refine R.heap (S2 := txM S ((lkP S (lkP S t.1 + 1)) + 1, t.2.1, t.2.2.1, t.2.2.2.1 + 3, upd (upd (upd t.2.2.2.2 t.2.2.2.1 0) (t.2.2.2.1 + 1) (ltM (lkC S (lkP S t.1)))) (t.2.2.2.1 + 2) (lkC S (lkP S (lkP S t.1 + 1))))) rfl ?_
                    refine r_aload_n dX9_unit_211 rfl rfl ?_
                    refine r_invV0v dX9_unit_212 lm_X9_243 rfl (c_X9_number ((lkP S (lkP S t.1 + 1)) + 1, t.2.1, t.2.2.1, t.2.2.2.1 + 3, upd (upd (upd t.2.2.2.2 t.2.2.2.1 0) (t.2.2.2.1 + 1) (ltM (lkC S (lkP S t.1)))) (t.2.2.2.1 + 2) (lkC S (lkP S (lkP S t.1 + 1)))) S h hz (by show (lkP S (lkP S t.1 + 1)) + 1 ≤ 215; omega) hw (by show t.2.2.2.1 + 3 < 420; omega)) (by first | exact Nat.le_of_ble_eq_true rfl | omega) (by first | exact Nat.le_of_ble_eq_true rfl | omega) (Nat.zero_le _) (Nat.zero_le _) (fun S212 hq212 => ?_)
                    replace hq212 := hq212.symm
                    subst hq212
                    exact r_vret dX9_unit_215 rfl (Nat.zero_le _) (Nat.zero_le _) ⟨rfl, ⟨atM S t, 1, prM_0a hnb, by unfold atM; rw [if_neg hl, if_pos hsg]⟩⟩
                  · skip
                    refine r_iload_n dX9_unit_169 rfl rfl ?_
                    refine r_bipush (v := 60) dX9_unit_170 (by decide) ?_
                    refine r_icmp_eq 186 dX9_unit_172 (by decide) (fun q172 => ?_) (fun q172 => ?_)
                    · skip
                      have hsg : lkC S (lkP S (lkP S t.1 + 1)) = 61 ∨ lkC S (lkP S (lkP S t.1 + 1)) = 60 ∨ lkC S (lkP S (lkP S t.1 + 1)) = 62 := Or.inr (Or.inl q172)
                      have hp2 : (lkP S (lkP S t.1 + 1)) < szM S := lkC_in (fun z => by rw [z] at hsg; exact absurd hsg (by decide))
                      refine r_aload_n dX9_unit_186 rfl rfl ?_
                      refine r_dup dX9_unit_187 rfl ?_
                      refine r_getI dX9_unit_188 lf_X9_218 rfl rfl ?_
                      rw [show sI (txM S ((lkP S (lkP S t.1 + 1)), t.2)) (fid 9 48) 2000 = nI (lkP S (lkP S t.1 + 1)) from tx_48]
                      refine r_iconst (v := 1) dX9_unit_191 (by decide) ?_
                      refine r_iadd dX9_unit_192 ?_
                      refine r_putI dX9_unit_193 (lp_X9_218 _) rfl rfl ?_
                      rw [nI_1, tx_s48]
                      refine R.heap (S2 := txM S ((lkP S (lkP S t.1 + 1)) + 1, t.2)) rfl ?_
                      refine r_aload_n dX9_unit_196 rfl rfl ?_
                      refine r_iconst (v := 0) dX9_unit_197 (by decide) ?_
                      refine r_invV1v dX9_unit_198 lm_X9_239 rfl (c_X9_say 0 (txM S ((lkP S (lkP S t.1 + 1)) + 1, t.2)) (tx_sh h _) (by rw [show mI (txM S ((lkP S (lkP S t.1 + 1)) + 1, t.2)) 51 = nI t.2.2.2.1 from tx_51, nI_toInt (by omega)]; omega)) (by first | exact Nat.le_of_ble_eq_true rfl | omega) (by first | exact Nat.le_of_ble_eq_true rfl | omega) (Nat.zero_le _) (Nat.zero_le _) (fun S198 hq198 => ?_)
                      rw [tx_sayS (t := ((lkP S (lkP S t.1 + 1)) + 1, t.2)) (by show t.2.2.2.1 < 420; omega)] at hq198
                      subst hq198
                      refine r_aload_n dX9_unit_201 rfl rfl ?_
                      refine r_iload_n dX9_unit_202 rfl rfl ?_
                      refine r_invV1v dX9_unit_203 lm_X9_239 rfl (c_X9_say (ltM (lkC S (lkP S t.1))) (txM S ((lkP S (lkP S t.1 + 1)) + 1, t.2.1, t.2.2.1, t.2.2.2.1 + 1, (upd t.2.2.2.2 t.2.2.2.1 0))) (tx_sh h _) (by rw [show mI (txM S ((lkP S (lkP S t.1 + 1)) + 1, t.2.1, t.2.2.1, t.2.2.2.1 + 1, (upd t.2.2.2.2 t.2.2.2.1 0))) 51 = nI (t.2.2.2.1 + 1) from tx_51, nI_toInt (by omega)]; omega)) (by first | exact Nat.le_of_ble_eq_true rfl | omega) (by first | exact Nat.le_of_ble_eq_true rfl | omega) (Nat.zero_le _) (Nat.zero_le _) (fun S203 hq203 => ?_)
                      rw [tx_sayS (t := ((lkP S (lkP S t.1 + 1)) + 1, t.2.1, t.2.2.1, t.2.2.2.1 + 1, (upd t.2.2.2.2 t.2.2.2.1 0))) (by show t.2.2.2.1 + 1 < 420; omega)] at hq203
                      subst hq203
                      refine r_aload_n dX9_unit_206 rfl rfl ?_
                      refine r_iload_n dX9_unit_207 rfl rfl ?_
                      refine r_invV1v dX9_unit_208 lm_X9_239 rfl (c_X9_say (lkC S (lkP S (lkP S t.1 + 1))) (txM S ((lkP S (lkP S t.1 + 1)) + 1, t.2.1, t.2.2.1, t.2.2.2.1 + 1 + 1, (upd (upd t.2.2.2.2 t.2.2.2.1 0) (t.2.2.2.1 + 1) (ltM (lkC S (lkP S t.1)))))) (tx_sh h _) (by rw [show mI (txM S ((lkP S (lkP S t.1 + 1)) + 1, t.2.1, t.2.2.1, t.2.2.2.1 + 1 + 1, (upd (upd t.2.2.2.2 t.2.2.2.1 0) (t.2.2.2.1 + 1) (ltM (lkC S (lkP S t.1)))))) 51 = nI (t.2.2.2.1 + 1 + 1) from tx_51, nI_toInt (by omega)]; omega)) (by first | exact Nat.le_of_ble_eq_true rfl | omega) (by first | exact Nat.le_of_ble_eq_true rfl | omega) (Nat.zero_le _) (Nat.zero_le _) (fun S208 hq208 => ?_)
                      rw [tx_sayS (t := ((lkP S (lkP S t.1 + 1)) + 1, t.2.1, t.2.2.1, t.2.2.2.1 + 1 + 1, (upd (upd t.2.2.2.2 t.2.2.2.1 0) (t.2.2.2.1 + 1) (ltM (lkC S (lkP S t.1)))))) (by show t.2.2.2.1 + 1 + 1 < 420; omega)] at hq208
                      subst hq208
                      refine R.heap (S2 := txM S ((lkP S (lkP S t.1 + 1)) + 1, t.2.1, t.2.2.1, t.2.2.2.1 + 3, upd (upd (upd t.2.2.2.2 t.2.2.2.1 0) (t.2.2.2.1 + 1) (ltM (lkC S (lkP S t.1)))) (t.2.2.2.1 + 2) (lkC S (lkP S (lkP S t.1 + 1))))) rfl ?_
                      refine r_aload_n dX9_unit_211 rfl rfl ?_
                      refine r_invV0v dX9_unit_212 lm_X9_243 rfl (c_X9_number ((lkP S (lkP S t.1 + 1)) + 1, t.2.1, t.2.2.1, t.2.2.2.1 + 3, upd (upd (upd t.2.2.2.2 t.2.2.2.1 0) (t.2.2.2.1 + 1) (ltM (lkC S (lkP S t.1)))) (t.2.2.2.1 + 2) (lkC S (lkP S (lkP S t.1 + 1)))) S h hz (by show (lkP S (lkP S t.1 + 1)) + 1 ≤ 215; omega) hw (by show t.2.2.2.1 + 3 < 420; omega)) (by first | exact Nat.le_of_ble_eq_true rfl | omega) (by first | exact Nat.le_of_ble_eq_true rfl | omega) (Nat.zero_le _) (Nat.zero_le _) (fun S212 hq212 => ?_)
                      replace hq212 := hq212.symm
                      subst hq212
                      exact r_vret dX9_unit_215 rfl (Nat.zero_le _) (Nat.zero_le _) ⟨rfl, ⟨atM S t, 1, prM_0a hnb, by unfold atM; rw [if_neg hl, if_pos hsg]⟩⟩
                    · skip
                      refine r_iload_n dX9_unit_175 rfl rfl ?_
                      refine r_bipush (v := 62) dX9_unit_176 (by decide) ?_
                      refine r_icmp_eq 186 dX9_unit_178 (by decide) (fun q178 => ?_) (fun q178 => ?_)
                      · skip
                        have hsg : lkC S (lkP S (lkP S t.1 + 1)) = 61 ∨ lkC S (lkP S (lkP S t.1 + 1)) = 60 ∨ lkC S (lkP S (lkP S t.1 + 1)) = 62 := Or.inr (Or.inr q178)
                        have hp2 : (lkP S (lkP S t.1 + 1)) < szM S := lkC_in (fun z => by rw [z] at hsg; exact absurd hsg (by decide))
                        refine r_aload_n dX9_unit_186 rfl rfl ?_
                        refine r_dup dX9_unit_187 rfl ?_
                        refine r_getI dX9_unit_188 lf_X9_218 rfl rfl ?_
                        rw [show sI (txM S ((lkP S (lkP S t.1 + 1)), t.2)) (fid 9 48) 2000 = nI (lkP S (lkP S t.1 + 1)) from tx_48]
                        refine r_iconst (v := 1) dX9_unit_191 (by decide) ?_
                        refine r_iadd dX9_unit_192 ?_
                        refine r_putI dX9_unit_193 (lp_X9_218 _) rfl rfl ?_
                        rw [nI_1, tx_s48]
                        refine R.heap (S2 := txM S ((lkP S (lkP S t.1 + 1)) + 1, t.2)) rfl ?_
                        refine r_aload_n dX9_unit_196 rfl rfl ?_
                        refine r_iconst (v := 0) dX9_unit_197 (by decide) ?_
                        refine r_invV1v dX9_unit_198 lm_X9_239 rfl (c_X9_say 0 (txM S ((lkP S (lkP S t.1 + 1)) + 1, t.2)) (tx_sh h _) (by rw [show mI (txM S ((lkP S (lkP S t.1 + 1)) + 1, t.2)) 51 = nI t.2.2.2.1 from tx_51, nI_toInt (by omega)]; omega)) (by first | exact Nat.le_of_ble_eq_true rfl | omega) (by first | exact Nat.le_of_ble_eq_true rfl | omega) (Nat.zero_le _) (Nat.zero_le _) (fun S198 hq198 => ?_)
                        rw [tx_sayS (t := ((lkP S (lkP S t.1 + 1)) + 1, t.2)) (by show t.2.2.2.1 < 420; omega)] at hq198
                        subst hq198
                        refine r_aload_n dX9_unit_201 rfl rfl ?_
                        refine r_iload_n dX9_unit_202 rfl rfl ?_
                        refine r_invV1v dX9_unit_203 lm_X9_239 rfl (c_X9_say (ltM (lkC S (lkP S t.1))) (txM S ((lkP S (lkP S t.1 + 1)) + 1, t.2.1, t.2.2.1, t.2.2.2.1 + 1, (upd t.2.2.2.2 t.2.2.2.1 0))) (tx_sh h _) (by rw [show mI (txM S ((lkP S (lkP S t.1 + 1)) + 1, t.2.1, t.2.2.1, t.2.2.2.1 + 1, (upd t.2.2.2.2 t.2.2.2.1 0))) 51 = nI (t.2.2.2.1 + 1) from tx_51, nI_toInt (by omega)]; omega)) (by first | exact Nat.le_of_ble_eq_true rfl | omega) (by first | exact Nat.le_of_ble_eq_true rfl | omega) (Nat.zero_le _) (Nat.zero_le _) (fun S203 hq203 => ?_)
                        rw [tx_sayS (t := ((lkP S (lkP S t.1 + 1)) + 1, t.2.1, t.2.2.1, t.2.2.2.1 + 1, (upd t.2.2.2.2 t.2.2.2.1 0))) (by show t.2.2.2.1 + 1 < 420; omega)] at hq203
                        subst hq203
                        refine r_aload_n dX9_unit_206 rfl rfl ?_
                        refine r_iload_n dX9_unit_207 rfl rfl ?_
                        refine r_invV1v dX9_unit_208 lm_X9_239 rfl (c_X9_say (lkC S (lkP S (lkP S t.1 + 1))) (txM S ((lkP S (lkP S t.1 + 1)) + 1, t.2.1, t.2.2.1, t.2.2.2.1 + 1 + 1, (upd (upd t.2.2.2.2 t.2.2.2.1 0) (t.2.2.2.1 + 1) (ltM (lkC S (lkP S t.1)))))) (tx_sh h _) (by rw [show mI (txM S ((lkP S (lkP S t.1 + 1)) + 1, t.2.1, t.2.2.1, t.2.2.2.1 + 1 + 1, (upd (upd t.2.2.2.2 t.2.2.2.1 0) (t.2.2.2.1 + 1) (ltM (lkC S (lkP S t.1)))))) 51 = nI (t.2.2.2.1 + 1 + 1) from tx_51, nI_toInt (by omega)]; omega)) (by first | exact Nat.le_of_ble_eq_true rfl | omega) (by first | exact Nat.le_of_ble_eq_true rfl | omega) (Nat.zero_le _) (Nat.zero_le _) (fun S208 hq208 => ?_)
                        rw [tx_sayS (t := ((lkP S (lkP S t.1 + 1)) + 1, t.2.1, t.2.2.1, t.2.2.2.1 + 1 + 1, (upd (upd t.2.2.2.2 t.2.2.2.1 0) (t.2.2.2.1 + 1) (ltM (lkC S (lkP S t.1)))))) (by show t.2.2.2.1 + 1 + 1 < 420; omega)] at hq208
                        subst hq208
                        refine R.heap (S2 := txM S ((lkP S (lkP S t.1 + 1)) + 1, t.2.1, t.2.2.1, t.2.2.2.1 + 3, upd (upd (upd t.2.2.2.2 t.2.2.2.1 0) (t.2.2.2.1 + 1) (ltM (lkC S (lkP S t.1)))) (t.2.2.2.1 + 2) (lkC S (lkP S (lkP S t.1 + 1))))) rfl ?_
                        refine r_aload_n dX9_unit_211 rfl rfl ?_
                        refine r_invV0v dX9_unit_212 lm_X9_243 rfl (c_X9_number ((lkP S (lkP S t.1 + 1)) + 1, t.2.1, t.2.2.1, t.2.2.2.1 + 3, upd (upd (upd t.2.2.2.2 t.2.2.2.1 0) (t.2.2.2.1 + 1) (ltM (lkC S (lkP S t.1)))) (t.2.2.2.1 + 2) (lkC S (lkP S (lkP S t.1 + 1)))) S h hz (by show (lkP S (lkP S t.1 + 1)) + 1 ≤ 215; omega) hw (by show t.2.2.2.1 + 3 < 420; omega)) (by first | exact Nat.le_of_ble_eq_true rfl | omega) (by first | exact Nat.le_of_ble_eq_true rfl | omega) (Nat.zero_le _) (Nat.zero_le _) (fun S212 hq212 => ?_)
                        replace hq212 := hq212.symm
                        subst hq212
                        exact r_vret dX9_unit_215 rfl (Nat.zero_le _) (Nat.zero_le _) ⟨rfl, ⟨atM S t, 1, prM_0a hnb, by unfold atM; rw [if_neg hl, if_pos hsg]⟩⟩
                      · skip
                        refine r_aload_n dX9_unit_181 rfl rfl ?_
                        refine r_invV0v dX9_unit_182 lm_X9_236 rfl (c_X9_fail (txM S ((lkP S (lkP S t.1 + 1)), t.2)) hsh) (by first | exact Nat.le_of_ble_eq_true rfl | omega) (by first | exact Nat.le_of_ble_eq_true rfl | omega) (Nat.zero_le _) (Nat.zero_le _) (fun S182 hq182 => ?_)
                        rw [tx_fail (t := ((lkP S (lkP S t.1 + 1)), t.2)) hw] at hq182
                        subst hq182
                        exact r_vret dX9_unit_185 rfl (Nat.zero_le _) (Nat.zero_le _) ⟨rfl, ⟨atM S t, 1, prM_0a hnb, by unfold atM; rw [if_neg hl, if_neg (fun z => by rcases z with z | z | z; exact q166 z; exact q172 z; exact q178 z)]⟩⟩
                · skip
                  refine r_aload_n dX9_unit_143 rfl rfl ?_
                  refine r_invV0v dX9_unit_144 lm_X9_236 rfl (c_X9_fail (txM S ((lkP S t.1), t.2)) hsh) (by first | exact Nat.le_of_ble_eq_true rfl | omega) (by first | exact Nat.le_of_ble_eq_true rfl | omega) (Nat.zero_le _) (Nat.zero_le _) (fun S144 hq144 => ?_)
                  rw [tx_fail (t := ((lkP S t.1), t.2)) hw] at hq144
                  subst hq144
                  exact r_vret dX9_unit_147 rfl (Nat.zero_le _) (Nat.zero_le _) ⟨rfl, ⟨atM S t, 1, prM_0a hnb, by unfold atM; rw [if_pos q140]⟩⟩
            · skip
              have hlt : ltM (lkC S (lkP S t.1)) = 3 := by unfold ltM; rw [if_neg q89, if_neg q99, if_neg q109, if_pos q119]
              refine r_iconst (v := 3) dX9_unit_122 (by decide) ?_
              refine r_goto 137 dX9_unit_123 (by decide) ?_
              rw [← hlt]
              refine r_ist2 dX9_unit_137 (by first | exact Nat.le_of_ble_eq_true rfl | omega) rfl ?_
              refine r_iload_n dX9_unit_138 rfl rfl ?_
              refine r_iconst (v := (-1)) dX9_unit_139 (by decide) ?_
              refine r_icmp_ne 148 dX9_unit_140 (by decide) (fun q140 => ?_) (fun q140 => ?_)
              · skip
                have hl : ¬ ltM (lkC S (lkP S t.1)) = -1 := q140
                have hp : (lkP S t.1) < szM S := lkC_in (fun z => hl (by rw [z]; rfl))
                obtain ⟨m1, m2⟩ := lkP_le (S := S) (a := (lkP S t.1) + 1) (by omega)
                refine r_aload_n dX9_unit_148 rfl rfl ?_
                refine r_dup dX9_unit_149 rfl ?_
                refine r_getI dX9_unit_150 lf_X9_218 rfl rfl ?_
                rw [show sI (txM S ((lkP S t.1), t.2)) (fid 9 48) 2000 = nI (lkP S t.1) from tx_48]
                refine r_iconst (v := 1) dX9_unit_153 (by decide) ?_
                refine r_iadd dX9_unit_154 ?_
                refine r_putI dX9_unit_155 (lp_X9_218 _) rfl rfl ?_
                rw [nI_1, tx_s48]
                refine r_aload_n dX9_unit_158 rfl rfl ?_
                refine r_invV0i dX9_unit_159 lm_X9_227 rfl (c_X9_look ((lkP S t.1) + 1, t.2) S h hz (by show (lkP S t.1) + 1 ≤ 215; omega)) (by first | exact Nat.le_of_ble_eq_true rfl | omega) (by first | exact Nat.le_of_ble_eq_true rfl | omega) (Nat.zero_le _) (Nat.zero_le _) (fun r159 S159 hq159 => ?_)
                obtain ⟨hr159, hz159⟩ := hq159
                subst hz159
                subst hr159
                have hsh : ShM (txM S ((lkP S (lkP S t.1 + 1)), t.2)) := tx_sh h _
                refine r_ist3 dX9_unit_162 (by first | exact Nat.le_of_ble_eq_true rfl | omega) rfl ?_
                refine r_iload_n dX9_unit_163 rfl rfl ?_
                refine r_bipush (v := 61) dX9_unit_164 (by decide) ?_
                refine r_icmp_eq 186 dX9_unit_166 (by decide) (fun q166 => ?_) (fun q166 => ?_)
                · skip
                  have hsg : lkC S (lkP S (lkP S t.1 + 1)) = 61 ∨ lkC S (lkP S (lkP S t.1 + 1)) = 60 ∨ lkC S (lkP S (lkP S t.1 + 1)) = 62 := Or.inl q166
                  have hp2 : (lkP S (lkP S t.1 + 1)) < szM S := lkC_in (fun z => by rw [z] at hsg; exact absurd hsg (by decide))
                  refine r_aload_n dX9_unit_186 rfl rfl ?_
                  refine r_dup dX9_unit_187 rfl ?_
                  refine r_getI dX9_unit_188 lf_X9_218 rfl rfl ?_
                  rw [show sI (txM S ((lkP S (lkP S t.1 + 1)), t.2)) (fid 9 48) 2000 = nI (lkP S (lkP S t.1 + 1)) from tx_48]
                  refine r_iconst (v := 1) dX9_unit_191 (by decide) ?_
                  refine r_iadd dX9_unit_192 ?_
                  refine r_putI dX9_unit_193 (lp_X9_218 _) rfl rfl ?_
                  rw [nI_1, tx_s48]
                  refine R.heap (S2 := txM S ((lkP S (lkP S t.1 + 1)) + 1, t.2)) rfl ?_
                  refine r_aload_n dX9_unit_196 rfl rfl ?_
                  refine r_iconst (v := 0) dX9_unit_197 (by decide) ?_
                  refine r_invV1v dX9_unit_198 lm_X9_239 rfl (c_X9_say 0 (txM S ((lkP S (lkP S t.1 + 1)) + 1, t.2)) (tx_sh h _) (by rw [show mI (txM S ((lkP S (lkP S t.1 + 1)) + 1, t.2)) 51 = nI t.2.2.2.1 from tx_51, nI_toInt (by omega)]; omega)) (by first | exact Nat.le_of_ble_eq_true rfl | omega) (by first | exact Nat.le_of_ble_eq_true rfl | omega) (Nat.zero_le _) (Nat.zero_le _) (fun S198 hq198 => ?_)
                  rw [tx_sayS (t := ((lkP S (lkP S t.1 + 1)) + 1, t.2)) (by show t.2.2.2.1 < 420; omega)] at hq198
                  subst hq198
                  refine r_aload_n dX9_unit_201 rfl rfl ?_
                  refine r_iload_n dX9_unit_202 rfl rfl ?_
                  refine r_invV1v dX9_unit_203 lm_X9_239 rfl (c_X9_say (ltM (lkC S (lkP S t.1))) (txM S ((lkP S (lkP S t.1 + 1)) + 1, t.2.1, t.2.2.1, t.2.2.2.1 + 1, (upd t.2.2.2.2 t.2.2.2.1 0))) (tx_sh h _) (by rw [show mI (txM S ((lkP S (lkP S t.1 + 1)) + 1, t.2.1, t.2.2.1, t.2.2.2.1 + 1, (upd t.2.2.2.2 t.2.2.2.1 0))) 51 = nI (t.2.2.2.1 + 1) from tx_51, nI_toInt (by omega)]; omega)) (by first | exact Nat.le_of_ble_eq_true rfl | omega) (by first | exact Nat.le_of_ble_eq_true rfl | omega) (Nat.zero_le _) (Nat.zero_le _) (fun S203 hq203 => ?_)
                  rw [tx_sayS (t := ((lkP S (lkP S t.1 + 1)) + 1, t.2.1, t.2.2.1, t.2.2.2.1 + 1, (upd t.2.2.2.2 t.2.2.2.1 0))) (by show t.2.2.2.1 + 1 < 420; omega)] at hq203
                  subst hq203
                  refine r_aload_n dX9_unit_206 rfl rfl ?_
                  refine r_iload_n dX9_unit_207 rfl rfl ?_
                  refine r_invV1v dX9_unit_208 lm_X9_239 rfl (c_X9_say (lkC S (lkP S (lkP S t.1 + 1))) (txM S ((lkP S (lkP S t.1 + 1)) + 1, t.2.1, t.2.2.1, t.2.2.2.1 + 1 + 1, (upd (upd t.2.2.2.2 t.2.2.2.1 0) (t.2.2.2.1 + 1) (ltM (lkC S (lkP S t.1)))))) (tx_sh h _) (by rw [show mI (txM S ((lkP S (lkP S t.1 + 1)) + 1, t.2.1, t.2.2.1, t.2.2.2.1 + 1 + 1, (upd (upd t.2.2.2.2 t.2.2.2.1 0) (t.2.2.2.1 + 1) (ltM (lkC S (lkP S t.1)))))) 51 = nI (t.2.2.2.1 + 1 + 1) from tx_51, nI_toInt (by omega)]; omega)) (by first | exact Nat.le_of_ble_eq_true rfl | omega) (by first | exact Nat.le_of_ble_eq_true rfl | omega) (Nat.zero_le _) (Nat.zero_le _) (fun S208 hq208 => ?_)
                  rw [tx_sayS (t := ((lkP S (lkP S t.1 + 1)) + 1, t.2.1, t.2.2.1, t.2.2.2.1 + 1 + 1, (upd (upd t.2.2.2.2 t.2.2.2.1 0) (t.2.2.2.1 + 1) (ltM (lkC S (lkP S t.1)))))) (by show t.2.2.2.1 + 1 + 1 < 420; omega)] at hq208
                  subst hq208
                  refine R.heap (S2 := txM S ((lkP S (lkP S t.1 + 1)) + 1, t.2.1, t.2.2.1, t.2.2.2.1 + 3, upd (upd (upd t.2.2.2.2 t.2.2.2.1 0) (t.2.2.2.1 + 1) (ltM (lkC S (lkP S t.1)))) (t.2.2.2.1 + 2) (lkC S (lkP S (lkP S t.1 + 1))))) rfl ?_
                  refine r_aload_n dX9_unit_211 rfl rfl ?_
                  refine r_invV0v dX9_unit_212 lm_X9_243 rfl (c_X9_number ((lkP S (lkP S t.1 + 1)) + 1, t.2.1, t.2.2.1, t.2.2.2.1 + 3, upd (upd (upd t.2.2.2.2 t.2.2.2.1 0) (t.2.2.2.1 + 1) (ltM (lkC S (lkP S t.1)))) (t.2.2.2.1 + 2) (lkC S (lkP S (lkP S t.1 + 1)))) S h hz (by show (lkP S (lkP S t.1 + 1)) + 1 ≤ 215; omega) hw (by show t.2.2.2.1 + 3 < 420; omega)) (by first | exact Nat.le_of_ble_eq_true rfl | omega) (by first | exact Nat.le_of_ble_eq_true rfl | omega) (Nat.zero_le _) (Nat.zero_le _) (fun S212 hq212 => ?_)
                  replace hq212 := hq212.symm
                  subst hq212
                  exact r_vret dX9_unit_215 rfl (Nat.zero_le _) (Nat.zero_le _) ⟨rfl, ⟨atM S t, 1, prM_0a hnb, by unfold atM; rw [if_neg hl, if_pos hsg]⟩⟩
                · skip
                  refine r_iload_n dX9_unit_169 rfl rfl ?_
                  refine r_bipush (v := 60) dX9_unit_170 (by decide) ?_
                  refine r_icmp_eq 186 dX9_unit_172 (by decide) (fun q172 => ?_) (fun q172 => ?_)
                  · skip
                    have hsg : lkC S (lkP S (lkP S t.1 + 1)) = 61 ∨ lkC S (lkP S (lkP S t.1 + 1)) = 60 ∨ lkC S (lkP S (lkP S t.1 + 1)) = 62 := Or.inr (Or.inl q172)
                    have hp2 : (lkP S (lkP S t.1 + 1)) < szM S := lkC_in (fun z => by rw [z] at hsg; exact absurd hsg (by decide))
                    refine r_aload_n dX9_unit_186 rfl rfl ?_
                    refine r_dup dX9_unit_187 rfl ?_
                    refine r_getI dX9_unit_188 lf_X9_218 rfl rfl ?_
                    rw [show sI (txM S ((lkP S (lkP S t.1 + 1)), t.2)) (fid 9 48) 2000 = nI (lkP S (lkP S t.1 + 1)) from tx_48]
                    refine r_iconst (v := 1) dX9_unit_191 (by decide) ?_
                    refine r_iadd dX9_unit_192 ?_
                    refine r_putI dX9_unit_193 (lp_X9_218 _) rfl rfl ?_
                    rw [nI_1, tx_s48]
                    refine R.heap (S2 := txM S ((lkP S (lkP S t.1 + 1)) + 1, t.2)) rfl ?_
                    refine r_aload_n dX9_unit_196 rfl rfl ?_
                    refine r_iconst (v := 0) dX9_unit_197 (by decide) ?_
                    refine r_invV1v dX9_unit_198 lm_X9_239 rfl (c_X9_say 0 (txM S ((lkP S (lkP S t.1 + 1)) + 1, t.2)) (tx_sh h _) (by rw [show mI (txM S ((lkP S (lkP S t.1 + 1)) + 1, t.2)) 51 = nI t.2.2.2.1 from tx_51, nI_toInt (by omega)]; omega)) (by first | exact Nat.le_of_ble_eq_true rfl | omega) (by first | exact Nat.le_of_ble_eq_true rfl | omega) (Nat.zero_le _) (Nat.zero_le _) (fun S198 hq198 => ?_)
                    rw [tx_sayS (t := ((lkP S (lkP S t.1 + 1)) + 1, t.2)) (by show t.2.2.2.1 < 420; omega)] at hq198
                    subst hq198
                    refine r_aload_n dX9_unit_201 rfl rfl ?_
                    refine r_iload_n dX9_unit_202 rfl rfl ?_
                    refine r_invV1v dX9_unit_203 lm_X9_239 rfl (c_X9_say (ltM (lkC S (lkP S t.1))) (txM S ((lkP S (lkP S t.1 + 1)) + 1, t.2.1, t.2.2.1, t.2.2.2.1 + 1, (upd t.2.2.2.2 t.2.2.2.1 0))) (tx_sh h _) (by rw [show mI (txM S ((lkP S (lkP S t.1 + 1)) + 1, t.2.1, t.2.2.1, t.2.2.2.1 + 1, (upd t.2.2.2.2 t.2.2.2.1 0))) 51 = nI (t.2.2.2.1 + 1) from tx_51, nI_toInt (by omega)]; omega)) (by first | exact Nat.le_of_ble_eq_true rfl | omega) (by first | exact Nat.le_of_ble_eq_true rfl | omega) (Nat.zero_le _) (Nat.zero_le _) (fun S203 hq203 => ?_)
                    rw [tx_sayS (t := ((lkP S (lkP S t.1 + 1)) + 1, t.2.1, t.2.2.1, t.2.2.2.1 + 1, (upd t.2.2.2.2 t.2.2.2.1 0))) (by show t.2.2.2.1 + 1 < 420; omega)] at hq203
                    subst hq203
                    refine r_aload_n dX9_unit_206 rfl rfl ?_
                    refine r_iload_n dX9_unit_207 rfl rfl ?_
                    refine r_invV1v dX9_unit_208 lm_X9_239 rfl (c_X9_say (lkC S (lkP S (lkP S t.1 + 1))) (txM S ((lkP S (lkP S t.1 + 1)) + 1, t.2.1, t.2.2.1, t.2.2.2.1 + 1 + 1, (upd (upd t.2.2.2.2 t.2.2.2.1 0) (t.2.2.2.1 + 1) (ltM (lkC S (lkP S t.1)))))) (tx_sh h _) (by rw [show mI (txM S ((lkP S (lkP S t.1 + 1)) + 1, t.2.1, t.2.2.1, t.2.2.2.1 + 1 + 1, (upd (upd t.2.2.2.2 t.2.2.2.1 0) (t.2.2.2.1 + 1) (ltM (lkC S (lkP S t.1)))))) 51 = nI (t.2.2.2.1 + 1 + 1) from tx_51, nI_toInt (by omega)]; omega)) (by first | exact Nat.le_of_ble_eq_true rfl | omega) (by first | exact Nat.le_of_ble_eq_true rfl | omega) (Nat.zero_le _) (Nat.zero_le _) (fun S208 hq208 => ?_)
                    rw [tx_sayS (t := ((lkP S (lkP S t.1 + 1)) + 1, t.2.1, t.2.2.1, t.2.2.2.1 + 1 + 1, (upd (upd t.2.2.2.2 t.2.2.2.1 0) (t.2.2.2.1 + 1) (ltM (lkC S (lkP S t.1)))))) (by show t.2.2.2.1 + 1 + 1 < 420; omega)] at hq208
                    subst hq208
                    refine R.heap (S2 := txM S ((lkP S (lkP S t.1 + 1)) + 1, t.2.1, t.2.2.1, t.2.2.2.1 + 3, upd (upd (upd t.2.2.2.2 t.2.2.2.1 0) (t.2.2.2.1 + 1) (ltM (lkC S (lkP S t.1)))) (t.2.2.2.1 + 2) (lkC S (lkP S (lkP S t.1 + 1))))) rfl ?_
                    refine r_aload_n dX9_unit_211 rfl rfl ?_
                    refine r_invV0v dX9_unit_212 lm_X9_243 rfl (c_X9_number ((lkP S (lkP S t.1 + 1)) + 1, t.2.1, t.2.2.1, t.2.2.2.1 + 3, upd (upd (upd t.2.2.2.2 t.2.2.2.1 0) (t.2.2.2.1 + 1) (ltM (lkC S (lkP S t.1)))) (t.2.2.2.1 + 2) (lkC S (lkP S (lkP S t.1 + 1)))) S h hz (by show (lkP S (lkP S t.1 + 1)) + 1 ≤ 215; omega) hw (by show t.2.2.2.1 + 3 < 420; omega)) (by first | exact Nat.le_of_ble_eq_true rfl | omega) (by first | exact Nat.le_of_ble_eq_true rfl | omega) (Nat.zero_le _) (Nat.zero_le _) (fun S212 hq212 => ?_)
                    replace hq212 := hq212.symm
                    subst hq212
                    exact r_vret dX9_unit_215 rfl (Nat.zero_le _) (Nat.zero_le _) ⟨rfl, ⟨atM S t, 1, prM_0a hnb, by unfold atM; rw [if_neg hl, if_pos hsg]⟩⟩
                  · skip
                    refine r_iload_n dX9_unit_175 rfl rfl ?_
                    refine r_bipush (v := 62) dX9_unit_176 (by decide) ?_
                    refine r_icmp_eq 186 dX9_unit_178 (by decide) (fun q178 => ?_) (fun q178 => ?_)
                    · skip
                      have hsg : lkC S (lkP S (lkP S t.1 + 1)) = 61 ∨ lkC S (lkP S (lkP S t.1 + 1)) = 60 ∨ lkC S (lkP S (lkP S t.1 + 1)) = 62 := Or.inr (Or.inr q178)
                      have hp2 : (lkP S (lkP S t.1 + 1)) < szM S := lkC_in (fun z => by rw [z] at hsg; exact absurd hsg (by decide))
                      refine r_aload_n dX9_unit_186 rfl rfl ?_
                      refine r_dup dX9_unit_187 rfl ?_
                      refine r_getI dX9_unit_188 lf_X9_218 rfl rfl ?_
                      rw [show sI (txM S ((lkP S (lkP S t.1 + 1)), t.2)) (fid 9 48) 2000 = nI (lkP S (lkP S t.1 + 1)) from tx_48]
                      refine r_iconst (v := 1) dX9_unit_191 (by decide) ?_
                      refine r_iadd dX9_unit_192 ?_
                      refine r_putI dX9_unit_193 (lp_X9_218 _) rfl rfl ?_
                      rw [nI_1, tx_s48]
                      refine R.heap (S2 := txM S ((lkP S (lkP S t.1 + 1)) + 1, t.2)) rfl ?_
                      refine r_aload_n dX9_unit_196 rfl rfl ?_
                      refine r_iconst (v := 0) dX9_unit_197 (by decide) ?_
                      refine r_invV1v dX9_unit_198 lm_X9_239 rfl (c_X9_say 0 (txM S ((lkP S (lkP S t.1 + 1)) + 1, t.2)) (tx_sh h _) (by rw [show mI (txM S ((lkP S (lkP S t.1 + 1)) + 1, t.2)) 51 = nI t.2.2.2.1 from tx_51, nI_toInt (by omega)]; omega)) (by first | exact Nat.le_of_ble_eq_true rfl | omega) (by first | exact Nat.le_of_ble_eq_true rfl | omega) (Nat.zero_le _) (Nat.zero_le _) (fun S198 hq198 => ?_)
                      rw [tx_sayS (t := ((lkP S (lkP S t.1 + 1)) + 1, t.2)) (by show t.2.2.2.1 < 420; omega)] at hq198
                      subst hq198
                      refine r_aload_n dX9_unit_201 rfl rfl ?_
                      refine r_iload_n dX9_unit_202 rfl rfl ?_
                      refine r_invV1v dX9_unit_203 lm_X9_239 rfl (c_X9_say (ltM (lkC S (lkP S t.1))) (txM S ((lkP S (lkP S t.1 + 1)) + 1, t.2.1, t.2.2.1, t.2.2.2.1 + 1, (upd t.2.2.2.2 t.2.2.2.1 0))) (tx_sh h _) (by rw [show mI (txM S ((lkP S (lkP S t.1 + 1)) + 1, t.2.1, t.2.2.1, t.2.2.2.1 + 1, (upd t.2.2.2.2 t.2.2.2.1 0))) 51 = nI (t.2.2.2.1 + 1) from tx_51, nI_toInt (by omega)]; omega)) (by first | exact Nat.le_of_ble_eq_true rfl | omega) (by first | exact Nat.le_of_ble_eq_true rfl | omega) (Nat.zero_le _) (Nat.zero_le _) (fun S203 hq203 => ?_)
                      rw [tx_sayS (t := ((lkP S (lkP S t.1 + 1)) + 1, t.2.1, t.2.2.1, t.2.2.2.1 + 1, (upd t.2.2.2.2 t.2.2.2.1 0))) (by show t.2.2.2.1 + 1 < 420; omega)] at hq203
                      subst hq203
                      refine r_aload_n dX9_unit_206 rfl rfl ?_
                      refine r_iload_n dX9_unit_207 rfl rfl ?_
                      refine r_invV1v dX9_unit_208 lm_X9_239 rfl (c_X9_say (lkC S (lkP S (lkP S t.1 + 1))) (txM S ((lkP S (lkP S t.1 + 1)) + 1, t.2.1, t.2.2.1, t.2.2.2.1 + 1 + 1, (upd (upd t.2.2.2.2 t.2.2.2.1 0) (t.2.2.2.1 + 1) (ltM (lkC S (lkP S t.1)))))) (tx_sh h _) (by rw [show mI (txM S ((lkP S (lkP S t.1 + 1)) + 1, t.2.1, t.2.2.1, t.2.2.2.1 + 1 + 1, (upd (upd t.2.2.2.2 t.2.2.2.1 0) (t.2.2.2.1 + 1) (ltM (lkC S (lkP S t.1)))))) 51 = nI (t.2.2.2.1 + 1 + 1) from tx_51, nI_toInt (by omega)]; omega)) (by first | exact Nat.le_of_ble_eq_true rfl | omega) (by first | exact Nat.le_of_ble_eq_true rfl | omega) (Nat.zero_le _) (Nat.zero_le _) (fun S208 hq208 => ?_)
                      rw [tx_sayS (t := ((lkP S (lkP S t.1 + 1)) + 1, t.2.1, t.2.2.1, t.2.2.2.1 + 1 + 1, (upd (upd t.2.2.2.2 t.2.2.2.1 0) (t.2.2.2.1 + 1) (ltM (lkC S (lkP S t.1)))))) (by show t.2.2.2.1 + 1 + 1 < 420; omega)] at hq208
                      subst hq208
                      refine R.heap (S2 := txM S ((lkP S (lkP S t.1 + 1)) + 1, t.2.1, t.2.2.1, t.2.2.2.1 + 3, upd (upd (upd t.2.2.2.2 t.2.2.2.1 0) (t.2.2.2.1 + 1) (ltM (lkC S (lkP S t.1)))) (t.2.2.2.1 + 2) (lkC S (lkP S (lkP S t.1 + 1))))) rfl ?_
                      refine r_aload_n dX9_unit_211 rfl rfl ?_
                      refine r_invV0v dX9_unit_212 lm_X9_243 rfl (c_X9_number ((lkP S (lkP S t.1 + 1)) + 1, t.2.1, t.2.2.1, t.2.2.2.1 + 3, upd (upd (upd t.2.2.2.2 t.2.2.2.1 0) (t.2.2.2.1 + 1) (ltM (lkC S (lkP S t.1)))) (t.2.2.2.1 + 2) (lkC S (lkP S (lkP S t.1 + 1)))) S h hz (by show (lkP S (lkP S t.1 + 1)) + 1 ≤ 215; omega) hw (by show t.2.2.2.1 + 3 < 420; omega)) (by first | exact Nat.le_of_ble_eq_true rfl | omega) (by first | exact Nat.le_of_ble_eq_true rfl | omega) (Nat.zero_le _) (Nat.zero_le _) (fun S212 hq212 => ?_)
                      replace hq212 := hq212.symm
                      subst hq212
                      exact r_vret dX9_unit_215 rfl (Nat.zero_le _) (Nat.zero_le _) ⟨rfl, ⟨atM S t, 1, prM_0a hnb, by unfold atM; rw [if_neg hl, if_pos hsg]⟩⟩
                    · skip
                      refine r_aload_n dX9_unit_181 rfl rfl ?_
                      refine r_invV0v dX9_unit_182 lm_X9_236 rfl (c_X9_fail (txM S ((lkP S (lkP S t.1 + 1)), t.2)) hsh) (by first | exact Nat.le_of_ble_eq_true rfl | omega) (by first | exact Nat.le_of_ble_eq_true rfl | omega) (Nat.zero_le _) (Nat.zero_le _) (fun S182 hq182 => ?_)
                      rw [tx_fail (t := ((lkP S (lkP S t.1 + 1)), t.2)) hw] at hq182
                      subst hq182
                      exact r_vret dX9_unit_185 rfl (Nat.zero_le _) (Nat.zero_le _) ⟨rfl, ⟨atM S t, 1, prM_0a hnb, by unfold atM; rw [if_neg hl, if_neg (fun z => by rcases z with z | z | z; exact q166 z; exact q172 z; exact q178 z)]⟩⟩
              · skip
                refine r_aload_n dX9_unit_143 rfl rfl ?_
                refine r_invV0v dX9_unit_144 lm_X9_236 rfl (c_X9_fail (txM S ((lkP S t.1), t.2)) hsh) (by first | exact Nat.le_of_ble_eq_true rfl | omega) (by first | exact Nat.le_of_ble_eq_true rfl | omega) (Nat.zero_le _) (Nat.zero_le _) (fun S144 hq144 => ?_)
                rw [tx_fail (t := ((lkP S t.1), t.2)) hw] at hq144
                subst hq144
                exact r_vret dX9_unit_147 rfl (Nat.zero_le _) (Nat.zero_le _) ⟨rfl, ⟨atM S t, 1, prM_0a hnb, by unfold atM; rw [if_pos q140]⟩⟩
          · skip
            have hlt : ltM (lkC S (lkP S t.1)) = 2 := by unfold ltM; rw [if_neg q89, if_neg q99, if_pos q109]
            refine r_iconst (v := 2) dX9_unit_112 (by decide) ?_
            refine r_goto 137 dX9_unit_113 (by decide) ?_
            rw [← hlt]
            refine r_ist2 dX9_unit_137 (by first | exact Nat.le_of_ble_eq_true rfl | omega) rfl ?_
            refine r_iload_n dX9_unit_138 rfl rfl ?_
            refine r_iconst (v := (-1)) dX9_unit_139 (by decide) ?_
            refine r_icmp_ne 148 dX9_unit_140 (by decide) (fun q140 => ?_) (fun q140 => ?_)
            · skip
              have hl : ¬ ltM (lkC S (lkP S t.1)) = -1 := q140
              have hp : (lkP S t.1) < szM S := lkC_in (fun z => hl (by rw [z]; rfl))
              obtain ⟨m1, m2⟩ := lkP_le (S := S) (a := (lkP S t.1) + 1) (by omega)
              refine r_aload_n dX9_unit_148 rfl rfl ?_
              refine r_dup dX9_unit_149 rfl ?_
              refine r_getI dX9_unit_150 lf_X9_218 rfl rfl ?_
              rw [show sI (txM S ((lkP S t.1), t.2)) (fid 9 48) 2000 = nI (lkP S t.1) from tx_48]
              refine r_iconst (v := 1) dX9_unit_153 (by decide) ?_
              refine r_iadd dX9_unit_154 ?_
              refine r_putI dX9_unit_155 (lp_X9_218 _) rfl rfl ?_
              rw [nI_1, tx_s48]
              refine r_aload_n dX9_unit_158 rfl rfl ?_
              refine r_invV0i dX9_unit_159 lm_X9_227 rfl (c_X9_look ((lkP S t.1) + 1, t.2) S h hz (by show (lkP S t.1) + 1 ≤ 215; omega)) (by first | exact Nat.le_of_ble_eq_true rfl | omega) (by first | exact Nat.le_of_ble_eq_true rfl | omega) (Nat.zero_le _) (Nat.zero_le _) (fun r159 S159 hq159 => ?_)
              obtain ⟨hr159, hz159⟩ := hq159
              subst hz159
              subst hr159
              have hsh : ShM (txM S ((lkP S (lkP S t.1 + 1)), t.2)) := tx_sh h _
              refine r_ist3 dX9_unit_162 (by first | exact Nat.le_of_ble_eq_true rfl | omega) rfl ?_
              refine r_iload_n dX9_unit_163 rfl rfl ?_
              refine r_bipush (v := 61) dX9_unit_164 (by decide) ?_
              refine r_icmp_eq 186 dX9_unit_166 (by decide) (fun q166 => ?_) (fun q166 => ?_)
              · skip
                have hsg : lkC S (lkP S (lkP S t.1 + 1)) = 61 ∨ lkC S (lkP S (lkP S t.1 + 1)) = 60 ∨ lkC S (lkP S (lkP S t.1 + 1)) = 62 := Or.inl q166
                have hp2 : (lkP S (lkP S t.1 + 1)) < szM S := lkC_in (fun z => by rw [z] at hsg; exact absurd hsg (by decide))
                refine r_aload_n dX9_unit_186 rfl rfl ?_
                refine r_dup dX9_unit_187 rfl ?_
                refine r_getI dX9_unit_188 lf_X9_218 rfl rfl ?_
                rw [show sI (txM S ((lkP S (lkP S t.1 + 1)), t.2)) (fid 9 48) 2000 = nI (lkP S (lkP S t.1 + 1)) from tx_48]
                refine r_iconst (v := 1) dX9_unit_191 (by decide) ?_
                refine r_iadd dX9_unit_192 ?_
                refine r_putI dX9_unit_193 (lp_X9_218 _) rfl rfl ?_
                rw [nI_1, tx_s48]
                refine R.heap (S2 := txM S ((lkP S (lkP S t.1 + 1)) + 1, t.2)) rfl ?_
                refine r_aload_n dX9_unit_196 rfl rfl ?_
                refine r_iconst (v := 0) dX9_unit_197 (by decide) ?_
                refine r_invV1v dX9_unit_198 lm_X9_239 rfl (c_X9_say 0 (txM S ((lkP S (lkP S t.1 + 1)) + 1, t.2)) (tx_sh h _) (by rw [show mI (txM S ((lkP S (lkP S t.1 + 1)) + 1, t.2)) 51 = nI t.2.2.2.1 from tx_51, nI_toInt (by omega)]; omega)) (by first | exact Nat.le_of_ble_eq_true rfl | omega) (by first | exact Nat.le_of_ble_eq_true rfl | omega) (Nat.zero_le _) (Nat.zero_le _) (fun S198 hq198 => ?_)
                rw [tx_sayS (t := ((lkP S (lkP S t.1 + 1)) + 1, t.2)) (by show t.2.2.2.1 < 420; omega)] at hq198
                subst hq198
                refine r_aload_n dX9_unit_201 rfl rfl ?_
                refine r_iload_n dX9_unit_202 rfl rfl ?_
                refine r_invV1v dX9_unit_203 lm_X9_239 rfl (c_X9_say (ltM (lkC S (lkP S t.1))) (txM S ((lkP S (lkP S t.1 + 1)) + 1, t.2.1, t.2.2.1, t.2.2.2.1 + 1, (upd t.2.2.2.2 t.2.2.2.1 0))) (tx_sh h _) (by rw [show mI (txM S ((lkP S (lkP S t.1 + 1)) + 1, t.2.1, t.2.2.1, t.2.2.2.1 + 1, (upd t.2.2.2.2 t.2.2.2.1 0))) 51 = nI (t.2.2.2.1 + 1) from tx_51, nI_toInt (by omega)]; omega)) (by first | exact Nat.le_of_ble_eq_true rfl | omega) (by first | exact Nat.le_of_ble_eq_true rfl | omega) (Nat.zero_le _) (Nat.zero_le _) (fun S203 hq203 => ?_)
                rw [tx_sayS (t := ((lkP S (lkP S t.1 + 1)) + 1, t.2.1, t.2.2.1, t.2.2.2.1 + 1, (upd t.2.2.2.2 t.2.2.2.1 0))) (by show t.2.2.2.1 + 1 < 420; omega)] at hq203
                subst hq203
                refine r_aload_n dX9_unit_206 rfl rfl ?_
                refine r_iload_n dX9_unit_207 rfl rfl ?_
                refine r_invV1v dX9_unit_208 lm_X9_239 rfl (c_X9_say (lkC S (lkP S (lkP S t.1 + 1))) (txM S ((lkP S (lkP S t.1 + 1)) + 1, t.2.1, t.2.2.1, t.2.2.2.1 + 1 + 1, (upd (upd t.2.2.2.2 t.2.2.2.1 0) (t.2.2.2.1 + 1) (ltM (lkC S (lkP S t.1)))))) (tx_sh h _) (by rw [show mI (txM S ((lkP S (lkP S t.1 + 1)) + 1, t.2.1, t.2.2.1, t.2.2.2.1 + 1 + 1, (upd (upd t.2.2.2.2 t.2.2.2.1 0) (t.2.2.2.1 + 1) (ltM (lkC S (lkP S t.1)))))) 51 = nI (t.2.2.2.1 + 1 + 1) from tx_51, nI_toInt (by omega)]; omega)) (by first | exact Nat.le_of_ble_eq_true rfl | omega) (by first | exact Nat.le_of_ble_eq_true rfl | omega) (Nat.zero_le _) (Nat.zero_le _) (fun S208 hq208 => ?_)
                rw [tx_sayS (t := ((lkP S (lkP S t.1 + 1)) + 1, t.2.1, t.2.2.1, t.2.2.2.1 + 1 + 1, (upd (upd t.2.2.2.2 t.2.2.2.1 0) (t.2.2.2.1 + 1) (ltM (lkC S (lkP S t.1)))))) (by show t.2.2.2.1 + 1 + 1 < 420; omega)] at hq208
                subst hq208
                refine R.heap (S2 := txM S ((lkP S (lkP S t.1 + 1)) + 1, t.2.1, t.2.2.1, t.2.2.2.1 + 3, upd (upd (upd t.2.2.2.2 t.2.2.2.1 0) (t.2.2.2.1 + 1) (ltM (lkC S (lkP S t.1)))) (t.2.2.2.1 + 2) (lkC S (lkP S (lkP S t.1 + 1))))) rfl ?_
                refine r_aload_n dX9_unit_211 rfl rfl ?_
                refine r_invV0v dX9_unit_212 lm_X9_243 rfl (c_X9_number ((lkP S (lkP S t.1 + 1)) + 1, t.2.1, t.2.2.1, t.2.2.2.1 + 3, upd (upd (upd t.2.2.2.2 t.2.2.2.1 0) (t.2.2.2.1 + 1) (ltM (lkC S (lkP S t.1)))) (t.2.2.2.1 + 2) (lkC S (lkP S (lkP S t.1 + 1)))) S h hz (by show (lkP S (lkP S t.1 + 1)) + 1 ≤ 215; omega) hw (by show t.2.2.2.1 + 3 < 420; omega)) (by first | exact Nat.le_of_ble_eq_true rfl | omega) (by first | exact Nat.le_of_ble_eq_true rfl | omega) (Nat.zero_le _) (Nat.zero_le _) (fun S212 hq212 => ?_)
                replace hq212 := hq212.symm
                subst hq212
                exact r_vret dX9_unit_215 rfl (Nat.zero_le _) (Nat.zero_le _) ⟨rfl, ⟨atM S t, 1, prM_0a hnb, by unfold atM; rw [if_neg hl, if_pos hsg]⟩⟩
              · skip
                refine r_iload_n dX9_unit_169 rfl rfl ?_
                refine r_bipush (v := 60) dX9_unit_170 (by decide) ?_
                refine r_icmp_eq 186 dX9_unit_172 (by decide) (fun q172 => ?_) (fun q172 => ?_)
                · skip
                  have hsg : lkC S (lkP S (lkP S t.1 + 1)) = 61 ∨ lkC S (lkP S (lkP S t.1 + 1)) = 60 ∨ lkC S (lkP S (lkP S t.1 + 1)) = 62 := Or.inr (Or.inl q172)
                  have hp2 : (lkP S (lkP S t.1 + 1)) < szM S := lkC_in (fun z => by rw [z] at hsg; exact absurd hsg (by decide))
                  refine r_aload_n dX9_unit_186 rfl rfl ?_
                  refine r_dup dX9_unit_187 rfl ?_
                  refine r_getI dX9_unit_188 lf_X9_218 rfl rfl ?_
                  rw [show sI (txM S ((lkP S (lkP S t.1 + 1)), t.2)) (fid 9 48) 2000 = nI (lkP S (lkP S t.1 + 1)) from tx_48]
                  refine r_iconst (v := 1) dX9_unit_191 (by decide) ?_
                  refine r_iadd dX9_unit_192 ?_
                  refine r_putI dX9_unit_193 (lp_X9_218 _) rfl rfl ?_
                  rw [nI_1, tx_s48]
                  refine R.heap (S2 := txM S ((lkP S (lkP S t.1 + 1)) + 1, t.2)) rfl ?_
                  refine r_aload_n dX9_unit_196 rfl rfl ?_
                  refine r_iconst (v := 0) dX9_unit_197 (by decide) ?_
                  refine r_invV1v dX9_unit_198 lm_X9_239 rfl (c_X9_say 0 (txM S ((lkP S (lkP S t.1 + 1)) + 1, t.2)) (tx_sh h _) (by rw [show mI (txM S ((lkP S (lkP S t.1 + 1)) + 1, t.2)) 51 = nI t.2.2.2.1 from tx_51, nI_toInt (by omega)]; omega)) (by first | exact Nat.le_of_ble_eq_true rfl | omega) (by first | exact Nat.le_of_ble_eq_true rfl | omega) (Nat.zero_le _) (Nat.zero_le _) (fun S198 hq198 => ?_)
                  rw [tx_sayS (t := ((lkP S (lkP S t.1 + 1)) + 1, t.2)) (by show t.2.2.2.1 < 420; omega)] at hq198
                  subst hq198
                  refine r_aload_n dX9_unit_201 rfl rfl ?_
                  refine r_iload_n dX9_unit_202 rfl rfl ?_
                  refine r_invV1v dX9_unit_203 lm_X9_239 rfl (c_X9_say (ltM (lkC S (lkP S t.1))) (txM S ((lkP S (lkP S t.1 + 1)) + 1, t.2.1, t.2.2.1, t.2.2.2.1 + 1, (upd t.2.2.2.2 t.2.2.2.1 0))) (tx_sh h _) (by rw [show mI (txM S ((lkP S (lkP S t.1 + 1)) + 1, t.2.1, t.2.2.1, t.2.2.2.1 + 1, (upd t.2.2.2.2 t.2.2.2.1 0))) 51 = nI (t.2.2.2.1 + 1) from tx_51, nI_toInt (by omega)]; omega)) (by first | exact Nat.le_of_ble_eq_true rfl | omega) (by first | exact Nat.le_of_ble_eq_true rfl | omega) (Nat.zero_le _) (Nat.zero_le _) (fun S203 hq203 => ?_)
                  rw [tx_sayS (t := ((lkP S (lkP S t.1 + 1)) + 1, t.2.1, t.2.2.1, t.2.2.2.1 + 1, (upd t.2.2.2.2 t.2.2.2.1 0))) (by show t.2.2.2.1 + 1 < 420; omega)] at hq203
                  subst hq203
                  refine r_aload_n dX9_unit_206 rfl rfl ?_
                  refine r_iload_n dX9_unit_207 rfl rfl ?_
                  refine r_invV1v dX9_unit_208 lm_X9_239 rfl (c_X9_say (lkC S (lkP S (lkP S t.1 + 1))) (txM S ((lkP S (lkP S t.1 + 1)) + 1, t.2.1, t.2.2.1, t.2.2.2.1 + 1 + 1, (upd (upd t.2.2.2.2 t.2.2.2.1 0) (t.2.2.2.1 + 1) (ltM (lkC S (lkP S t.1)))))) (tx_sh h _) (by rw [show mI (txM S ((lkP S (lkP S t.1 + 1)) + 1, t.2.1, t.2.2.1, t.2.2.2.1 + 1 + 1, (upd (upd t.2.2.2.2 t.2.2.2.1 0) (t.2.2.2.1 + 1) (ltM (lkC S (lkP S t.1)))))) 51 = nI (t.2.2.2.1 + 1 + 1) from tx_51, nI_toInt (by omega)]; omega)) (by first | exact Nat.le_of_ble_eq_true rfl | omega) (by first | exact Nat.le_of_ble_eq_true rfl | omega) (Nat.zero_le _) (Nat.zero_le _) (fun S208 hq208 => ?_)
                  rw [tx_sayS (t := ((lkP S (lkP S t.1 + 1)) + 1, t.2.1, t.2.2.1, t.2.2.2.1 + 1 + 1, (upd (upd t.2.2.2.2 t.2.2.2.1 0) (t.2.2.2.1 + 1) (ltM (lkC S (lkP S t.1)))))) (by show t.2.2.2.1 + 1 + 1 < 420; omega)] at hq208
                  subst hq208
                  refine R.heap (S2 := txM S ((lkP S (lkP S t.1 + 1)) + 1, t.2.1, t.2.2.1, t.2.2.2.1 + 3, upd (upd (upd t.2.2.2.2 t.2.2.2.1 0) (t.2.2.2.1 + 1) (ltM (lkC S (lkP S t.1)))) (t.2.2.2.1 + 2) (lkC S (lkP S (lkP S t.1 + 1))))) rfl ?_
                  refine r_aload_n dX9_unit_211 rfl rfl ?_
                  refine r_invV0v dX9_unit_212 lm_X9_243 rfl (c_X9_number ((lkP S (lkP S t.1 + 1)) + 1, t.2.1, t.2.2.1, t.2.2.2.1 + 3, upd (upd (upd t.2.2.2.2 t.2.2.2.1 0) (t.2.2.2.1 + 1) (ltM (lkC S (lkP S t.1)))) (t.2.2.2.1 + 2) (lkC S (lkP S (lkP S t.1 + 1)))) S h hz (by show (lkP S (lkP S t.1 + 1)) + 1 ≤ 215; omega) hw (by show t.2.2.2.1 + 3 < 420; omega)) (by first | exact Nat.le_of_ble_eq_true rfl | omega) (by first | exact Nat.le_of_ble_eq_true rfl | omega) (Nat.zero_le _) (Nat.zero_le _) (fun S212 hq212 => ?_)
                  replace hq212 := hq212.symm
                  subst hq212
                  exact r_vret dX9_unit_215 rfl (Nat.zero_le _) (Nat.zero_le _) ⟨rfl, ⟨atM S t, 1, prM_0a hnb, by unfold atM; rw [if_neg hl, if_pos hsg]⟩⟩
                · skip
                  refine r_iload_n dX9_unit_175 rfl rfl ?_
                  refine r_bipush (v := 62) dX9_unit_176 (by decide) ?_
                  refine r_icmp_eq 186 dX9_unit_178 (by decide) (fun q178 => ?_) (fun q178 => ?_)
                  · skip
                    have hsg : lkC S (lkP S (lkP S t.1 + 1)) = 61 ∨ lkC S (lkP S (lkP S t.1 + 1)) = 60 ∨ lkC S (lkP S (lkP S t.1 + 1)) = 62 := Or.inr (Or.inr q178)
                    have hp2 : (lkP S (lkP S t.1 + 1)) < szM S := lkC_in (fun z => by rw [z] at hsg; exact absurd hsg (by decide))
                    refine r_aload_n dX9_unit_186 rfl rfl ?_
                    refine r_dup dX9_unit_187 rfl ?_
                    refine r_getI dX9_unit_188 lf_X9_218 rfl rfl ?_
                    rw [show sI (txM S ((lkP S (lkP S t.1 + 1)), t.2)) (fid 9 48) 2000 = nI (lkP S (lkP S t.1 + 1)) from tx_48]
                    refine r_iconst (v := 1) dX9_unit_191 (by decide) ?_
                    refine r_iadd dX9_unit_192 ?_
                    refine r_putI dX9_unit_193 (lp_X9_218 _) rfl rfl ?_
                    rw [nI_1, tx_s48]
                    refine R.heap (S2 := txM S ((lkP S (lkP S t.1 + 1)) + 1, t.2)) rfl ?_
                    refine r_aload_n dX9_unit_196 rfl rfl ?_
                    refine r_iconst (v := 0) dX9_unit_197 (by decide) ?_
                    refine r_invV1v dX9_unit_198 lm_X9_239 rfl (c_X9_say 0 (txM S ((lkP S (lkP S t.1 + 1)) + 1, t.2)) (tx_sh h _) (by rw [show mI (txM S ((lkP S (lkP S t.1 + 1)) + 1, t.2)) 51 = nI t.2.2.2.1 from tx_51, nI_toInt (by omega)]; omega)) (by first | exact Nat.le_of_ble_eq_true rfl | omega) (by first | exact Nat.le_of_ble_eq_true rfl | omega) (Nat.zero_le _) (Nat.zero_le _) (fun S198 hq198 => ?_)
                    rw [tx_sayS (t := ((lkP S (lkP S t.1 + 1)) + 1, t.2)) (by show t.2.2.2.1 < 420; omega)] at hq198
                    subst hq198
                    refine r_aload_n dX9_unit_201 rfl rfl ?_
                    refine r_iload_n dX9_unit_202 rfl rfl ?_
                    refine r_invV1v dX9_unit_203 lm_X9_239 rfl (c_X9_say (ltM (lkC S (lkP S t.1))) (txM S ((lkP S (lkP S t.1 + 1)) + 1, t.2.1, t.2.2.1, t.2.2.2.1 + 1, (upd t.2.2.2.2 t.2.2.2.1 0))) (tx_sh h _) (by rw [show mI (txM S ((lkP S (lkP S t.1 + 1)) + 1, t.2.1, t.2.2.1, t.2.2.2.1 + 1, (upd t.2.2.2.2 t.2.2.2.1 0))) 51 = nI (t.2.2.2.1 + 1) from tx_51, nI_toInt (by omega)]; omega)) (by first | exact Nat.le_of_ble_eq_true rfl | omega) (by first | exact Nat.le_of_ble_eq_true rfl | omega) (Nat.zero_le _) (Nat.zero_le _) (fun S203 hq203 => ?_)
                    rw [tx_sayS (t := ((lkP S (lkP S t.1 + 1)) + 1, t.2.1, t.2.2.1, t.2.2.2.1 + 1, (upd t.2.2.2.2 t.2.2.2.1 0))) (by show t.2.2.2.1 + 1 < 420; omega)] at hq203
                    subst hq203
                    refine r_aload_n dX9_unit_206 rfl rfl ?_
                    refine r_iload_n dX9_unit_207 rfl rfl ?_
                    refine r_invV1v dX9_unit_208 lm_X9_239 rfl (c_X9_say (lkC S (lkP S (lkP S t.1 + 1))) (txM S ((lkP S (lkP S t.1 + 1)) + 1, t.2.1, t.2.2.1, t.2.2.2.1 + 1 + 1, (upd (upd t.2.2.2.2 t.2.2.2.1 0) (t.2.2.2.1 + 1) (ltM (lkC S (lkP S t.1)))))) (tx_sh h _) (by rw [show mI (txM S ((lkP S (lkP S t.1 + 1)) + 1, t.2.1, t.2.2.1, t.2.2.2.1 + 1 + 1, (upd (upd t.2.2.2.2 t.2.2.2.1 0) (t.2.2.2.1 + 1) (ltM (lkC S (lkP S t.1)))))) 51 = nI (t.2.2.2.1 + 1 + 1) from tx_51, nI_toInt (by omega)]; omega)) (by first | exact Nat.le_of_ble_eq_true rfl | omega) (by first | exact Nat.le_of_ble_eq_true rfl | omega) (Nat.zero_le _) (Nat.zero_le _) (fun S208 hq208 => ?_)
                    rw [tx_sayS (t := ((lkP S (lkP S t.1 + 1)) + 1, t.2.1, t.2.2.1, t.2.2.2.1 + 1 + 1, (upd (upd t.2.2.2.2 t.2.2.2.1 0) (t.2.2.2.1 + 1) (ltM (lkC S (lkP S t.1)))))) (by show t.2.2.2.1 + 1 + 1 < 420; omega)] at hq208
                    subst hq208
                    refine R.heap (S2 := txM S ((lkP S (lkP S t.1 + 1)) + 1, t.2.1, t.2.2.1, t.2.2.2.1 + 3, upd (upd (upd t.2.2.2.2 t.2.2.2.1 0) (t.2.2.2.1 + 1) (ltM (lkC S (lkP S t.1)))) (t.2.2.2.1 + 2) (lkC S (lkP S (lkP S t.1 + 1))))) rfl ?_
                    refine r_aload_n dX9_unit_211 rfl rfl ?_
                    refine r_invV0v dX9_unit_212 lm_X9_243 rfl (c_X9_number ((lkP S (lkP S t.1 + 1)) + 1, t.2.1, t.2.2.1, t.2.2.2.1 + 3, upd (upd (upd t.2.2.2.2 t.2.2.2.1 0) (t.2.2.2.1 + 1) (ltM (lkC S (lkP S t.1)))) (t.2.2.2.1 + 2) (lkC S (lkP S (lkP S t.1 + 1)))) S h hz (by show (lkP S (lkP S t.1 + 1)) + 1 ≤ 215; omega) hw (by show t.2.2.2.1 + 3 < 420; omega)) (by first | exact Nat.le_of_ble_eq_true rfl | omega) (by first | exact Nat.le_of_ble_eq_true rfl | omega) (Nat.zero_le _) (Nat.zero_le _) (fun S212 hq212 => ?_)
                    replace hq212 := hq212.symm
                    subst hq212
                    exact r_vret dX9_unit_215 rfl (Nat.zero_le _) (Nat.zero_le _) ⟨rfl, ⟨atM S t, 1, prM_0a hnb, by unfold atM; rw [if_neg hl, if_pos hsg]⟩⟩
                  · skip
                    refine r_aload_n dX9_unit_181 rfl rfl ?_
                    refine r_invV0v dX9_unit_182 lm_X9_236 rfl (c_X9_fail (txM S ((lkP S (lkP S t.1 + 1)), t.2)) hsh) (by first | exact Nat.le_of_ble_eq_true rfl | omega) (by first | exact Nat.le_of_ble_eq_true rfl | omega) (Nat.zero_le _) (Nat.zero_le _) (fun S182 hq182 => ?_)
                    rw [tx_fail (t := ((lkP S (lkP S t.1 + 1)), t.2)) hw] at hq182
                    subst hq182
                    exact r_vret dX9_unit_185 rfl (Nat.zero_le _) (Nat.zero_le _) ⟨rfl, ⟨atM S t, 1, prM_0a hnb, by unfold atM; rw [if_neg hl, if_neg (fun z => by rcases z with z | z | z; exact q166 z; exact q172 z; exact q178 z)]⟩⟩
            · skip
              refine r_aload_n dX9_unit_143 rfl rfl ?_
              refine r_invV0v dX9_unit_144 lm_X9_236 rfl (c_X9_fail (txM S ((lkP S t.1), t.2)) hsh) (by first | exact Nat.le_of_ble_eq_true rfl | omega) (by first | exact Nat.le_of_ble_eq_true rfl | omega) (Nat.zero_le _) (Nat.zero_le _) (fun S144 hq144 => ?_)
              rw [tx_fail (t := ((lkP S t.1), t.2)) hw] at hq144
              subst hq144
              exact r_vret dX9_unit_147 rfl (Nat.zero_le _) (Nat.zero_le _) ⟨rfl, ⟨atM S t, 1, prM_0a hnb, by unfold atM; rw [if_pos q140]⟩⟩
        · skip
          have hlt : ltM (lkC S (lkP S t.1)) = 1 := by unfold ltM; rw [if_neg q89, if_pos q99]
          refine r_iconst (v := 1) dX9_unit_102 (by decide) ?_
          refine r_goto 137 dX9_unit_103 (by decide) ?_
          rw [← hlt]
          refine r_ist2 dX9_unit_137 (by first | exact Nat.le_of_ble_eq_true rfl | omega) rfl ?_
          refine r_iload_n dX9_unit_138 rfl rfl ?_
          refine r_iconst (v := (-1)) dX9_unit_139 (by decide) ?_
          refine r_icmp_ne 148 dX9_unit_140 (by decide) (fun q140 => ?_) (fun q140 => ?_)
          · skip
            have hl : ¬ ltM (lkC S (lkP S t.1)) = -1 := q140
            have hp : (lkP S t.1) < szM S := lkC_in (fun z => hl (by rw [z]; rfl))
            obtain ⟨m1, m2⟩ := lkP_le (S := S) (a := (lkP S t.1) + 1) (by omega)
            refine r_aload_n dX9_unit_148 rfl rfl ?_
            refine r_dup dX9_unit_149 rfl ?_
            refine r_getI dX9_unit_150 lf_X9_218 rfl rfl ?_
            rw [show sI (txM S ((lkP S t.1), t.2)) (fid 9 48) 2000 = nI (lkP S t.1) from tx_48]
            refine r_iconst (v := 1) dX9_unit_153 (by decide) ?_
            refine r_iadd dX9_unit_154 ?_
            refine r_putI dX9_unit_155 (lp_X9_218 _) rfl rfl ?_
            rw [nI_1, tx_s48]
            refine r_aload_n dX9_unit_158 rfl rfl ?_
            refine r_invV0i dX9_unit_159 lm_X9_227 rfl (c_X9_look ((lkP S t.1) + 1, t.2) S h hz (by show (lkP S t.1) + 1 ≤ 215; omega)) (by first | exact Nat.le_of_ble_eq_true rfl | omega) (by first | exact Nat.le_of_ble_eq_true rfl | omega) (Nat.zero_le _) (Nat.zero_le _) (fun r159 S159 hq159 => ?_)
            obtain ⟨hr159, hz159⟩ := hq159
            subst hz159
            subst hr159
            have hsh : ShM (txM S ((lkP S (lkP S t.1 + 1)), t.2)) := tx_sh h _
            refine r_ist3 dX9_unit_162 (by first | exact Nat.le_of_ble_eq_true rfl | omega) rfl ?_
            refine r_iload_n dX9_unit_163 rfl rfl ?_
            refine r_bipush (v := 61) dX9_unit_164 (by decide) ?_
            refine r_icmp_eq 186 dX9_unit_166 (by decide) (fun q166 => ?_) (fun q166 => ?_)
            · skip
              have hsg : lkC S (lkP S (lkP S t.1 + 1)) = 61 ∨ lkC S (lkP S (lkP S t.1 + 1)) = 60 ∨ lkC S (lkP S (lkP S t.1 + 1)) = 62 := Or.inl q166
              have hp2 : (lkP S (lkP S t.1 + 1)) < szM S := lkC_in (fun z => by rw [z] at hsg; exact absurd hsg (by decide))
              refine r_aload_n dX9_unit_186 rfl rfl ?_
              refine r_dup dX9_unit_187 rfl ?_
              refine r_getI dX9_unit_188 lf_X9_218 rfl rfl ?_
              rw [show sI (txM S ((lkP S (lkP S t.1 + 1)), t.2)) (fid 9 48) 2000 = nI (lkP S (lkP S t.1 + 1)) from tx_48]
              refine r_iconst (v := 1) dX9_unit_191 (by decide) ?_
              refine r_iadd dX9_unit_192 ?_
              refine r_putI dX9_unit_193 (lp_X9_218 _) rfl rfl ?_
              rw [nI_1, tx_s48]
              refine R.heap (S2 := txM S ((lkP S (lkP S t.1 + 1)) + 1, t.2)) rfl ?_
              refine r_aload_n dX9_unit_196 rfl rfl ?_
              refine r_iconst (v := 0) dX9_unit_197 (by decide) ?_
              refine r_invV1v dX9_unit_198 lm_X9_239 rfl (c_X9_say 0 (txM S ((lkP S (lkP S t.1 + 1)) + 1, t.2)) (tx_sh h _) (by rw [show mI (txM S ((lkP S (lkP S t.1 + 1)) + 1, t.2)) 51 = nI t.2.2.2.1 from tx_51, nI_toInt (by omega)]; omega)) (by first | exact Nat.le_of_ble_eq_true rfl | omega) (by first | exact Nat.le_of_ble_eq_true rfl | omega) (Nat.zero_le _) (Nat.zero_le _) (fun S198 hq198 => ?_)
              rw [tx_sayS (t := ((lkP S (lkP S t.1 + 1)) + 1, t.2)) (by show t.2.2.2.1 < 420; omega)] at hq198
              subst hq198
              refine r_aload_n dX9_unit_201 rfl rfl ?_
              refine r_iload_n dX9_unit_202 rfl rfl ?_
              refine r_invV1v dX9_unit_203 lm_X9_239 rfl (c_X9_say (ltM (lkC S (lkP S t.1))) (txM S ((lkP S (lkP S t.1 + 1)) + 1, t.2.1, t.2.2.1, t.2.2.2.1 + 1, (upd t.2.2.2.2 t.2.2.2.1 0))) (tx_sh h _) (by rw [show mI (txM S ((lkP S (lkP S t.1 + 1)) + 1, t.2.1, t.2.2.1, t.2.2.2.1 + 1, (upd t.2.2.2.2 t.2.2.2.1 0))) 51 = nI (t.2.2.2.1 + 1) from tx_51, nI_toInt (by omega)]; omega)) (by first | exact Nat.le_of_ble_eq_true rfl | omega) (by first | exact Nat.le_of_ble_eq_true rfl | omega) (Nat.zero_le _) (Nat.zero_le _) (fun S203 hq203 => ?_)
              rw [tx_sayS (t := ((lkP S (lkP S t.1 + 1)) + 1, t.2.1, t.2.2.1, t.2.2.2.1 + 1, (upd t.2.2.2.2 t.2.2.2.1 0))) (by show t.2.2.2.1 + 1 < 420; omega)] at hq203
              subst hq203
              refine r_aload_n dX9_unit_206 rfl rfl ?_
              refine r_iload_n dX9_unit_207 rfl rfl ?_
              refine r_invV1v dX9_unit_208 lm_X9_239 rfl (c_X9_say (lkC S (lkP S (lkP S t.1 + 1))) (txM S ((lkP S (lkP S t.1 + 1)) + 1, t.2.1, t.2.2.1, t.2.2.2.1 + 1 + 1, (upd (upd t.2.2.2.2 t.2.2.2.1 0) (t.2.2.2.1 + 1) (ltM (lkC S (lkP S t.1)))))) (tx_sh h _) (by rw [show mI (txM S ((lkP S (lkP S t.1 + 1)) + 1, t.2.1, t.2.2.1, t.2.2.2.1 + 1 + 1, (upd (upd t.2.2.2.2 t.2.2.2.1 0) (t.2.2.2.1 + 1) (ltM (lkC S (lkP S t.1)))))) 51 = nI (t.2.2.2.1 + 1 + 1) from tx_51, nI_toInt (by omega)]; omega)) (by first | exact Nat.le_of_ble_eq_true rfl | omega) (by first | exact Nat.le_of_ble_eq_true rfl | omega) (Nat.zero_le _) (Nat.zero_le _) (fun S208 hq208 => ?_)
              rw [tx_sayS (t := ((lkP S (lkP S t.1 + 1)) + 1, t.2.1, t.2.2.1, t.2.2.2.1 + 1 + 1, (upd (upd t.2.2.2.2 t.2.2.2.1 0) (t.2.2.2.1 + 1) (ltM (lkC S (lkP S t.1)))))) (by show t.2.2.2.1 + 1 + 1 < 420; omega)] at hq208
              subst hq208
              refine R.heap (S2 := txM S ((lkP S (lkP S t.1 + 1)) + 1, t.2.1, t.2.2.1, t.2.2.2.1 + 3, upd (upd (upd t.2.2.2.2 t.2.2.2.1 0) (t.2.2.2.1 + 1) (ltM (lkC S (lkP S t.1)))) (t.2.2.2.1 + 2) (lkC S (lkP S (lkP S t.1 + 1))))) rfl ?_
              refine r_aload_n dX9_unit_211 rfl rfl ?_
              refine r_invV0v dX9_unit_212 lm_X9_243 rfl (c_X9_number ((lkP S (lkP S t.1 + 1)) + 1, t.2.1, t.2.2.1, t.2.2.2.1 + 3, upd (upd (upd t.2.2.2.2 t.2.2.2.1 0) (t.2.2.2.1 + 1) (ltM (lkC S (lkP S t.1)))) (t.2.2.2.1 + 2) (lkC S (lkP S (lkP S t.1 + 1)))) S h hz (by show (lkP S (lkP S t.1 + 1)) + 1 ≤ 215; omega) hw (by show t.2.2.2.1 + 3 < 420; omega)) (by first | exact Nat.le_of_ble_eq_true rfl | omega) (by first | exact Nat.le_of_ble_eq_true rfl | omega) (Nat.zero_le _) (Nat.zero_le _) (fun S212 hq212 => ?_)
              replace hq212 := hq212.symm
              subst hq212
              exact r_vret dX9_unit_215 rfl (Nat.zero_le _) (Nat.zero_le _) ⟨rfl, ⟨atM S t, 1, prM_0a hnb, by unfold atM; rw [if_neg hl, if_pos hsg]⟩⟩
            · skip
              refine r_iload_n dX9_unit_169 rfl rfl ?_
              refine r_bipush (v := 60) dX9_unit_170 (by decide) ?_
              refine r_icmp_eq 186 dX9_unit_172 (by decide) (fun q172 => ?_) (fun q172 => ?_)
              · skip
                have hsg : lkC S (lkP S (lkP S t.1 + 1)) = 61 ∨ lkC S (lkP S (lkP S t.1 + 1)) = 60 ∨ lkC S (lkP S (lkP S t.1 + 1)) = 62 := Or.inr (Or.inl q172)
                have hp2 : (lkP S (lkP S t.1 + 1)) < szM S := lkC_in (fun z => by rw [z] at hsg; exact absurd hsg (by decide))
                refine r_aload_n dX9_unit_186 rfl rfl ?_
                refine r_dup dX9_unit_187 rfl ?_
                refine r_getI dX9_unit_188 lf_X9_218 rfl rfl ?_
                rw [show sI (txM S ((lkP S (lkP S t.1 + 1)), t.2)) (fid 9 48) 2000 = nI (lkP S (lkP S t.1 + 1)) from tx_48]
                refine r_iconst (v := 1) dX9_unit_191 (by decide) ?_
                refine r_iadd dX9_unit_192 ?_
                refine r_putI dX9_unit_193 (lp_X9_218 _) rfl rfl ?_
                rw [nI_1, tx_s48]
                refine R.heap (S2 := txM S ((lkP S (lkP S t.1 + 1)) + 1, t.2)) rfl ?_
                refine r_aload_n dX9_unit_196 rfl rfl ?_
                refine r_iconst (v := 0) dX9_unit_197 (by decide) ?_
                refine r_invV1v dX9_unit_198 lm_X9_239 rfl (c_X9_say 0 (txM S ((lkP S (lkP S t.1 + 1)) + 1, t.2)) (tx_sh h _) (by rw [show mI (txM S ((lkP S (lkP S t.1 + 1)) + 1, t.2)) 51 = nI t.2.2.2.1 from tx_51, nI_toInt (by omega)]; omega)) (by first | exact Nat.le_of_ble_eq_true rfl | omega) (by first | exact Nat.le_of_ble_eq_true rfl | omega) (Nat.zero_le _) (Nat.zero_le _) (fun S198 hq198 => ?_)
                rw [tx_sayS (t := ((lkP S (lkP S t.1 + 1)) + 1, t.2)) (by show t.2.2.2.1 < 420; omega)] at hq198
                subst hq198
                refine r_aload_n dX9_unit_201 rfl rfl ?_
                refine r_iload_n dX9_unit_202 rfl rfl ?_
                refine r_invV1v dX9_unit_203 lm_X9_239 rfl (c_X9_say (ltM (lkC S (lkP S t.1))) (txM S ((lkP S (lkP S t.1 + 1)) + 1, t.2.1, t.2.2.1, t.2.2.2.1 + 1, (upd t.2.2.2.2 t.2.2.2.1 0))) (tx_sh h _) (by rw [show mI (txM S ((lkP S (lkP S t.1 + 1)) + 1, t.2.1, t.2.2.1, t.2.2.2.1 + 1, (upd t.2.2.2.2 t.2.2.2.1 0))) 51 = nI (t.2.2.2.1 + 1) from tx_51, nI_toInt (by omega)]; omega)) (by first | exact Nat.le_of_ble_eq_true rfl | omega) (by first | exact Nat.le_of_ble_eq_true rfl | omega) (Nat.zero_le _) (Nat.zero_le _) (fun S203 hq203 => ?_)
                rw [tx_sayS (t := ((lkP S (lkP S t.1 + 1)) + 1, t.2.1, t.2.2.1, t.2.2.2.1 + 1, (upd t.2.2.2.2 t.2.2.2.1 0))) (by show t.2.2.2.1 + 1 < 420; omega)] at hq203
                subst hq203
                refine r_aload_n dX9_unit_206 rfl rfl ?_
                refine r_iload_n dX9_unit_207 rfl rfl ?_
                refine r_invV1v dX9_unit_208 lm_X9_239 rfl (c_X9_say (lkC S (lkP S (lkP S t.1 + 1))) (txM S ((lkP S (lkP S t.1 + 1)) + 1, t.2.1, t.2.2.1, t.2.2.2.1 + 1 + 1, (upd (upd t.2.2.2.2 t.2.2.2.1 0) (t.2.2.2.1 + 1) (ltM (lkC S (lkP S t.1)))))) (tx_sh h _) (by rw [show mI (txM S ((lkP S (lkP S t.1 + 1)) + 1, t.2.1, t.2.2.1, t.2.2.2.1 + 1 + 1, (upd (upd t.2.2.2.2 t.2.2.2.1 0) (t.2.2.2.1 + 1) (ltM (lkC S (lkP S t.1)))))) 51 = nI (t.2.2.2.1 + 1 + 1) from tx_51, nI_toInt (by omega)]; omega)) (by first | exact Nat.le_of_ble_eq_true rfl | omega) (by first | exact Nat.le_of_ble_eq_true rfl | omega) (Nat.zero_le _) (Nat.zero_le _) (fun S208 hq208 => ?_)
                rw [tx_sayS (t := ((lkP S (lkP S t.1 + 1)) + 1, t.2.1, t.2.2.1, t.2.2.2.1 + 1 + 1, (upd (upd t.2.2.2.2 t.2.2.2.1 0) (t.2.2.2.1 + 1) (ltM (lkC S (lkP S t.1)))))) (by show t.2.2.2.1 + 1 + 1 < 420; omega)] at hq208
                subst hq208
                refine R.heap (S2 := txM S ((lkP S (lkP S t.1 + 1)) + 1, t.2.1, t.2.2.1, t.2.2.2.1 + 3, upd (upd (upd t.2.2.2.2 t.2.2.2.1 0) (t.2.2.2.1 + 1) (ltM (lkC S (lkP S t.1)))) (t.2.2.2.1 + 2) (lkC S (lkP S (lkP S t.1 + 1))))) rfl ?_
                refine r_aload_n dX9_unit_211 rfl rfl ?_
                refine r_invV0v dX9_unit_212 lm_X9_243 rfl (c_X9_number ((lkP S (lkP S t.1 + 1)) + 1, t.2.1, t.2.2.1, t.2.2.2.1 + 3, upd (upd (upd t.2.2.2.2 t.2.2.2.1 0) (t.2.2.2.1 + 1) (ltM (lkC S (lkP S t.1)))) (t.2.2.2.1 + 2) (lkC S (lkP S (lkP S t.1 + 1)))) S h hz (by show (lkP S (lkP S t.1 + 1)) + 1 ≤ 215; omega) hw (by show t.2.2.2.1 + 3 < 420; omega)) (by first | exact Nat.le_of_ble_eq_true rfl | omega) (by first | exact Nat.le_of_ble_eq_true rfl | omega) (Nat.zero_le _) (Nat.zero_le _) (fun S212 hq212 => ?_)
                replace hq212 := hq212.symm
                subst hq212
                exact r_vret dX9_unit_215 rfl (Nat.zero_le _) (Nat.zero_le _) ⟨rfl, ⟨atM S t, 1, prM_0a hnb, by unfold atM; rw [if_neg hl, if_pos hsg]⟩⟩
              · skip
                refine r_iload_n dX9_unit_175 rfl rfl ?_
                refine r_bipush (v := 62) dX9_unit_176 (by decide) ?_
                refine r_icmp_eq 186 dX9_unit_178 (by decide) (fun q178 => ?_) (fun q178 => ?_)
                · skip
                  have hsg : lkC S (lkP S (lkP S t.1 + 1)) = 61 ∨ lkC S (lkP S (lkP S t.1 + 1)) = 60 ∨ lkC S (lkP S (lkP S t.1 + 1)) = 62 := Or.inr (Or.inr q178)
                  have hp2 : (lkP S (lkP S t.1 + 1)) < szM S := lkC_in (fun z => by rw [z] at hsg; exact absurd hsg (by decide))
                  refine r_aload_n dX9_unit_186 rfl rfl ?_
                  refine r_dup dX9_unit_187 rfl ?_
                  refine r_getI dX9_unit_188 lf_X9_218 rfl rfl ?_
                  rw [show sI (txM S ((lkP S (lkP S t.1 + 1)), t.2)) (fid 9 48) 2000 = nI (lkP S (lkP S t.1 + 1)) from tx_48]
                  refine r_iconst (v := 1) dX9_unit_191 (by decide) ?_
                  refine r_iadd dX9_unit_192 ?_
                  refine r_putI dX9_unit_193 (lp_X9_218 _) rfl rfl ?_
                  rw [nI_1, tx_s48]
                  refine R.heap (S2 := txM S ((lkP S (lkP S t.1 + 1)) + 1, t.2)) rfl ?_
                  refine r_aload_n dX9_unit_196 rfl rfl ?_
                  refine r_iconst (v := 0) dX9_unit_197 (by decide) ?_
                  refine r_invV1v dX9_unit_198 lm_X9_239 rfl (c_X9_say 0 (txM S ((lkP S (lkP S t.1 + 1)) + 1, t.2)) (tx_sh h _) (by rw [show mI (txM S ((lkP S (lkP S t.1 + 1)) + 1, t.2)) 51 = nI t.2.2.2.1 from tx_51, nI_toInt (by omega)]; omega)) (by first | exact Nat.le_of_ble_eq_true rfl | omega) (by first | exact Nat.le_of_ble_eq_true rfl | omega) (Nat.zero_le _) (Nat.zero_le _) (fun S198 hq198 => ?_)
                  rw [tx_sayS (t := ((lkP S (lkP S t.1 + 1)) + 1, t.2)) (by show t.2.2.2.1 < 420; omega)] at hq198
                  subst hq198
                  refine r_aload_n dX9_unit_201 rfl rfl ?_
                  refine r_iload_n dX9_unit_202 rfl rfl ?_
                  refine r_invV1v dX9_unit_203 lm_X9_239 rfl (c_X9_say (ltM (lkC S (lkP S t.1))) (txM S ((lkP S (lkP S t.1 + 1)) + 1, t.2.1, t.2.2.1, t.2.2.2.1 + 1, (upd t.2.2.2.2 t.2.2.2.1 0))) (tx_sh h _) (by rw [show mI (txM S ((lkP S (lkP S t.1 + 1)) + 1, t.2.1, t.2.2.1, t.2.2.2.1 + 1, (upd t.2.2.2.2 t.2.2.2.1 0))) 51 = nI (t.2.2.2.1 + 1) from tx_51, nI_toInt (by omega)]; omega)) (by first | exact Nat.le_of_ble_eq_true rfl | omega) (by first | exact Nat.le_of_ble_eq_true rfl | omega) (Nat.zero_le _) (Nat.zero_le _) (fun S203 hq203 => ?_)
                  rw [tx_sayS (t := ((lkP S (lkP S t.1 + 1)) + 1, t.2.1, t.2.2.1, t.2.2.2.1 + 1, (upd t.2.2.2.2 t.2.2.2.1 0))) (by show t.2.2.2.1 + 1 < 420; omega)] at hq203
                  subst hq203
                  refine r_aload_n dX9_unit_206 rfl rfl ?_
                  refine r_iload_n dX9_unit_207 rfl rfl ?_
                  refine r_invV1v dX9_unit_208 lm_X9_239 rfl (c_X9_say (lkC S (lkP S (lkP S t.1 + 1))) (txM S ((lkP S (lkP S t.1 + 1)) + 1, t.2.1, t.2.2.1, t.2.2.2.1 + 1 + 1, (upd (upd t.2.2.2.2 t.2.2.2.1 0) (t.2.2.2.1 + 1) (ltM (lkC S (lkP S t.1)))))) (tx_sh h _) (by rw [show mI (txM S ((lkP S (lkP S t.1 + 1)) + 1, t.2.1, t.2.2.1, t.2.2.2.1 + 1 + 1, (upd (upd t.2.2.2.2 t.2.2.2.1 0) (t.2.2.2.1 + 1) (ltM (lkC S (lkP S t.1)))))) 51 = nI (t.2.2.2.1 + 1 + 1) from tx_51, nI_toInt (by omega)]; omega)) (by first | exact Nat.le_of_ble_eq_true rfl | omega) (by first | exact Nat.le_of_ble_eq_true rfl | omega) (Nat.zero_le _) (Nat.zero_le _) (fun S208 hq208 => ?_)
                  rw [tx_sayS (t := ((lkP S (lkP S t.1 + 1)) + 1, t.2.1, t.2.2.1, t.2.2.2.1 + 1 + 1, (upd (upd t.2.2.2.2 t.2.2.2.1 0) (t.2.2.2.1 + 1) (ltM (lkC S (lkP S t.1)))))) (by show t.2.2.2.1 + 1 + 1 < 420; omega)] at hq208
                  subst hq208
                  refine R.heap (S2 := txM S ((lkP S (lkP S t.1 + 1)) + 1, t.2.1, t.2.2.1, t.2.2.2.1 + 3, upd (upd (upd t.2.2.2.2 t.2.2.2.1 0) (t.2.2.2.1 + 1) (ltM (lkC S (lkP S t.1)))) (t.2.2.2.1 + 2) (lkC S (lkP S (lkP S t.1 + 1))))) rfl ?_
                  refine r_aload_n dX9_unit_211 rfl rfl ?_
                  refine r_invV0v dX9_unit_212 lm_X9_243 rfl (c_X9_number ((lkP S (lkP S t.1 + 1)) + 1, t.2.1, t.2.2.1, t.2.2.2.1 + 3, upd (upd (upd t.2.2.2.2 t.2.2.2.1 0) (t.2.2.2.1 + 1) (ltM (lkC S (lkP S t.1)))) (t.2.2.2.1 + 2) (lkC S (lkP S (lkP S t.1 + 1)))) S h hz (by show (lkP S (lkP S t.1 + 1)) + 1 ≤ 215; omega) hw (by show t.2.2.2.1 + 3 < 420; omega)) (by first | exact Nat.le_of_ble_eq_true rfl | omega) (by first | exact Nat.le_of_ble_eq_true rfl | omega) (Nat.zero_le _) (Nat.zero_le _) (fun S212 hq212 => ?_)
                  replace hq212 := hq212.symm
                  subst hq212
                  exact r_vret dX9_unit_215 rfl (Nat.zero_le _) (Nat.zero_le _) ⟨rfl, ⟨atM S t, 1, prM_0a hnb, by unfold atM; rw [if_neg hl, if_pos hsg]⟩⟩
                · skip
                  refine r_aload_n dX9_unit_181 rfl rfl ?_
                  refine r_invV0v dX9_unit_182 lm_X9_236 rfl (c_X9_fail (txM S ((lkP S (lkP S t.1 + 1)), t.2)) hsh) (by first | exact Nat.le_of_ble_eq_true rfl | omega) (by first | exact Nat.le_of_ble_eq_true rfl | omega) (Nat.zero_le _) (Nat.zero_le _) (fun S182 hq182 => ?_)
                  rw [tx_fail (t := ((lkP S (lkP S t.1 + 1)), t.2)) hw] at hq182
                  subst hq182
                  exact r_vret dX9_unit_185 rfl (Nat.zero_le _) (Nat.zero_le _) ⟨rfl, ⟨atM S t, 1, prM_0a hnb, by unfold atM; rw [if_neg hl, if_neg (fun z => by rcases z with z | z | z; exact q166 z; exact q172 z; exact q178 z)]⟩⟩
          · skip
            refine r_aload_n dX9_unit_143 rfl rfl ?_
            refine r_invV0v dX9_unit_144 lm_X9_236 rfl (c_X9_fail (txM S ((lkP S t.1), t.2)) hsh) (by first | exact Nat.le_of_ble_eq_true rfl | omega) (by first | exact Nat.le_of_ble_eq_true rfl | omega) (Nat.zero_le _) (Nat.zero_le _) (fun S144 hq144 => ?_)
            rw [tx_fail (t := ((lkP S t.1), t.2)) hw] at hq144
            subst hq144
            exact r_vret dX9_unit_147 rfl (Nat.zero_le _) (Nat.zero_le _) ⟨rfl, ⟨atM S t, 1, prM_0a hnb, by unfold atM; rw [if_pos q140]⟩⟩
      · skip
        have hlt : ltM (lkC S (lkP S t.1)) = 0 := by unfold ltM; rw [if_pos q89]
        refine r_iconst (v := 0) dX9_unit_92 (by decide) ?_
        refine r_goto 137 dX9_unit_93 (by decide) ?_
        rw [← hlt]
        refine r_ist2 dX9_unit_137 (by first | exact Nat.le_of_ble_eq_true rfl | omega) rfl ?_
        refine r_iload_n dX9_unit_138 rfl rfl ?_
        refine r_iconst (v := (-1)) dX9_unit_139 (by decide) ?_
        refine r_icmp_ne 148 dX9_unit_140 (by decide) (fun q140 => ?_) (fun q140 => ?_)
        · skip
          have hl : ¬ ltM (lkC S (lkP S t.1)) = -1 := q140
          have hp : (lkP S t.1) < szM S := lkC_in (fun z => hl (by rw [z]; rfl))
          obtain ⟨m1, m2⟩ := lkP_le (S := S) (a := (lkP S t.1) + 1) (by omega)
          refine r_aload_n dX9_unit_148 rfl rfl ?_
          refine r_dup dX9_unit_149 rfl ?_
          refine r_getI dX9_unit_150 lf_X9_218 rfl rfl ?_
          rw [show sI (txM S ((lkP S t.1), t.2)) (fid 9 48) 2000 = nI (lkP S t.1) from tx_48]
          refine r_iconst (v := 1) dX9_unit_153 (by decide) ?_
          refine r_iadd dX9_unit_154 ?_
          refine r_putI dX9_unit_155 (lp_X9_218 _) rfl rfl ?_
          rw [nI_1, tx_s48]
          refine r_aload_n dX9_unit_158 rfl rfl ?_
          refine r_invV0i dX9_unit_159 lm_X9_227 rfl (c_X9_look ((lkP S t.1) + 1, t.2) S h hz (by show (lkP S t.1) + 1 ≤ 215; omega)) (by first | exact Nat.le_of_ble_eq_true rfl | omega) (by first | exact Nat.le_of_ble_eq_true rfl | omega) (Nat.zero_le _) (Nat.zero_le _) (fun r159 S159 hq159 => ?_)
          obtain ⟨hr159, hz159⟩ := hq159
          subst hz159
          subst hr159
          have hsh : ShM (txM S ((lkP S (lkP S t.1 + 1)), t.2)) := tx_sh h _
          refine r_ist3 dX9_unit_162 (by first | exact Nat.le_of_ble_eq_true rfl | omega) rfl ?_
          refine r_iload_n dX9_unit_163 rfl rfl ?_
          refine r_bipush (v := 61) dX9_unit_164 (by decide) ?_
          refine r_icmp_eq 186 dX9_unit_166 (by decide) (fun q166 => ?_) (fun q166 => ?_)
          · skip
            have hsg : lkC S (lkP S (lkP S t.1 + 1)) = 61 ∨ lkC S (lkP S (lkP S t.1 + 1)) = 60 ∨ lkC S (lkP S (lkP S t.1 + 1)) = 62 := Or.inl q166
            have hp2 : (lkP S (lkP S t.1 + 1)) < szM S := lkC_in (fun z => by rw [z] at hsg; exact absurd hsg (by decide))
            refine r_aload_n dX9_unit_186 rfl rfl ?_
            refine r_dup dX9_unit_187 rfl ?_
            refine r_getI dX9_unit_188 lf_X9_218 rfl rfl ?_
            rw [show sI (txM S ((lkP S (lkP S t.1 + 1)), t.2)) (fid 9 48) 2000 = nI (lkP S (lkP S t.1 + 1)) from tx_48]
            refine r_iconst (v := 1) dX9_unit_191 (by decide) ?_
            refine r_iadd dX9_unit_192 ?_
            refine r_putI dX9_unit_193 (lp_X9_218 _) rfl rfl ?_
            rw [nI_1, tx_s48]
            refine R.heap (S2 := txM S ((lkP S (lkP S t.1 + 1)) + 1, t.2)) rfl ?_
            refine r_aload_n dX9_unit_196 rfl rfl ?_
            refine r_iconst (v := 0) dX9_unit_197 (by decide) ?_
            refine r_invV1v dX9_unit_198 lm_X9_239 rfl (c_X9_say 0 (txM S ((lkP S (lkP S t.1 + 1)) + 1, t.2)) (tx_sh h _) (by rw [show mI (txM S ((lkP S (lkP S t.1 + 1)) + 1, t.2)) 51 = nI t.2.2.2.1 from tx_51, nI_toInt (by omega)]; omega)) (by first | exact Nat.le_of_ble_eq_true rfl | omega) (by first | exact Nat.le_of_ble_eq_true rfl | omega) (Nat.zero_le _) (Nat.zero_le _) (fun S198 hq198 => ?_)
            rw [tx_sayS (t := ((lkP S (lkP S t.1 + 1)) + 1, t.2)) (by show t.2.2.2.1 < 420; omega)] at hq198
            subst hq198
            refine r_aload_n dX9_unit_201 rfl rfl ?_
            refine r_iload_n dX9_unit_202 rfl rfl ?_
            refine r_invV1v dX9_unit_203 lm_X9_239 rfl (c_X9_say (ltM (lkC S (lkP S t.1))) (txM S ((lkP S (lkP S t.1 + 1)) + 1, t.2.1, t.2.2.1, t.2.2.2.1 + 1, (upd t.2.2.2.2 t.2.2.2.1 0))) (tx_sh h _) (by rw [show mI (txM S ((lkP S (lkP S t.1 + 1)) + 1, t.2.1, t.2.2.1, t.2.2.2.1 + 1, (upd t.2.2.2.2 t.2.2.2.1 0))) 51 = nI (t.2.2.2.1 + 1) from tx_51, nI_toInt (by omega)]; omega)) (by first | exact Nat.le_of_ble_eq_true rfl | omega) (by first | exact Nat.le_of_ble_eq_true rfl | omega) (Nat.zero_le _) (Nat.zero_le _) (fun S203 hq203 => ?_)
            rw [tx_sayS (t := ((lkP S (lkP S t.1 + 1)) + 1, t.2.1, t.2.2.1, t.2.2.2.1 + 1, (upd t.2.2.2.2 t.2.2.2.1 0))) (by show t.2.2.2.1 + 1 < 420; omega)] at hq203
            subst hq203
            refine r_aload_n dX9_unit_206 rfl rfl ?_
            refine r_iload_n dX9_unit_207 rfl rfl ?_
            refine r_invV1v dX9_unit_208 lm_X9_239 rfl (c_X9_say (lkC S (lkP S (lkP S t.1 + 1))) (txM S ((lkP S (lkP S t.1 + 1)) + 1, t.2.1, t.2.2.1, t.2.2.2.1 + 1 + 1, (upd (upd t.2.2.2.2 t.2.2.2.1 0) (t.2.2.2.1 + 1) (ltM (lkC S (lkP S t.1)))))) (tx_sh h _) (by rw [show mI (txM S ((lkP S (lkP S t.1 + 1)) + 1, t.2.1, t.2.2.1, t.2.2.2.1 + 1 + 1, (upd (upd t.2.2.2.2 t.2.2.2.1 0) (t.2.2.2.1 + 1) (ltM (lkC S (lkP S t.1)))))) 51 = nI (t.2.2.2.1 + 1 + 1) from tx_51, nI_toInt (by omega)]; omega)) (by first | exact Nat.le_of_ble_eq_true rfl | omega) (by first | exact Nat.le_of_ble_eq_true rfl | omega) (Nat.zero_le _) (Nat.zero_le _) (fun S208 hq208 => ?_)
            rw [tx_sayS (t := ((lkP S (lkP S t.1 + 1)) + 1, t.2.1, t.2.2.1, t.2.2.2.1 + 1 + 1, (upd (upd t.2.2.2.2 t.2.2.2.1 0) (t.2.2.2.1 + 1) (ltM (lkC S (lkP S t.1)))))) (by show t.2.2.2.1 + 1 + 1 < 420; omega)] at hq208
            subst hq208
            refine R.heap (S2 := txM S ((lkP S (lkP S t.1 + 1)) + 1, t.2.1, t.2.2.1, t.2.2.2.1 + 3, upd (upd (upd t.2.2.2.2 t.2.2.2.1 0) (t.2.2.2.1 + 1) (ltM (lkC S (lkP S t.1)))) (t.2.2.2.1 + 2) (lkC S (lkP S (lkP S t.1 + 1))))) rfl ?_
            refine r_aload_n dX9_unit_211 rfl rfl ?_
            refine r_invV0v dX9_unit_212 lm_X9_243 rfl (c_X9_number ((lkP S (lkP S t.1 + 1)) + 1, t.2.1, t.2.2.1, t.2.2.2.1 + 3, upd (upd (upd t.2.2.2.2 t.2.2.2.1 0) (t.2.2.2.1 + 1) (ltM (lkC S (lkP S t.1)))) (t.2.2.2.1 + 2) (lkC S (lkP S (lkP S t.1 + 1)))) S h hz (by show (lkP S (lkP S t.1 + 1)) + 1 ≤ 215; omega) hw (by show t.2.2.2.1 + 3 < 420; omega)) (by first | exact Nat.le_of_ble_eq_true rfl | omega) (by first | exact Nat.le_of_ble_eq_true rfl | omega) (Nat.zero_le _) (Nat.zero_le _) (fun S212 hq212 => ?_)
            replace hq212 := hq212.symm
            subst hq212
            exact r_vret dX9_unit_215 rfl (Nat.zero_le _) (Nat.zero_le _) ⟨rfl, ⟨atM S t, 1, prM_0a hnb, by unfold atM; rw [if_neg hl, if_pos hsg]⟩⟩
          · skip
            refine r_iload_n dX9_unit_169 rfl rfl ?_
            refine r_bipush (v := 60) dX9_unit_170 (by decide) ?_
            refine r_icmp_eq 186 dX9_unit_172 (by decide) (fun q172 => ?_) (fun q172 => ?_)
            · skip
              have hsg : lkC S (lkP S (lkP S t.1 + 1)) = 61 ∨ lkC S (lkP S (lkP S t.1 + 1)) = 60 ∨ lkC S (lkP S (lkP S t.1 + 1)) = 62 := Or.inr (Or.inl q172)
              have hp2 : (lkP S (lkP S t.1 + 1)) < szM S := lkC_in (fun z => by rw [z] at hsg; exact absurd hsg (by decide))
              refine r_aload_n dX9_unit_186 rfl rfl ?_
              refine r_dup dX9_unit_187 rfl ?_
              refine r_getI dX9_unit_188 lf_X9_218 rfl rfl ?_
              rw [show sI (txM S ((lkP S (lkP S t.1 + 1)), t.2)) (fid 9 48) 2000 = nI (lkP S (lkP S t.1 + 1)) from tx_48]
              refine r_iconst (v := 1) dX9_unit_191 (by decide) ?_
              refine r_iadd dX9_unit_192 ?_
              refine r_putI dX9_unit_193 (lp_X9_218 _) rfl rfl ?_
              rw [nI_1, tx_s48]
              refine R.heap (S2 := txM S ((lkP S (lkP S t.1 + 1)) + 1, t.2)) rfl ?_
              refine r_aload_n dX9_unit_196 rfl rfl ?_
              refine r_iconst (v := 0) dX9_unit_197 (by decide) ?_
              refine r_invV1v dX9_unit_198 lm_X9_239 rfl (c_X9_say 0 (txM S ((lkP S (lkP S t.1 + 1)) + 1, t.2)) (tx_sh h _) (by rw [show mI (txM S ((lkP S (lkP S t.1 + 1)) + 1, t.2)) 51 = nI t.2.2.2.1 from tx_51, nI_toInt (by omega)]; omega)) (by first | exact Nat.le_of_ble_eq_true rfl | omega) (by first | exact Nat.le_of_ble_eq_true rfl | omega) (Nat.zero_le _) (Nat.zero_le _) (fun S198 hq198 => ?_)
              rw [tx_sayS (t := ((lkP S (lkP S t.1 + 1)) + 1, t.2)) (by show t.2.2.2.1 < 420; omega)] at hq198
              subst hq198
              refine r_aload_n dX9_unit_201 rfl rfl ?_
              refine r_iload_n dX9_unit_202 rfl rfl ?_
              refine r_invV1v dX9_unit_203 lm_X9_239 rfl (c_X9_say (ltM (lkC S (lkP S t.1))) (txM S ((lkP S (lkP S t.1 + 1)) + 1, t.2.1, t.2.2.1, t.2.2.2.1 + 1, (upd t.2.2.2.2 t.2.2.2.1 0))) (tx_sh h _) (by rw [show mI (txM S ((lkP S (lkP S t.1 + 1)) + 1, t.2.1, t.2.2.1, t.2.2.2.1 + 1, (upd t.2.2.2.2 t.2.2.2.1 0))) 51 = nI (t.2.2.2.1 + 1) from tx_51, nI_toInt (by omega)]; omega)) (by first | exact Nat.le_of_ble_eq_true rfl | omega) (by first | exact Nat.le_of_ble_eq_true rfl | omega) (Nat.zero_le _) (Nat.zero_le _) (fun S203 hq203 => ?_)
              rw [tx_sayS (t := ((lkP S (lkP S t.1 + 1)) + 1, t.2.1, t.2.2.1, t.2.2.2.1 + 1, (upd t.2.2.2.2 t.2.2.2.1 0))) (by show t.2.2.2.1 + 1 < 420; omega)] at hq203
              subst hq203
              refine r_aload_n dX9_unit_206 rfl rfl ?_
              refine r_iload_n dX9_unit_207 rfl rfl ?_
              refine r_invV1v dX9_unit_208 lm_X9_239 rfl (c_X9_say (lkC S (lkP S (lkP S t.1 + 1))) (txM S ((lkP S (lkP S t.1 + 1)) + 1, t.2.1, t.2.2.1, t.2.2.2.1 + 1 + 1, (upd (upd t.2.2.2.2 t.2.2.2.1 0) (t.2.2.2.1 + 1) (ltM (lkC S (lkP S t.1)))))) (tx_sh h _) (by rw [show mI (txM S ((lkP S (lkP S t.1 + 1)) + 1, t.2.1, t.2.2.1, t.2.2.2.1 + 1 + 1, (upd (upd t.2.2.2.2 t.2.2.2.1 0) (t.2.2.2.1 + 1) (ltM (lkC S (lkP S t.1)))))) 51 = nI (t.2.2.2.1 + 1 + 1) from tx_51, nI_toInt (by omega)]; omega)) (by first | exact Nat.le_of_ble_eq_true rfl | omega) (by first | exact Nat.le_of_ble_eq_true rfl | omega) (Nat.zero_le _) (Nat.zero_le _) (fun S208 hq208 => ?_)
              rw [tx_sayS (t := ((lkP S (lkP S t.1 + 1)) + 1, t.2.1, t.2.2.1, t.2.2.2.1 + 1 + 1, (upd (upd t.2.2.2.2 t.2.2.2.1 0) (t.2.2.2.1 + 1) (ltM (lkC S (lkP S t.1)))))) (by show t.2.2.2.1 + 1 + 1 < 420; omega)] at hq208
              subst hq208
              refine R.heap (S2 := txM S ((lkP S (lkP S t.1 + 1)) + 1, t.2.1, t.2.2.1, t.2.2.2.1 + 3, upd (upd (upd t.2.2.2.2 t.2.2.2.1 0) (t.2.2.2.1 + 1) (ltM (lkC S (lkP S t.1)))) (t.2.2.2.1 + 2) (lkC S (lkP S (lkP S t.1 + 1))))) rfl ?_
              refine r_aload_n dX9_unit_211 rfl rfl ?_
              refine r_invV0v dX9_unit_212 lm_X9_243 rfl (c_X9_number ((lkP S (lkP S t.1 + 1)) + 1, t.2.1, t.2.2.1, t.2.2.2.1 + 3, upd (upd (upd t.2.2.2.2 t.2.2.2.1 0) (t.2.2.2.1 + 1) (ltM (lkC S (lkP S t.1)))) (t.2.2.2.1 + 2) (lkC S (lkP S (lkP S t.1 + 1)))) S h hz (by show (lkP S (lkP S t.1 + 1)) + 1 ≤ 215; omega) hw (by show t.2.2.2.1 + 3 < 420; omega)) (by first | exact Nat.le_of_ble_eq_true rfl | omega) (by first | exact Nat.le_of_ble_eq_true rfl | omega) (Nat.zero_le _) (Nat.zero_le _) (fun S212 hq212 => ?_)
              replace hq212 := hq212.symm
              subst hq212
              exact r_vret dX9_unit_215 rfl (Nat.zero_le _) (Nat.zero_le _) ⟨rfl, ⟨atM S t, 1, prM_0a hnb, by unfold atM; rw [if_neg hl, if_pos hsg]⟩⟩
            · skip
              refine r_iload_n dX9_unit_175 rfl rfl ?_
              refine r_bipush (v := 62) dX9_unit_176 (by decide) ?_
              refine r_icmp_eq 186 dX9_unit_178 (by decide) (fun q178 => ?_) (fun q178 => ?_)
              · skip
                have hsg : lkC S (lkP S (lkP S t.1 + 1)) = 61 ∨ lkC S (lkP S (lkP S t.1 + 1)) = 60 ∨ lkC S (lkP S (lkP S t.1 + 1)) = 62 := Or.inr (Or.inr q178)
                have hp2 : (lkP S (lkP S t.1 + 1)) < szM S := lkC_in (fun z => by rw [z] at hsg; exact absurd hsg (by decide))
                refine r_aload_n dX9_unit_186 rfl rfl ?_
                refine r_dup dX9_unit_187 rfl ?_
                refine r_getI dX9_unit_188 lf_X9_218 rfl rfl ?_
                rw [show sI (txM S ((lkP S (lkP S t.1 + 1)), t.2)) (fid 9 48) 2000 = nI (lkP S (lkP S t.1 + 1)) from tx_48]
                refine r_iconst (v := 1) dX9_unit_191 (by decide) ?_
                refine r_iadd dX9_unit_192 ?_
                refine r_putI dX9_unit_193 (lp_X9_218 _) rfl rfl ?_
                rw [nI_1, tx_s48]
                refine R.heap (S2 := txM S ((lkP S (lkP S t.1 + 1)) + 1, t.2)) rfl ?_
                refine r_aload_n dX9_unit_196 rfl rfl ?_
                refine r_iconst (v := 0) dX9_unit_197 (by decide) ?_
                refine r_invV1v dX9_unit_198 lm_X9_239 rfl (c_X9_say 0 (txM S ((lkP S (lkP S t.1 + 1)) + 1, t.2)) (tx_sh h _) (by rw [show mI (txM S ((lkP S (lkP S t.1 + 1)) + 1, t.2)) 51 = nI t.2.2.2.1 from tx_51, nI_toInt (by omega)]; omega)) (by first | exact Nat.le_of_ble_eq_true rfl | omega) (by first | exact Nat.le_of_ble_eq_true rfl | omega) (Nat.zero_le _) (Nat.zero_le _) (fun S198 hq198 => ?_)
                rw [tx_sayS (t := ((lkP S (lkP S t.1 + 1)) + 1, t.2)) (by show t.2.2.2.1 < 420; omega)] at hq198
                subst hq198
                refine r_aload_n dX9_unit_201 rfl rfl ?_
                refine r_iload_n dX9_unit_202 rfl rfl ?_
                refine r_invV1v dX9_unit_203 lm_X9_239 rfl (c_X9_say (ltM (lkC S (lkP S t.1))) (txM S ((lkP S (lkP S t.1 + 1)) + 1, t.2.1, t.2.2.1, t.2.2.2.1 + 1, (upd t.2.2.2.2 t.2.2.2.1 0))) (tx_sh h _) (by rw [show mI (txM S ((lkP S (lkP S t.1 + 1)) + 1, t.2.1, t.2.2.1, t.2.2.2.1 + 1, (upd t.2.2.2.2 t.2.2.2.1 0))) 51 = nI (t.2.2.2.1 + 1) from tx_51, nI_toInt (by omega)]; omega)) (by first | exact Nat.le_of_ble_eq_true rfl | omega) (by first | exact Nat.le_of_ble_eq_true rfl | omega) (Nat.zero_le _) (Nat.zero_le _) (fun S203 hq203 => ?_)
                rw [tx_sayS (t := ((lkP S (lkP S t.1 + 1)) + 1, t.2.1, t.2.2.1, t.2.2.2.1 + 1, (upd t.2.2.2.2 t.2.2.2.1 0))) (by show t.2.2.2.1 + 1 < 420; omega)] at hq203
                subst hq203
                refine r_aload_n dX9_unit_206 rfl rfl ?_
                refine r_iload_n dX9_unit_207 rfl rfl ?_
                refine r_invV1v dX9_unit_208 lm_X9_239 rfl (c_X9_say (lkC S (lkP S (lkP S t.1 + 1))) (txM S ((lkP S (lkP S t.1 + 1)) + 1, t.2.1, t.2.2.1, t.2.2.2.1 + 1 + 1, (upd (upd t.2.2.2.2 t.2.2.2.1 0) (t.2.2.2.1 + 1) (ltM (lkC S (lkP S t.1)))))) (tx_sh h _) (by rw [show mI (txM S ((lkP S (lkP S t.1 + 1)) + 1, t.2.1, t.2.2.1, t.2.2.2.1 + 1 + 1, (upd (upd t.2.2.2.2 t.2.2.2.1 0) (t.2.2.2.1 + 1) (ltM (lkC S (lkP S t.1)))))) 51 = nI (t.2.2.2.1 + 1 + 1) from tx_51, nI_toInt (by omega)]; omega)) (by first | exact Nat.le_of_ble_eq_true rfl | omega) (by first | exact Nat.le_of_ble_eq_true rfl | omega) (Nat.zero_le _) (Nat.zero_le _) (fun S208 hq208 => ?_)
                rw [tx_sayS (t := ((lkP S (lkP S t.1 + 1)) + 1, t.2.1, t.2.2.1, t.2.2.2.1 + 1 + 1, (upd (upd t.2.2.2.2 t.2.2.2.1 0) (t.2.2.2.1 + 1) (ltM (lkC S (lkP S t.1)))))) (by show t.2.2.2.1 + 1 + 1 < 420; omega)] at hq208
                subst hq208
                refine R.heap (S2 := txM S ((lkP S (lkP S t.1 + 1)) + 1, t.2.1, t.2.2.1, t.2.2.2.1 + 3, upd (upd (upd t.2.2.2.2 t.2.2.2.1 0) (t.2.2.2.1 + 1) (ltM (lkC S (lkP S t.1)))) (t.2.2.2.1 + 2) (lkC S (lkP S (lkP S t.1 + 1))))) rfl ?_
                refine r_aload_n dX9_unit_211 rfl rfl ?_
                refine r_invV0v dX9_unit_212 lm_X9_243 rfl (c_X9_number ((lkP S (lkP S t.1 + 1)) + 1, t.2.1, t.2.2.1, t.2.2.2.1 + 3, upd (upd (upd t.2.2.2.2 t.2.2.2.1 0) (t.2.2.2.1 + 1) (ltM (lkC S (lkP S t.1)))) (t.2.2.2.1 + 2) (lkC S (lkP S (lkP S t.1 + 1)))) S h hz (by show (lkP S (lkP S t.1 + 1)) + 1 ≤ 215; omega) hw (by show t.2.2.2.1 + 3 < 420; omega)) (by first | exact Nat.le_of_ble_eq_true rfl | omega) (by first | exact Nat.le_of_ble_eq_true rfl | omega) (Nat.zero_le _) (Nat.zero_le _) (fun S212 hq212 => ?_)
                replace hq212 := hq212.symm
                subst hq212
                exact r_vret dX9_unit_215 rfl (Nat.zero_le _) (Nat.zero_le _) ⟨rfl, ⟨atM S t, 1, prM_0a hnb, by unfold atM; rw [if_neg hl, if_pos hsg]⟩⟩
              · skip
                refine r_aload_n dX9_unit_181 rfl rfl ?_
                refine r_invV0v dX9_unit_182 lm_X9_236 rfl (c_X9_fail (txM S ((lkP S (lkP S t.1 + 1)), t.2)) hsh) (by first | exact Nat.le_of_ble_eq_true rfl | omega) (by first | exact Nat.le_of_ble_eq_true rfl | omega) (Nat.zero_le _) (Nat.zero_le _) (fun S182 hq182 => ?_)
                rw [tx_fail (t := ((lkP S (lkP S t.1 + 1)), t.2)) hw] at hq182
                subst hq182
                exact r_vret dX9_unit_185 rfl (Nat.zero_le _) (Nat.zero_le _) ⟨rfl, ⟨atM S t, 1, prM_0a hnb, by unfold atM; rw [if_neg hl, if_neg (fun z => by rcases z with z | z | z; exact q166 z; exact q172 z; exact q178 z)]⟩⟩
        · skip
          refine r_aload_n dX9_unit_143 rfl rfl ?_
          refine r_invV0v dX9_unit_144 lm_X9_236 rfl (c_X9_fail (txM S ((lkP S t.1), t.2)) hsh) (by first | exact Nat.le_of_ble_eq_true rfl | omega) (by first | exact Nat.le_of_ble_eq_true rfl | omega) (Nat.zero_le _) (Nat.zero_le _) (fun S144 hq144 => ?_)
          rw [tx_fail (t := ((lkP S t.1), t.2)) hw] at hq144
          subst hq144
          exact r_vret dX9_unit_147 rfl (Nat.zero_le _) (Nat.zero_le _) ⟨rfl, ⟨atM S t, 1, prM_0a hnb, by unfold atM; rw [if_pos q140]⟩⟩
    · skip
      have hbr : lkC S (lkP S t.1) = 40 ∧ t.2.2.1 < 8 := ⟨q8, by rw [fa_le, nI_toInt (by omega)] at q17; have : (8 : Int32).toInt = 8 := rfl; omega⟩
      have hp : (lkP S t.1) < szM S := lkC_in (fun w => by rw [w] at q8; exact absurd q8 (by decide))
      have hB1 : Bd S ((lkP S t.1) + 1, t.2.1, t.2.2.1 + 1, t.2.2.2) := ⟨fun _ => by show (lkP S t.1) + 1 ≤ szM S; omega, by show (lkP S t.1) + 1 + (t.2.2.1 + 1) ≤ 208; omega, by show t.2.2.2.1 ≤ 2 * ((lkP S t.1) + 1); omega, by show t.2.2.1 + 1 ≤ 8; omega⟩
      refine r_aload_n dX9_unit_20 rfl rfl ?_
      refine r_dup dX9_unit_21 rfl ?_
      refine r_getI dX9_unit_22 lf_X9_230 rfl rfl ?_
      rw [show sI (txM S ((lkP S t.1), t.2)) (fid 9 50) 2000 = nI t.2.2.1 from tx_50]
      refine r_iconst (v := 1) dX9_unit_25 (by decide) ?_
      refine r_iadd dX9_unit_26 ?_
      refine r_putI dX9_unit_27 (lp_X9_230 _) rfl rfl ?_
      rw [nI_1, tx_s50]
      have hsh : ShM (txM S ((lkP S t.1), t.2.1, t.2.2.1 + 1, t.2.2.2)) := tx_sh h _
      refine r_aload_n dX9_unit_30 rfl rfl ?_
      refine r_dup dX9_unit_31 rfl ?_
      refine r_getI dX9_unit_32 lf_X9_218 rfl rfl ?_
      rw [show sI (txM S ((lkP S t.1), t.2.1, t.2.2.1 + 1, t.2.2.2)) (fid 9 48) 2000 = nI (lkP S t.1) from tx_48]
      refine r_iconst (v := 1) dX9_unit_35 (by decide) ?_
      refine r_iadd dX9_unit_36 ?_
      refine r_putI dX9_unit_37 (lp_X9_218 _) rfl rfl ?_
      rw [nI_1, tx_s48]
      refine R.heap (S2 := txM S ((lkP S t.1) + 1, t.2.1, t.2.2.1 + 1, t.2.2.2)) rfl ?_
      have hsh : ShM (txM S ((lkP S t.1) + 1, t.2.1, t.2.2.1 + 1, t.2.2.2)) := tx_sh h _
      refine r_aload_n dX9_unit_40 rfl rfl ?_
      refine r_invV0v dX9_unit_41 lm_X9_233 rfl (hW (by omega) ((lkP S t.1) + 1, t.2.1, t.2.2.1 + 1, t.2.2.2) hB1 hw (by show t.2.2.1 + 1 = D + 1; omega)) (by first | exact Nat.le_of_ble_eq_true rfl | omega) (by first | exact Nat.le_of_ble_eq_true rfl | omega) (Nat.zero_le _) (Nat.zero_le _) (fun S41 hq41 => ?_)
      obtain ⟨v, n41, hv, hz41⟩ := hq41
      subst hz41
      have hsh : ShM (txM S v) := tx_sh h _
      obtain ⟨c1, c2, c3, c4⟩ := prM_bd hsz hB1 (fun _ => hw) hv
      dsimp only at c2 c3
      obtain ⟨e1, e2, e3, e4⟩ := id c1
      refine r_aload_n dX9_unit_44 rfl rfl ?_
      refine r_getI dX9_unit_45 lf_X9_221 rfl rfl ?_
      rw [show sI (txM S v) (fid 9 49) 2000 = v.2.1 from tx_49]
      refine r_iconst (v := (-1)) dX9_unit_48 (by decide) ?_
      refine r_icmp_ne 65 dX9_unit_49 (by decide) (fun q49 => ?_) (fun q49 => ?_)
      · skip
        obtain ⟨w, hw0, hcl, hw1, hw2, hw3⟩ : ∃ w : TX, txM S v = txM S w ∧ clM S v = (w.1 + 1, w.2.1, w.2.2.1 - 1, w.2.2.2) ∧ w.1 ≤ 210 ∧ 0 < w.2.2.1 ∧ w.2.2.1 ≤ 8 := ⟨v, rfl, if_neg q49, by omega, by omega, by omega⟩
        rw [hw0]
        refine r_aload_n dX9_unit_65 rfl rfl ?_
        refine r_dup dX9_unit_66 rfl ?_
        refine r_getI dX9_unit_67 lf_X9_218 rfl rfl ?_
        rw [show sI (txM S w) (fid 9 48) 2000 = nI w.1 from tx_48]
        refine r_iconst (v := 1) dX9_unit_70 (by decide) ?_
        refine r_iadd dX9_unit_71 ?_
        refine r_putI dX9_unit_72 (lp_X9_218 _) rfl rfl ?_
        rw [nI_1, tx_s48]
        refine r_aload_n dX9_unit_75 rfl rfl ?_
        refine r_dup dX9_unit_76 rfl ?_
        refine r_getI dX9_unit_77 lf_X9_230 rfl rfl ?_
        rw [show sI (txM S (w.1 + 1, w.2)) (fid 9 50) 2000 = nI w.2.2.1 from tx_50]
        refine r_iconst (v := 1) dX9_unit_80 (by decide) ?_
        refine r_isub dX9_unit_81 ?_
        refine r_putI dX9_unit_82 (lp_X9_230 _) rfl rfl ?_
        rw [nI_m1 (by omega) (by omega), tx_s50]
        exact r_vret dX9_unit_85 rfl (Nat.zero_le _) (Nat.zero_le _) ⟨rfl, ⟨clM S v, n41 + 1, (prM_0b hbr).mpr ⟨v, hv, rfl⟩, by rw [hcl]⟩⟩
      · skip
        obtain ⟨j1, j2⟩ := lkP_le (e1 q49)
        refine r_aload_n dX9_unit_52 rfl rfl ?_
        refine r_invV0i dX9_unit_53 lm_X9_227 rfl (c_X9_look v S h hz (by omega)) (by first | exact Nat.le_of_ble_eq_true rfl | omega) (by first | exact Nat.le_of_ble_eq_true rfl | omega) (Nat.zero_le _) (Nat.zero_le _) (fun r53 S53 hq53 => ?_)
        obtain ⟨hr53, hz53⟩ := hq53
        subst hz53
        subst hr53
        have hsh : ShM (txM S (lkP S v.1, v.2)) := tx_sh h _
        refine r_bipush (v := 41) dX9_unit_56 (by decide) ?_
        refine r_icmp_eq 65 dX9_unit_58 (by decide) (fun q58 => ?_) (fun q58 => ?_)
        · skip
          obtain ⟨w, hw0, hcl, hw1, hw2, hw3⟩ : ∃ w : TX, txM S (lkP S v.1, v.2) = txM S w ∧ clM S v = (w.1 + 1, w.2.1, w.2.2.1 - 1, w.2.2.2) ∧ w.1 ≤ 210 ∧ 0 < w.2.2.1 ∧ w.2.2.1 ≤ 8 := ⟨(lkP S v.1, v.2), rfl, by unfold clM; rw [if_pos q49, if_pos q58], by show lkP S v.1 ≤ 210; omega, by show 0 < v.2.2.1; omega, by show v.2.2.1 ≤ 8; omega⟩
          rw [hw0]
          refine r_aload_n dX9_unit_65 rfl rfl ?_
          refine r_dup dX9_unit_66 rfl ?_
          refine r_getI dX9_unit_67 lf_X9_218 rfl rfl ?_
          rw [show sI (txM S w) (fid 9 48) 2000 = nI w.1 from tx_48]
          refine r_iconst (v := 1) dX9_unit_70 (by decide) ?_
          refine r_iadd dX9_unit_71 ?_
          refine r_putI dX9_unit_72 (lp_X9_218 _) rfl rfl ?_
          rw [nI_1, tx_s48]
          refine r_aload_n dX9_unit_75 rfl rfl ?_
          refine r_dup dX9_unit_76 rfl ?_
          refine r_getI dX9_unit_77 lf_X9_230 rfl rfl ?_
          rw [show sI (txM S (w.1 + 1, w.2)) (fid 9 50) 2000 = nI w.2.2.1 from tx_50]
          refine r_iconst (v := 1) dX9_unit_80 (by decide) ?_
          refine r_isub dX9_unit_81 ?_
          refine r_putI dX9_unit_82 (lp_X9_230 _) rfl rfl ?_
          rw [nI_m1 (by omega) (by omega), tx_s50]
          exact r_vret dX9_unit_85 rfl (Nat.zero_le _) (Nat.zero_le _) ⟨rfl, ⟨clM S v, n41 + 1, (prM_0b hbr).mpr ⟨v, hv, rfl⟩, by rw [hcl]⟩⟩
        · skip
          refine r_aload_n dX9_unit_61 rfl rfl ?_
          refine r_invV0v dX9_unit_62 lm_X9_236 rfl (c_X9_fail (txM S (lkP S v.1, v.2)) hsh) (by first | exact Nat.le_of_ble_eq_true rfl | omega) (by first | exact Nat.le_of_ble_eq_true rfl | omega) (Nat.zero_le _) (Nat.zero_le _) (fun S62 hq62 => ?_)
          rw [tx_fail (t := (lkP S v.1, v.2)) q49] at hq62
          subst hq62
          obtain ⟨w, hw0, hcl, hw1, hw2, hw3⟩ : ∃ w : TX, txM S (lkP S v.1, nI (lkP S v.1), v.2.2) = txM S w ∧ clM S v = (w.1 + 1, w.2.1, w.2.2.1 - 1, w.2.2.2) ∧ w.1 ≤ 210 ∧ 0 < w.2.2.1 ∧ w.2.2.1 ≤ 8 := ⟨(lkP S v.1, nI (lkP S v.1), v.2.2), rfl, by unfold clM; rw [if_pos q49, if_neg q58], by show lkP S v.1 ≤ 210; omega, by show 0 < v.2.2.1; omega, by show v.2.2.1 ≤ 8; omega⟩
          refine R.heap hw0 ?_
          refine r_aload_n dX9_unit_65 rfl rfl ?_
          refine r_dup dX9_unit_66 rfl ?_
          refine r_getI dX9_unit_67 lf_X9_218 rfl rfl ?_
          rw [show sI (txM S w) (fid 9 48) 2000 = nI w.1 from tx_48]
          refine r_iconst (v := 1) dX9_unit_70 (by decide) ?_
          refine r_iadd dX9_unit_71 ?_
          refine r_putI dX9_unit_72 (lp_X9_218 _) rfl rfl ?_
          rw [nI_1, tx_s48]
          refine r_aload_n dX9_unit_75 rfl rfl ?_
          refine r_dup dX9_unit_76 rfl ?_
          refine r_getI dX9_unit_77 lf_X9_230 rfl rfl ?_
          rw [show sI (txM S (w.1 + 1, w.2)) (fid 9 50) 2000 = nI w.2.2.1 from tx_50]
          refine r_iconst (v := 1) dX9_unit_80 (by decide) ?_
          refine r_isub dX9_unit_81 ?_
          refine r_putI dX9_unit_82 (lp_X9_230 _) rfl rfl ?_
          rw [nI_m1 (by omega) (by omega), tx_s50]
          exact r_vret dX9_unit_85 rfl (Nat.zero_le _) (Nat.zero_le _) ⟨rfl, ⟨clM S v, n41 + 1, (prM_0b hbr).mpr ⟨v, hv, rfl⟩, by rw [hcl]⟩⟩
