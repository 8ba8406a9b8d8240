/-! ===== the system: the verdict ===== -/
abbrev VT : Type := Int32 × Int32 × Int32 × Int32 × Int32
def setV (S : HS) (v : VT) : HS := setI (setI (setI (setI (setI S (fid 6 0) 16 v.1) (fid 6 1) 16 v.2.1) (fid 6 2) 16 v.2.2.1) (fid 6 3) 16 v.2.2.2.1) (fid 6 4) 16 v.2.2.2.2
theorem setV_0 (S : HS) (v : VT) (x : Int32) : setI (setV S v) (fid 6 0) 16 x = setV S (x, v.2.1, v.2.2.1, v.2.2.2.1, v.2.2.2.2) := by
  unfold setV
  rw [setI_comm _ _ _ (show fid 6 4 ≠ fid 6 0 by decide), setI_comm _ _ _ (show fid 6 3 ≠ fid 6 0 by decide), setI_comm _ _ _ (show fid 6 2 ≠ fid 6 0 by decide), setI_comm _ _ _ (show fid 6 1 ≠ fid 6 0 by decide), setI_setI]
theorem setV_1 (S : HS) (v : VT) (x : Int32) : setI (setV S v) (fid 6 1) 16 x = setV S (v.1, x, v.2.2.1, v.2.2.2.1, v.2.2.2.2) := by
  unfold setV
  rw [setI_comm _ _ _ (show fid 6 4 ≠ fid 6 1 by decide), setI_comm _ _ _ (show fid 6 3 ≠ fid 6 1 by decide), setI_comm _ _ _ (show fid 6 2 ≠ fid 6 1 by decide), setI_setI]
theorem setV_2 (S : HS) (v : VT) (x : Int32) : setI (setV S v) (fid 6 2) 16 x = setV S (v.1, v.2.1, x, v.2.2.2.1, v.2.2.2.2) := by
  unfold setV
  rw [setI_comm _ _ _ (show fid 6 4 ≠ fid 6 2 by decide), setI_comm _ _ _ (show fid 6 3 ≠ fid 6 2 by decide), setI_setI]
theorem setV_3 (S : HS) (v : VT) (x : Int32) : setI (setV S v) (fid 6 3) 16 x = setV S (v.1, v.2.1, v.2.2.1, x, v.2.2.2.2) := by
  unfold setV
  rw [setI_comm _ _ _ (show fid 6 4 ≠ fid 6 3 by decide), setI_setI]
theorem setV_4 (S : HS) (v : VT) (x : Int32) : setI (setV S v) (fid 6 4) 16 x = setV S (v.1, v.2.1, v.2.2.1, v.2.2.2.1, x) := by
  unfold setV
  rw [setI_setI]
def mF (S : HS) (o : Nat) (w a : Int32) : Int32 := if a.toInt = 97 then w - sI S (fid 2 0) o else if a.toInt = 99 then sI S (fid 2 7) o else if a.toInt = 112 then sI S (fid 2 6) o else if a.toInt = 115 then sI S (fid 2 8) o else if a.toInt = 119 then sI S (fid 2 9) o else 0
def vComp (m : Int32) (v : VT) : Int32 := if v.2.2.2.1.toInt = 60 then b2i (m.toInt < v.2.2.2.2.toInt) else if v.2.2.2.1.toInt = 61 then b2i (m.toInt = v.2.2.2.2.toInt) else b2i (v.2.2.2.2.toInt < m.toInt)
def vAdd (h : Int32) (v : VT) : VT := if h = 0 then (v.1, v.2.1 &&& (-2), v.2.2.1, v.2.2.2.1, v.2.2.2.2) else v
def vPart (v : VT) : VT := (v.1 ||| (v.2.1 &&& 1), v.2.1 ||| 1, v.2.2.1, v.2.2.2.1, v.2.2.2.2)
def ush1 (x : Int32) : Int32 := (x.toUInt32 >>> ((1 : Int32).toUInt32 &&& Int32.toUInt32 31)).toInt32
def vBr (v : VT) : VT := vAdd (b2i ((vPart v).1 &&& 1 = 1)) (ush1 (vPart v).1, ush1 (vPart v).2.1, v.2.2.1, v.2.2.2.1, v.2.2.2.2)
def vEnd (m : Int32 → Int32) (v : VT) : VT := if v.2.2.1 = 0 then v else ((vAdd (vComp (m v.2.2.1) v) v).1, (vAdd (vComp (m v.2.2.1) v) v).2.1, 0, (vAdd (vComp (m v.2.2.1) v) v).2.2.2.1, (vAdd (vComp (m v.2.2.1) v) v).2.2.2.2)
def vRead (m : Int32 → Int32) (n : Int32) (v : VT) : VT := if 48 ≤ n.toInt ∧ n.toInt ≤ 57 then (v.1, v.2.1, v.2.2.1, v.2.2.2.1, v.2.2.2.2 * 10 + (n - 48)) else if n.toInt = 32 then v else if n.toInt = 38 then vEnd m v else if n.toInt = 40 then (v.1 <<< ((1 : Int32) &&& 31), v.2.1 <<< ((1 : Int32) &&& 31) ||| 1, v.2.2.1, v.2.2.2.1, v.2.2.2.2) else if n.toInt = 41 then vBr (vEnd m v) else if n.toInt = 60 ∨ n.toInt = 61 ∨ n.toInt = 62 then (v.1, v.2.1, v.2.2.1, n, 0) else if n.toInt = 124 then vPart (vEnd m v) else (v.1, v.2.1, n, v.2.2.2.1, v.2.2.2.2)
def vRun (m : Int32 → Int32) (row : Nat → Int32) (v : VT) : Nat → VT
  | 0 => v
  | i + 1 => vRead m (row i) (vRun m row v i)
theorem vComp_01 (m : Int32) (v : VT) : vComp m v = 0 ∨ vComp m v = 1 := by unfold vComp; split <;> (try split) <;> exact b2i_01
set_option maxHeartbeats 4000000 in
theorem c_X6_compares {l : Launch} {G : va_G} {cy : Nat → ClassId} (m : Int32) (v : VT) (S : HS) : Cn l G cy yX6_compares cX6_compares 2 (some .boolean) 0 [.ref 16, .int m] (setV S v) 0 0 (qI (fun r S2 => r = vComp m v ∧ S2 = setV S v)) := by
  refine Cn.of [some (.ref 16), some (.int m)] (by decide) rfl (Nat.le_of_ble_eq_true rfl) ?_
  refine r_aload_n dX6_compares_0 rfl rfl ?_
  refine r_getI dX6_compares_1 lf_X6_51 rfl rfl ?_
  change R l G cy yX6_compares cX6_compares 2 (some .boolean) 0 0 0 _ 4 _ [.int v.2.2.2.1] _ 0 0
  by_cases e4_60 : (v.2.2.2.1).toInt = 60
  · refine r_lookup (off := 42) 46 dX6_compares_4 (by decide) (by simp [Op.lookupswitch.offset, e4_60]) (by decide) ?_
    refine r_iload_n dX6_compares_46 rfl rfl ?_
    refine r_aload_n dX6_compares_47 rfl rfl ?_
    refine r_getI dX6_compares_48 lf_X6_45 rfl rfl ?_
    change R l G cy yX6_compares cX6_compares 2 (some .boolean) 0 0 0 _ 51 _ [.int v.2.2.2.2, .int m] _ 0 0
    refine r_icmp_ge 58 dX6_compares_51 (by decide) (fun q51 => ?_) (fun q51 => ?_)
    · skip
      refine r_iconst (v := 0) dX6_compares_58 (by decide) ?_
      exact r_zret dX6_compares_59 rfl rfl (Nat.zero_le _) (Nat.zero_le _) ⟨_, rfl, by unfold vComp; rw [if_pos (by omega)]; first | exact ⟨(b2i_t (by (try simp only [b2i_eq0, b2i_ne0, decide_eq_true_eq] at *); (try simp only [cI, sI_setA, sI_setQ, sI_setR, sA_setI, sA_setR, sA_setQ, fa_lt, fa_le, fa_eq, Int32.reduceToInt] at *); omega)).symm, rfl⟩ | exact ⟨(b2i_f (by (try simp only [b2i_eq0, b2i_ne0, decide_eq_true_eq] at *); (try simp only [cI, sI_setA, sI_setQ, sI_setR, sA_setI, sA_setR, sA_setQ, fa_lt, fa_le, fa_eq, Int32.reduceToInt] at *); omega)).symm, rfl⟩⟩
    · skip
      refine r_iconst (v := 1) dX6_compares_54 (by decide) ?_
      refine r_goto 59 dX6_compares_55 (by decide) ?_
      exact r_zret dX6_compares_59 rfl rfl (Nat.zero_le _) (Nat.zero_le _) ⟨_, rfl, by unfold vComp; rw [if_pos (by omega)]; first | exact ⟨(b2i_t (by (try simp only [b2i_eq0, b2i_ne0, decide_eq_true_eq] at *); (try simp only [cI, sI_setA, sI_setQ, sI_setR, sA_setI, sA_setR, sA_setQ, fa_lt, fa_le, fa_eq, Int32.reduceToInt] at *); omega)).symm, rfl⟩ | exact ⟨(b2i_f (by (try simp only [b2i_eq0, b2i_ne0, decide_eq_true_eq] at *); (try simp only [cI, sI_setA, sI_setQ, sI_setR, sA_setI, sA_setR, sA_setQ, fa_lt, fa_le, fa_eq, Int32.reduceToInt] at *); omega)).symm, rfl⟩⟩
  by_cases e4_61 : (v.2.2.2.1).toInt = 61
  · refine r_lookup (off := 28) 32 dX6_compares_4 (by decide) (by simp [Op.lookupswitch.offset, e4_61]) (by decide) ?_
    refine r_iload_n dX6_compares_32 rfl rfl ?_
    refine r_aload_n dX6_compares_33 rfl rfl ?_
    refine r_getI dX6_compares_34 lf_X6_45 rfl rfl ?_
    change R l G cy yX6_compares cX6_compares 2 (some .boolean) 0 0 0 _ 37 _ [.int v.2.2.2.2, .int m] _ 0 0
    refine r_icmp_ne 44 dX6_compares_37 (by decide) (fun q37 => ?_) (fun q37 => ?_)
    · skip
      refine r_iconst (v := 0) dX6_compares_44 (by decide) ?_
      exact r_zret dX6_compares_45 rfl rfl (Nat.zero_le _) (Nat.zero_le _) ⟨_, rfl, by unfold vComp; rw [if_neg (by omega), if_pos (by omega)]; first | exact ⟨(b2i_t (by (try simp only [b2i_eq0, b2i_ne0, decide_eq_true_eq] at *); (try simp only [cI, sI_setA, sI_setQ, sI_setR, sA_setI, sA_setR, sA_setQ, fa_lt, fa_le, fa_eq, Int32.reduceToInt] at *); omega)).symm, rfl⟩ | exact ⟨(b2i_f (by (try simp only [b2i_eq0, b2i_ne0, decide_eq_true_eq] at *); (try simp only [cI, sI_setA, sI_setQ, sI_setR, sA_setI, sA_setR, sA_setQ, fa_lt, fa_le, fa_eq, Int32.reduceToInt] at *); omega)).symm, rfl⟩⟩
    · skip
      refine r_iconst (v := 1) dX6_compares_40 (by decide) ?_
      refine r_goto 45 dX6_compares_41 (by decide) ?_
      exact r_zret dX6_compares_45 rfl rfl (Nat.zero_le _) (Nat.zero_le _) ⟨_, rfl, by unfold vComp; rw [if_neg (by omega), if_pos (by omega)]; first | exact ⟨(b2i_t (by (try simp only [b2i_eq0, b2i_ne0, decide_eq_true_eq] at *); (try simp only [cI, sI_setA, sI_setQ, sI_setR, sA_setI, sA_setR, sA_setQ, fa_lt, fa_le, fa_eq, Int32.reduceToInt] at *); omega)).symm, rfl⟩ | exact ⟨(b2i_f (by (try simp only [b2i_eq0, b2i_ne0, decide_eq_true_eq] at *); (try simp only [cI, sI_setA, sI_setQ, sI_setR, sA_setI, sA_setR, sA_setQ, fa_lt, fa_le, fa_eq, Int32.reduceToInt] at *); omega)).symm, rfl⟩⟩
  have f4_60 : ¬ (60 : Int) = (v.2.2.2.1).toInt := fun h => e4_60 h.symm
  have f4_61 : ¬ (61 : Int) = (v.2.2.2.1).toInt := fun h => e4_61 h.symm
  refine r_lookup (off := 56) 60 dX6_compares_4 (by decide) (by simp [Op.lookupswitch.offset, f4_60, f4_61]) (by decide) ?_
  refine r_iload_n dX6_compares_60 rfl rfl ?_
  refine r_aload_n dX6_compares_61 rfl rfl ?_
  refine r_getI dX6_compares_62 lf_X6_45 rfl rfl ?_
  change R l G cy yX6_compares cX6_compares 2 (some .boolean) 0 0 0 _ 65 _ [.int v.2.2.2.2, .int m] _ 0 0
  refine r_icmp_le 72 dX6_compares_65 (by decide) (fun q65 => ?_) (fun q65 => ?_)
  · skip
    refine r_iconst (v := 0) dX6_compares_72 (by decide) ?_
    exact r_zret dX6_compares_73 rfl rfl (Nat.zero_le _) (Nat.zero_le _) ⟨_, rfl, by unfold vComp; rw [if_neg (by omega), if_neg (by omega)]; first | exact ⟨(b2i_t (by (try simp only [b2i_eq0, b2i_ne0, decide_eq_true_eq] at *); (try simp only [cI, sI_setA, sI_setQ, sI_setR, sA_setI, sA_setR, sA_setQ, fa_lt, fa_le, fa_eq, Int32.reduceToInt] at *); omega)).symm, rfl⟩ | exact ⟨(b2i_f (by (try simp only [b2i_eq0, b2i_ne0, decide_eq_true_eq] at *); (try simp only [cI, sI_setA, sI_setQ, sI_setR, sA_setI, sA_setR, sA_setQ, fa_lt, fa_le, fa_eq, Int32.reduceToInt] at *); omega)).symm, rfl⟩⟩
  · skip
    refine r_iconst (v := 1) dX6_compares_68 (by decide) ?_
    refine r_goto 73 dX6_compares_69 (by decide) ?_
    exact r_zret dX6_compares_73 rfl rfl (Nat.zero_le _) (Nat.zero_le _) ⟨_, rfl, by unfold vComp; rw [if_neg (by omega), if_neg (by omega)]; first | exact ⟨(b2i_t (by (try simp only [b2i_eq0, b2i_ne0, decide_eq_true_eq] at *); (try simp only [cI, sI_setA, sI_setQ, sI_setR, sA_setI, sA_setR, sA_setQ, fa_lt, fa_le, fa_eq, Int32.reduceToInt] at *); omega)).symm, rfl⟩ | exact ⟨(b2i_f (by (try simp only [b2i_eq0, b2i_ne0, decide_eq_true_eq] at *); (try simp only [cI, sI_setA, sI_setQ, sI_setR, sA_setI, sA_setR, sA_setQ, fa_lt, fa_le, fa_eq, Int32.reduceToInt] at *); omega)).symm, rfl⟩⟩
set_option maxHeartbeats 4000000 in
theorem c_X6_addUnit {l : Launch} {G : va_G} {cy : Nat → ClassId} (x : Int32) (v : VT) (S : HS) : Cn l G cy yX6_addUnit cX6_addUnit 2 none 0 [.ref 16, .int x] (setV S v) 0 0 (qV (fun S2 => S2 = setV S (vAdd x v))) := by
  refine Cn.of [some (.ref 16), some (.int x)] (by decide) rfl (Nat.le_of_ble_eq_true rfl) ?_
  refine r_iload_n dX6_addUnit_0 rfl rfl ?_
  refine r_if_ne 15 dX6_addUnit_1 (by decide) (fun q1 => ?_) (fun q1 => ?_)
  · skip
    exact r_vret dX6_addUnit_15 rfl (Nat.zero_le _) (Nat.zero_le _) ⟨rfl, by unfold vAdd; first | (rw [if_neg (by assumption)]; done) | (rw [if_pos (by assumption)]; (simp only [setV_0, setV_1, setV_2, setV_3, setV_4]); (try rfl))⟩
  · skip
    refine r_aload_n dX6_addUnit_4 rfl rfl ?_
    refine r_aload_n dX6_addUnit_5 rfl rfl ?_
    refine r_getI dX6_addUnit_6 lf_X6_13 rfl rfl ?_
    refine r_bipush (v := (-2)) dX6_addUnit_9 (by decide) ?_
    refine r_iand dX6_addUnit_11 ?_
    refine r_putI dX6_addUnit_12 (lp_X6_13 _) rfl rfl ?_
    exact r_vret dX6_addUnit_15 rfl (Nat.zero_le _) (Nat.zero_le _) ⟨rfl, by unfold vAdd; first | (rw [if_neg (by assumption)]; done) | (rw [if_pos (by assumption)]; (simp only [setV_0, setV_1, setV_2, setV_3, setV_4]); (try rfl))⟩
set_option maxHeartbeats 4000000 in
theorem c_X6_endPart {l : Launch} {G : va_G} {cy : Nat → ClassId} (v : VT) (S : HS) : Cn l G cy yX6_endPart cX6_endPart 1 none 0 [.ref 16] (setV S v) 0 0 (qV (fun S2 => S2 = setV S (vPart v))) := by
  refine Cn.of [some (.ref 16)] (by decide) rfl (Nat.le_of_ble_eq_true rfl) ?_
  refine r_aload_n dX6_endPart_0 rfl rfl ?_
  refine r_aload_n dX6_endPart_1 rfl rfl ?_
  refine r_getI dX6_endPart_2 lf_X6_7 rfl rfl ?_
  refine r_aload_n dX6_endPart_5 rfl rfl ?_
  refine r_getI dX6_endPart_6 lf_X6_13 rfl rfl ?_
  refine r_iconst (v := 1) dX6_endPart_9 (by decide) ?_
  refine r_iand dX6_endPart_10 ?_
  refine r_ior dX6_endPart_11 ?_
  refine r_putI dX6_endPart_12 (lp_X6_7 _) rfl rfl ?_
  refine r_aload_n dX6_endPart_15 rfl rfl ?_
  refine r_aload_n dX6_endPart_16 rfl rfl ?_
  refine r_getI dX6_endPart_17 lf_X6_13 rfl rfl ?_
  refine r_iconst (v := 1) dX6_endPart_20 (by decide) ?_
  refine r_ior dX6_endPart_21 ?_
  refine r_putI dX6_endPart_22 (lp_X6_13 _) rfl rfl ?_
  exact r_vret dX6_endPart_25 rfl (Nat.zero_le _) (Nat.zero_le _) ⟨rfl, by unfold vPart; (simp only [setV_0, setV_1, setV_2, setV_3, setV_4]); (try rfl)⟩
set_option maxHeartbeats 4000000 in
theorem c_X6_endBracket {l : Launch} {G : va_G} {cy : Nat → ClassId} (v : VT) (S : HS) : Cn l G cy yX6_endBracket cX6_endBracket 2 none 1 [.ref 16] (setV S v) 0 0 (qV (fun S2 => S2 = setV S (vBr v))) := by
  refine Cn.of [some (.ref 16), none] (by decide) rfl (Nat.le_of_ble_eq_true rfl) ?_
  refine r_aload_n dX6_endBracket_0 rfl rfl ?_
  refine r_invV0v dX6_endBracket_1 lm_X6_36 rfl (c_X6_endPart _ _) (Nat.le_of_ble_eq_true rfl) (Nat.le_of_ble_eq_true rfl) (Nat.zero_le _) (Nat.zero_le _) (fun S1 hq1 => ?_)
  replace hq1 := hq1.symm
  subst hq1
  refine r_aload_n dX6_endBracket_4 rfl rfl ?_
  refine r_getI dX6_endBracket_5 lf_X6_7 rfl rfl ?_
  refine r_iconst (v := 1) dX6_endBracket_8 (by decide) ?_
  refine r_iand dX6_endBracket_9 ?_
  refine r_iconst (v := 1) dX6_endBracket_10 (by decide) ?_
  change R l G cy yX6_endBracket cX6_endBracket 2 none 1 0 0 _ 11 _ [.int 1, .int ((vPart v).1 &&& 1)] _ 0 0
  refine r_icmp_ne 18 dX6_endBracket_11 (by decide) (fun q11 => ?_) (fun q11 => ?_)
  · skip
    refine r_iconst (v := 0) dX6_endBracket_18 (by decide) ?_
    refine r_ist1 dX6_endBracket_19 (Nat.le_of_ble_eq_true rfl) rfl ?_
    refine r_aload_n dX6_endBracket_20 rfl rfl ?_
    refine r_aload_n dX6_endBracket_21 rfl rfl ?_
    refine r_getI dX6_endBracket_22 lf_X6_7 rfl rfl ?_
    refine r_iconst (v := 1) dX6_endBracket_25 (by decide) ?_
    refine r_iushr dX6_endBracket_26 ?_
    refine r_putI dX6_endBracket_27 (lp_X6_7 _) rfl rfl ?_
    refine r_aload_n dX6_endBracket_30 rfl rfl ?_
    refine r_aload_n dX6_endBracket_31 rfl rfl ?_
    refine r_getI dX6_endBracket_32 lf_X6_13 rfl rfl ?_
    refine r_iconst (v := 1) dX6_endBracket_35 (by decide) ?_
    refine r_iushr dX6_endBracket_36 ?_
    refine r_putI dX6_endBracket_37 (lp_X6_13 _) rfl rfl ?_
    refine r_aload_n dX6_endBracket_40 rfl rfl ?_
    refine r_iload_n dX6_endBracket_41 rfl rfl ?_
    rw [show setI (setI (setV S (vPart v)) (fid 6 0) 16 _) (fid 6 1) 16 _ = setV S (ush1 (vPart v).1, ush1 (vPart v).2.1, v.2.2.1, v.2.2.2.1, v.2.2.2.2) from by rw [setV_0, setV_1]; rfl]
    refine r_invV1v dX6_endBracket_42 lm_X6_63 rfl (c_X6_addUnit _ (ush1 (vPart v).1, ush1 (vPart v).2.1, v.2.2.1, v.2.2.2.1, v.2.2.2.2) S) (Nat.le_of_ble_eq_true rfl) (Nat.le_of_ble_eq_true rfl) (Nat.zero_le _) (Nat.zero_le _) (fun S42 hq42 => ?_)
    replace hq42 := hq42.symm
    subst hq42
    exact r_vret dX6_endBracket_45 rfl (Nat.zero_le _) (Nat.zero_le _) ⟨rfl, by unfold vBr; first | rw [b2i_t (by assumption)] | rw [b2i_f (by assumption)]⟩
  · skip
    refine r_iconst (v := 1) dX6_endBracket_14 (by decide) ?_
    refine r_goto 19 dX6_endBracket_15 (by decide) ?_
    refine r_ist1 dX6_endBracket_19 (Nat.le_of_ble_eq_true rfl) rfl ?_
    refine r_aload_n dX6_endBracket_20 rfl rfl ?_
    refine r_aload_n dX6_endBracket_21 rfl rfl ?_
    refine r_getI dX6_endBracket_22 lf_X6_7 rfl rfl ?_
    refine r_iconst (v := 1) dX6_endBracket_25 (by decide) ?_
    refine r_iushr dX6_endBracket_26 ?_
    refine r_putI dX6_endBracket_27 (lp_X6_7 _) rfl rfl ?_
    refine r_aload_n dX6_endBracket_30 rfl rfl ?_
    refine r_aload_n dX6_endBracket_31 rfl rfl ?_
    refine r_getI dX6_endBracket_32 lf_X6_13 rfl rfl ?_
    refine r_iconst (v := 1) dX6_endBracket_35 (by decide) ?_
    refine r_iushr dX6_endBracket_36 ?_
    refine r_putI dX6_endBracket_37 (lp_X6_13 _) rfl rfl ?_
    refine r_aload_n dX6_endBracket_40 rfl rfl ?_
    refine r_iload_n dX6_endBracket_41 rfl rfl ?_
    rw [show setI (setI (setV S (vPart v)) (fid 6 0) 16 _) (fid 6 1) 16 _ = setV S (ush1 (vPart v).1, ush1 (vPart v).2.1, v.2.2.1, v.2.2.2.1, v.2.2.2.2) from by rw [setV_0, setV_1]; rfl]
    refine r_invV1v dX6_endBracket_42 lm_X6_63 rfl (c_X6_addUnit _ (ush1 (vPart v).1, ush1 (vPart v).2.1, v.2.2.1, v.2.2.2.1, v.2.2.2.2) S) (Nat.le_of_ble_eq_true rfl) (Nat.le_of_ble_eq_true rfl) (Nat.zero_le _) (Nat.zero_le _) (fun S42 hq42 => ?_)
    replace hq42 := hq42.symm
    subst hq42
    exact r_vret dX6_endBracket_45 rfl (Nat.zero_le _) (Nat.zero_le _) ⟨rfl, by unfold vBr; first | rw [b2i_t (by assumption)] | rw [b2i_f (by assumption)]⟩
set_option maxHeartbeats 4000000 in
theorem c_X6_endComparison {l : Launch} {G : va_G} {cy : Nat → ClassId} (o : Nat) (w : Int32) (v : VT) (S : HS) (hk : tk o = 2) : Cn l G cy yX6_endComparison cX6_endComparison 3 none 1 [.ref 16, .ref o, .int w] (setV S v) 0 0 (qV (fun S2 => S2 = setV S (vEnd (mF S o w) v))) := by
  refine Cn.of [some (.ref 16), some (.ref o), some (.int w)] (by decide) rfl (Nat.le_of_ble_eq_true rfl) ?_
  refine r_aload_n dX6_endComparison_0 rfl rfl ?_
  refine r_getI dX6_endComparison_1 lf_X6_16 rfl rfl ?_
  change R l G cy yX6_endComparison cX6_endComparison 3 none 1 0 0 _ 4 _ [.int v.2.2.1] _ 0 0
  refine r_if_eq 29 dX6_endComparison_4 (by decide) (fun q4 => ?_) (fun q4 => ?_)
  · skip
    exact r_vret dX6_endComparison_29 rfl (Nat.zero_le _) (Nat.zero_le _) ⟨rfl, by unfold vEnd; first | (rw [if_pos (by assumption)]; done) | (rw [if_neg (by assumption), setV_2]; done)⟩
  · skip
    refine r_aload_n dX6_endComparison_7 rfl rfl ?_
    refine r_aload_n dX6_endComparison_8 rfl rfl ?_
    refine r_aload_n dX6_endComparison_9 rfl rfl ?_
    refine r_aload_n dX6_endComparison_10 rfl rfl ?_
    refine r_getI dX6_endComparison_11 lf_X6_16 rfl rfl ?_
    refine r_iload_n dX6_endComparison_14 rfl rfl ?_
    refine r_invV2i dX6_endComparison_15 lm_X6_54 hk (c_X2_measure _ _ _ _ hk) (Nat.le_of_ble_eq_true rfl) (Nat.le_of_ble_eq_true rfl) (Nat.zero_le _) (Nat.zero_le _) (fun r15 S15 hq15 => ?_)
    obtain ⟨hr15, hz15⟩ := hq15
    replace hz15 := hz15.symm
    subst hz15
    replace hr15 : r15 = mF S o w v.2.2.1 := hr15
    subst hr15
    refine r_invV1i dX6_endComparison_18 lm_X6_60 rfl (c_X6_compares _ _ _) (Nat.le_of_ble_eq_true rfl) (Nat.le_of_ble_eq_true rfl) (Nat.zero_le _) (Nat.zero_le _) (fun r18 S18 hq18 => ?_)
    obtain ⟨rfl, hz18⟩ := hq18
    replace hz18 := hz18.symm
    subst hz18
    refine r_invV1v dX6_endComparison_21 lm_X6_63 rfl (c_X6_addUnit _ _ _) (Nat.le_of_ble_eq_true rfl) (Nat.le_of_ble_eq_true rfl) (Nat.zero_le _) (Nat.zero_le _) (fun S21 hq21 => ?_)
    replace hq21 := hq21.symm
    subst hq21
    refine r_aload_n dX6_endComparison_24 rfl rfl ?_
    refine r_iconst (v := 0) dX6_endComparison_25 (by decide) ?_
    refine r_putI dX6_endComparison_26 (lp_X6_16 _) rfl rfl ?_
    exact r_vret dX6_endComparison_29 rfl (Nat.zero_le _) (Nat.zero_le _) ⟨rfl, by unfold vEnd; first | (rw [if_pos (by assumption)]; done) | (rw [if_neg (by assumption), setV_2]; done)⟩
set_option maxHeartbeats 4000000 in
theorem c_X6_read {l : Launch} {G : va_G} {cy : Nat → ClassId} (o : Nat) (n w : Int32) (v : VT) (S : HS) (hk : tk o = 2) : Cn l G cy yX6_read cX6_read 4 none 2 [.ref 16, .int n, .ref o, .int w] (setV S v) 0 0 (qV (fun S2 => S2 = setV S (vRead (mF S o w) n v))) := by
  refine Cn.of [some (.ref 16), some (.int n), some (.ref o), some (.int w)] (by decide) rfl (Nat.le_of_ble_eq_true rfl) ?_
  refine r_iload_n dX6_read_0 rfl rfl ?_
  refine r_invS1i dX6_read_1 lm_X6_39 (c_X1_isDigit _ _) (Nat.le_of_ble_eq_true rfl) (Nat.le_of_ble_eq_true rfl) (Nat.zero_le _) (Nat.zero_le _) (fun r1 S1 hq1 => ?_)
  obtain ⟨rfl, hz1⟩ := hq1
  replace hz1 := hz1.symm
  subst hz1
  refine r_if_eq 24 dX6_read_4 (by decide) (fun q4 => ?_) (fun q4 => ?_)
  · skip
    refine r_iload_n dX6_read_24 rfl rfl ?_
    have hnd : ¬ (48 ≤ n.toInt ∧ n.toInt ≤ 57) := (by (try simp only [b2i_eq0, b2i_ne0, decide_eq_true_eq] at *); (try simp only [cI, sI_setA, sI_setQ, sI_setR, sA_setI, sA_setR, sA_setQ, fa_lt, fa_le, fa_eq, Int32.reduceToInt] at *); omega)
    by_cases e25_32 : (n).toInt = 32
    · refine r_lookup (off := 75) 100 dX6_read_25 (by decide) (by simp [Op.lookupswitch.offset, e25_32]) (by decide) ?_
      refine r_goto 181 dX6_read_100 (by decide) ?_
      exact r_vret dX6_read_181 rfl (Nat.zero_le _) (Nat.zero_le _) ⟨rfl, by unfold vRead; rw [if_neg hnd]; first | (rw [if_pos (by omega)]; done) | (rw [if_neg (by omega), if_pos (by omega)]; done) | (rw [if_neg (by omega), if_neg (by omega), if_pos (by omega)]; (simp only [setV_0, setV_1, setV_2, setV_3, setV_4]); (try rfl); done) | (rw [if_neg (by omega), if_neg (by omega), if_neg (by omega), if_pos (by omega)]; done) | (rw [if_neg (by omega), if_neg (by omega), if_neg (by omega), if_neg (by omega), if_pos (by omega)]; (simp only [setV_0, setV_1, setV_2, setV_3, setV_4]); (try rfl); done) | (rw [if_neg (by omega), if_neg (by omega), if_neg (by omega), if_neg (by omega), if_neg (by omega), if_pos (by omega)]; done) | (rw [if_neg (by omega), if_neg (by omega), if_neg (by omega), if_neg (by omega), if_neg (by omega), if_neg (by omega)]; (simp only [setV_0, setV_1, setV_2, setV_3, setV_4]); (try rfl); done)⟩
    by_cases e25_38 : (n).toInt = 38
    · refine r_lookup (off := 116) 141 dX6_read_25 (by decide) (by simp [Op.lookupswitch.offset, e25_38]) (by decide) ?_
      refine r_aload_n dX6_read_141 rfl rfl ?_
      refine r_aload_n dX6_read_142 rfl rfl ?_
      refine r_iload_n dX6_read_143 rfl rfl ?_
      refine r_invV2v dX6_read_144 lm_X6_32 rfl (c_X6_endComparison _ _ _ _ hk) (Nat.le_of_ble_eq_true rfl) (Nat.le_of_ble_eq_true rfl) (Nat.zero_le _) (Nat.zero_le _) (fun S144 hq144 => ?_)
      replace hq144 := hq144.symm
      subst hq144
      refine r_goto 181 dX6_read_147 (by decide) ?_
      exact r_vret dX6_read_181 rfl (Nat.zero_le _) (Nat.zero_le _) ⟨rfl, by unfold vRead; rw [if_neg hnd]; first | (rw [if_pos (by omega)]; done) | (rw [if_neg (by omega), if_pos (by omega)]; done) | (rw [if_neg (by omega), if_neg (by omega), if_pos (by omega)]; (simp only [setV_0, setV_1, setV_2, setV_3, setV_4]); (try rfl); done) | (rw [if_neg (by omega), if_neg (by omega), if_neg (by omega), if_pos (by omega)]; done) | (rw [if_neg (by omega), if_neg (by omega), if_neg (by omega), if_neg (by omega), if_pos (by omega)]; (simp only [setV_0, setV_1, setV_2, setV_3, setV_4]); (try rfl); done) | (rw [if_neg (by omega), if_neg (by omega), if_neg (by omega), if_neg (by omega), if_neg (by omega), if_pos (by omega)]; done) | (rw [if_neg (by omega), if_neg (by omega), if_neg (by omega), if_neg (by omega), if_neg (by omega), if_neg (by omega)]; (simp only [setV_0, setV_1, setV_2, setV_3, setV_4]); (try rfl); done)⟩
    by_cases e25_40 : (n).toInt = 40
    · refine r_lookup (off := 78) 103 dX6_read_25 (by decide) (by simp [Op.lookupswitch.offset, e25_40]) (by decide) ?_
      refine r_aload_n dX6_read_103 rfl rfl ?_
      refine r_aload_n dX6_read_104 rfl rfl ?_
      refine r_getI dX6_read_105 lf_X6_7 rfl rfl ?_
      refine r_iconst (v := 1) dX6_read_108 (by decide) ?_
      refine r_ishl dX6_read_109 ?_
      refine r_putI dX6_read_110 (lp_X6_7 _) rfl rfl ?_
      refine r_aload_n dX6_read_113 rfl rfl ?_
      refine r_aload_n dX6_read_114 rfl rfl ?_
      refine r_getI dX6_read_115 lf_X6_13 rfl rfl ?_
      refine r_iconst (v := 1) dX6_read_118 (by decide) ?_
      refine r_ishl dX6_read_119 ?_
      refine r_iconst (v := 1) dX6_read_120 (by decide) ?_
      refine r_ior dX6_read_121 ?_
      refine r_putI dX6_read_122 (lp_X6_13 _) rfl rfl ?_
      refine r_goto 181 dX6_read_125 (by decide) ?_
      exact r_vret dX6_read_181 rfl (Nat.zero_le _) (Nat.zero_le _) ⟨rfl, by unfold vRead; rw [if_neg hnd]; first | (rw [if_pos (by omega)]; done) | (rw [if_neg (by omega), if_pos (by omega)]; done) | (rw [if_neg (by omega), if_neg (by omega), if_pos (by omega)]; (simp only [setV_0, setV_1, setV_2, setV_3, setV_4]); (try rfl); done) | (rw [if_neg (by omega), if_neg (by omega), if_neg (by omega), if_pos (by omega)]; done) | (rw [if_neg (by omega), if_neg (by omega), if_neg (by omega), if_neg (by omega), if_pos (by omega)]; (simp only [setV_0, setV_1, setV_2, setV_3, setV_4]); (try rfl); done) | (rw [if_neg (by omega), if_neg (by omega), if_neg (by omega), if_neg (by omega), if_neg (by omega), if_pos (by omega)]; done) | (rw [if_neg (by omega), if_neg (by omega), if_neg (by omega), if_neg (by omega), if_neg (by omega), if_neg (by omega)]; (simp only [setV_0, setV_1, setV_2, setV_3, setV_4]); (try rfl); done)⟩
    by_cases e25_41 : (n).toInt = 41
    · refine r_lookup (off := 103) 128 dX6_read_25 (by decide) (by simp [Op.lookupswitch.offset, e25_41]) (by decide) ?_
      refine r_aload_n dX6_read_128 rfl rfl ?_
      refine r_aload_n dX6_read_129 rfl rfl ?_
      refine r_iload_n dX6_read_130 rfl rfl ?_
      refine r_invV2v dX6_read_131 lm_X6_32 rfl (c_X6_endComparison _ _ _ _ hk) (Nat.le_of_ble_eq_true rfl) (Nat.le_of_ble_eq_true rfl) (Nat.zero_le _) (Nat.zero_le _) (fun S131 hq131 => ?_)
      replace hq131 := hq131.symm
      subst hq131
      refine r_aload_n dX6_read_134 rfl rfl ?_
      refine r_invV0v dX6_read_135 lm_X6_48 rfl (c_X6_endBracket _ _) (Nat.le_of_ble_eq_true rfl) (Nat.le_of_ble_eq_true rfl) (Nat.zero_le _) (Nat.zero_le _) (fun S135 hq135 => ?_)
      replace hq135 := hq135.symm
      subst hq135
      refine r_goto 181 dX6_read_138 (by decide) ?_
      exact r_vret dX6_read_181 rfl (Nat.zero_le _) (Nat.zero_le _) ⟨rfl, by unfold vRead; rw [if_neg hnd]; first | (rw [if_pos (by omega)]; done) | (rw [if_neg (by omega), if_pos (by omega)]; done) | (rw [if_neg (by omega), if_neg (by omega), if_pos (by omega)]; (simp only [setV_0, setV_1, setV_2, setV_3, setV_4]); (try rfl); done) | (rw [if_neg (by omega), if_neg (by omega), if_neg (by omega), if_pos (by omega)]; done) | (rw [if_neg (by omega), if_neg (by omega), if_neg (by omega), if_neg (by omega), if_pos (by omega)]; (simp only [setV_0, setV_1, setV_2, setV_3, setV_4]); (try rfl); done) | (rw [if_neg (by omega), if_neg (by omega), if_neg (by omega), if_neg (by omega), if_neg (by omega), if_pos (by omega)]; done) | (rw [if_neg (by omega), if_neg (by omega), if_neg (by omega), if_neg (by omega), if_neg (by omega), if_neg (by omega)]; (simp only [setV_0, setV_1, setV_2, setV_3, setV_4]); (try rfl); done)⟩
    by_cases e25_60 : (n).toInt = 60
    · refine r_lookup (off := 138) 163 dX6_read_25 (by decide) (by simp [Op.lookupswitch.offset, e25_60]) (by decide) ?_
      refine r_aload_n dX6_read_163 rfl rfl ?_
      refine r_iload_n dX6_read_164 rfl rfl ?_
      refine r_putI dX6_read_165 (lp_X6_51 _) rfl rfl ?_
      refine r_aload_n dX6_read_168 rfl rfl ?_
      refine r_iconst (v := 0) dX6_read_169 (by decide) ?_
      refine r_putI dX6_read_170 (lp_X6_45 _) rfl rfl ?_
      refine r_goto 181 dX6_read_173 (by decide) ?_
      exact r_vret dX6_read_181 rfl (Nat.zero_le _) (Nat.zero_le _) ⟨rfl, by unfold vRead; rw [if_neg hnd]; first | (rw [if_pos (by omega)]; done) | (rw [if_neg (by omega), if_pos (by omega)]; done) | (rw [if_neg (by omega), if_neg (by omega), if_pos (by omega)]; (simp only [setV_0, setV_1, setV_2, setV_3, setV_4]); (try rfl); done) | (rw [if_neg (by omega), if_neg (by omega), if_neg (by omega), if_pos (by omega)]; done) | (rw [if_neg (by omega), if_neg (by omega), if_neg (by omega), if_neg (by omega), if_pos (by omega)]; (simp only [setV_0, setV_1, setV_2, setV_3, setV_4]); (try rfl); done) | (rw [if_neg (by omega), if_neg (by omega), if_neg (by omega), if_neg (by omega), if_neg (by omega), if_pos (by omega)]; done) | (rw [if_neg (by omega), if_neg (by omega), if_neg (by omega), if_neg (by omega), if_neg (by omega), if_neg (by omega)]; (simp only [setV_0, setV_1, setV_2, setV_3, setV_4]); (try rfl); done)⟩
    by_cases e25_61 : (n).toInt = 61
    · refine r_lookup (off := 138) 163 dX6_read_25 (by decide) (by simp [Op.lookupswitch.offset, e25_61]) (by decide) ?_
      refine r_aload_n dX6_read_163 rfl rfl ?_
      refine r_iload_n dX6_read_164 rfl rfl ?_
      refine r_putI dX6_read_165 (lp_X6_51 _) rfl rfl ?_
      refine r_aload_n dX6_read_168 rfl rfl ?_
      refine r_iconst (v := 0) dX6_read_169 (by decide) ?_
      refine r_putI dX6_read_170 (lp_X6_45 _) rfl rfl ?_
      refine r_goto 181 dX6_read_173 (by decide) ?_
      exact r_vret dX6_read_181 rfl (Nat.zero_le _) (Nat.zero_le _) ⟨rfl, by unfold vRead; rw [if_neg hnd]; first | (rw [if_pos (by omega)]; done) | (rw [if_neg (by omega), if_pos (by omega)]; done) | (rw [if_neg (by omega), if_neg (by omega), if_pos (by omega)]; (simp only [setV_0, setV_1, setV_2, setV_3, setV_4]); (try rfl); done) | (rw [if_neg (by omega), if_neg (by omega), if_neg (by omega), if_pos (by omega)]; done) | (rw [if_neg (by omega), if_neg (by omega), if_neg (by omega), if_neg (by omega), if_pos (by omega)]; (simp only [setV_0, setV_1, setV_2, setV_3, setV_4]); (try rfl); done) | (rw [if_neg (by omega), if_neg (by omega), if_neg (by omega), if_neg (by omega), if_neg (by omega), if_pos (by omega)]; done) | (rw [if_neg (by omega), if_neg (by omega), if_neg (by omega), if_neg (by omega), if_neg (by omega), if_neg (by omega)]; (simp only [setV_0, setV_1, setV_2, setV_3, setV_4]); (try rfl); done)⟩
    by_cases e25_62 : (n).toInt = 62
    · refine r_lookup (off := 138) 163 dX6_read_25 (by decide) (by simp [Op.lookupswitch.offset, e25_62]) (by decide) ?_
      refine r_aload_n dX6_read_163 rfl rfl ?_
      refine r_iload_n dX6_read_164 rfl rfl ?_
      refine r_putI dX6_read_165 (lp_X6_51 _) rfl rfl ?_
      refine r_aload_n dX6_read_168 rfl rfl ?_
      refine r_iconst (v := 0) dX6_read_169 (by decide) ?_
      refine r_putI dX6_read_170 (lp_X6_45 _) rfl rfl ?_
      refine r_goto 181 dX6_read_173 (by decide) ?_
      exact r_vret dX6_read_181 rfl (Nat.zero_le _) (Nat.zero_le _) ⟨rfl, by unfold vRead; rw [if_neg hnd]; first | (rw [if_pos (by omega)]; done) | (rw [if_neg (by omega), if_pos (by omega)]; done) | (rw [if_neg (by omega), if_neg (by omega), if_pos (by omega)]; (simp only [setV_0, setV_1, setV_2, setV_3, setV_4]); (try rfl); done) | (rw [if_neg (by omega), if_neg (by omega), if_neg (by omega), if_pos (by omega)]; done) | (rw [if_neg (by omega), if_neg (by omega), if_neg (by omega), if_neg (by omega), if_pos (by omega)]; (simp only [setV_0, setV_1, setV_2, setV_3, setV_4]); (try rfl); done) | (rw [if_neg (by omega), if_neg (by omega), if_neg (by omega), if_neg (by omega), if_neg (by omega), if_pos (by omega)]; done) | (rw [if_neg (by omega), if_neg (by omega), if_neg (by omega), if_neg (by omega), if_neg (by omega), if_neg (by omega)]; (simp only [setV_0, setV_1, setV_2, setV_3, setV_4]); (try rfl); done)⟩
    by_cases e25_124 : (n).toInt = 124
    · refine r_lookup (off := 125) 150 dX6_read_25 (by decide) (by simp [Op.lookupswitch.offset, e25_124]) (by decide) ?_
      refine r_aload_n dX6_read_150 rfl rfl ?_
      refine r_aload_n dX6_read_151 rfl rfl ?_
      refine r_iload_n dX6_read_152 rfl rfl ?_
      refine r_invV2v dX6_read_153 lm_X6_32 rfl (c_X6_endComparison _ _ _ _ hk) (Nat.le_of_ble_eq_true rfl) (Nat.le_of_ble_eq_true rfl) (Nat.zero_le _) (Nat.zero_le _) (fun S153 hq153 => ?_)
      replace hq153 := hq153.symm
      subst hq153
      refine r_aload_n dX6_read_156 rfl rfl ?_
      refine r_invV0v dX6_read_157 lm_X6_36 rfl (c_X6_endPart _ _) (Nat.le_of_ble_eq_true rfl) (Nat.le_of_ble_eq_true rfl) (Nat.zero_le _) (Nat.zero_le _) (fun S157 hq157 => ?_)
      replace hq157 := hq157.symm
      subst hq157
      refine r_goto 181 dX6_read_160 (by decide) ?_
      exact r_vret dX6_read_181 rfl (Nat.zero_le _) (Nat.zero_le _) ⟨rfl, by unfold vRead; rw [if_neg hnd]; first | (rw [if_pos (by omega)]; done) | (rw [if_neg (by omega), if_pos (by omega)]; done) | (rw [if_neg (by omega), if_neg (by omega), if_pos (by omega)]; (simp only [setV_0, setV_1, setV_2, setV_3, setV_4]); (try rfl); done) | (rw [if_neg (by omega), if_neg (by omega), if_neg (by omega), if_pos (by omega)]; done) | (rw [if_neg (by omega), if_neg (by omega), if_neg (by omega), if_neg (by omega), if_pos (by omega)]; (simp only [setV_0, setV_1, setV_2, setV_3, setV_4]); (try rfl); done) | (rw [if_neg (by omega), if_neg (by omega), if_neg (by omega), if_neg (by omega), if_neg (by omega), if_pos (by omega)]; done) | (rw [if_neg (by omega), if_neg (by omega), if_neg (by omega), if_neg (by omega), if_neg (by omega), if_neg (by omega)]; (simp only [setV_0, setV_1, setV_2, setV_3, setV_4]); (try rfl); done)⟩
    have f25_32 : ¬ (32 : Int) = (n).toInt := fun h => e25_32 h.symm
    have f25_38 : ¬ (38 : Int) = (n).toInt := fun h => e25_38 h.symm
    have f25_40 : ¬ (40 : Int) = (n).toInt := fun h => e25_40 h.symm
    have f25_41 : ¬ (41 : Int) = (n).toInt := fun h => e25_41 h.symm
    have f25_60 : ¬ (60 : Int) = (n).toInt := fun h => e25_60 h.symm
    have f25_61 : ¬ (61 : Int) = (n).toInt := fun h => e25_61 h.symm
    have f25_62 : ¬ (62 : Int) = (n).toInt := fun h => e25_62 h.symm
    have f25_124 : ¬ (124 : Int) = (n).toInt := fun h => e25_124 h.symm
    refine r_lookup (off := 151) 176 dX6_read_25 (by decide) (by simp [Op.lookupswitch.offset, f25_32, f25_38, f25_40, f25_41, f25_60, f25_61, f25_62, f25_124]) (by decide) ?_
    refine r_aload_n dX6_read_176 rfl rfl ?_
    refine r_iload_n dX6_read_177 rfl rfl ?_
    refine r_putI dX6_read_178 (lp_X6_16 _) rfl rfl ?_
    exact r_vret dX6_read_181 rfl (Nat.zero_le _) (Nat.zero_le _) ⟨rfl, by unfold vRead; rw [if_neg hnd]; first | (rw [if_pos (by omega)]; done) | (rw [if_neg (by omega), if_pos (by omega)]; done) | (rw [if_neg (by omega), if_neg (by omega), if_pos (by omega)]; (simp only [setV_0, setV_1, setV_2, setV_3, setV_4]); (try rfl); done) | (rw [if_neg (by omega), if_neg (by omega), if_neg (by omega), if_pos (by omega)]; done) | (rw [if_neg (by omega), if_neg (by omega), if_neg (by omega), if_neg (by omega), if_pos (by omega)]; (simp only [setV_0, setV_1, setV_2, setV_3, setV_4]); (try rfl); done) | (rw [if_neg (by omega), if_neg (by omega), if_neg (by omega), if_neg (by omega), if_neg (by omega), if_pos (by omega)]; done) | (rw [if_neg (by omega), if_neg (by omega), if_neg (by omega), if_neg (by omega), if_neg (by omega), if_neg (by omega)]; (simp only [setV_0, setV_1, setV_2, setV_3, setV_4]); (try rfl); done)⟩
  · skip
    refine r_aload_n dX6_read_7 rfl rfl ?_
    refine r_aload_n dX6_read_8 rfl rfl ?_
    refine r_getI dX6_read_9 lf_X6_45 rfl rfl ?_
    refine r_bipush (v := 10) dX6_read_12 (by decide) ?_
    refine r_imul dX6_read_14 ?_
    refine r_iload_n dX6_read_15 rfl rfl ?_
    refine r_bipush (v := 48) dX6_read_16 (by decide) ?_
    refine r_isub dX6_read_18 ?_
    refine r_iadd dX6_read_19 ?_
    refine r_putI dX6_read_20 (lp_X6_45 _) rfl rfl ?_
    exact r_vret dX6_read_23 rfl (Nat.zero_le _) (Nat.zero_le _) ⟨rfl, by unfold vRead; rw [if_pos (by (try simp only [b2i_eq0, b2i_ne0, decide_eq_true_eq] at *); (try simp only [cI, sI_setA, sI_setQ, sI_setR, sA_setI, sA_setR, sA_setQ, fa_lt, fa_le, fa_eq, Int32.reduceToInt] at *); omega)]; (simp only [setV_0, setV_1, setV_2, setV_3, setV_4]); (try rfl)⟩
set_option maxHeartbeats 4000000 in
theorem c_X6_holds {l : Launch} {G : va_G} {cy : Nat → ClassId} (o ob q : Nat) (w : Int32) (S : HS) (hk : tk o = 5) (hr : sR S (fid 5 0) o = some ob) (hl : ob ∈ sL S) (hkb : tk ob = 10) (hnb : tn ob = 200) (hb : 0 ≤ (sI S (fid 5 1) o).toInt ∧ (sI S (fid 5 1) o).toInt ≤ 200) (hq : tk q = 2) : Cn l G cy yX6_holds cX6_holds 5 (some .boolean) 3 [.ref 16, .ref o, .ref q, .int w] S 0 0 (qI (fun r S2 => r = b2i ((vPart (vEnd (mF S q w) (vRun (mF S q w) (sA S ob) (0, 1, 0, sI S (fid 6 3) 16, sI S (fid 6 4) 16) (nn (sI S (fid 5 1) o))))).1 &&& 1 = 1) ∧ S2 = setV S (vPart (vEnd (mF S q w) (vRun (mF S q w) (sA S ob) (0, 1, 0, sI S (fid 6 3) 16, sI S (fid 6 4) 16) (nn (sI S (fid 5 1) o))))))) := by
  refine Cn.of [some (.ref 16), some (.ref o), some (.ref q), some (.int w), none] (by decide) rfl (Nat.le_of_ble_eq_true rfl) ?_
  refine r_aload_n dX6_holds_0 rfl rfl ?_
  refine r_iconst (v := 0) dX6_holds_1 (by decide) ?_
  refine r_putI dX6_holds_2 (lp_X6_7 _) rfl rfl ?_
  refine r_aload_n dX6_holds_5 rfl rfl ?_
  refine r_iconst (v := 1) dX6_holds_6 (by decide) ?_
  refine r_putI dX6_holds_7 (lp_X6_13 _) rfl rfl ?_
  refine r_aload_n dX6_holds_10 rfl rfl ?_
  refine r_iconst (v := 0) dX6_holds_11 (by decide) ?_
  refine r_putI dX6_holds_12 (lp_X6_16 _) rfl rfl ?_
  rw [show setI (setI (setI S (fid 6 0) 16 0) (fid 6 1) 16 1) (fid 6 2) 16 0 = setV S (0, 1, 0, sI S (fid 6 3) 16, sI S (fid 6 4) 16) from by unfold setV; rw [show setI (setI (setI (setI (setI S (fid 6 0) 16 0) (fid 6 1) 16 1) (fid 6 2) 16 0) (fid 6 3) 16 (sI S (fid 6 3) 16)) (fid 6 4) 16 (sI S (fid 6 4) 16) = setI (setI (setI S (fid 6 0) 16 0) (fid 6 1) 16 1) (fid 6 2) 16 0 from by rw [show sI S (fid 6 3) 16 = sI (setI (setI (setI S (fid 6 0) 16 0) (fid 6 1) 16 1) (fid 6 2) 16 0) (fid 6 3) 16 from rfl, setI_self, show sI S (fid 6 4) 16 = sI (setI (setI (setI S (fid 6 0) 16 0) (fid 6 1) 16 1) (fid 6 2) 16 0) (fid 6 4) 16 from rfl, setI_self]]]
  refine r_iconst (v := 0) dX6_holds_15 (by decide) ?_
  refine r_ist4 dX6_holds_16 (Nat.le_of_ble_eq_true rfl) rfl ?_
  refine R.for (α := Unit) (nn (sI S (fid 5 1) o)) (fun i a => [some (.ref 16), some (.ref o), some (.ref q), some (.int w), some (.int (nI i))]) (fun i a => (setV S (vRun (mF S q w) (sA S ob) (0, 1, 0, sI S (fid 6 3) 16, sI S (fid 6 4) 16) i))) (fun i a => True) ?_ ?_ 0 () (Nat.zero_le _) trivial
  · intro a hI
    have hnb2 := nn_int hb.1
    have hgl : ∀ x, sI (setV S x) (fid 5 1) o = sI S (fid 5 1) o := fun _ => rfl
    have hii : (nI (nn (sI S (fid 5 1) o))).toInt = ((nn (sI S (fid 5 1) o) : Nat) : Int) := nI_toInt (by omega)
    refine r_iload dX6_holds_18 rfl ?_
    refine r_aload_n dX6_holds_20 rfl rfl ?_
    refine r_getI dX6_holds_21 lf_X6_19 rfl hk ?_
    refine r_icmp_ge 45 dX6_holds_24 (by decide) (fun q24 => ?_) (fun q24 => ?_)
    · skip
      refine r_aload_n dX6_holds_45 rfl rfl ?_
      refine r_aload_n dX6_holds_46 rfl rfl ?_
      refine r_iload_n dX6_holds_47 rfl rfl ?_
      refine r_invV2v dX6_holds_48 lm_X6_32 rfl (c_X6_endComparison _ _ _ _ hq) (Nat.le_of_ble_eq_true rfl) (Nat.le_of_ble_eq_true rfl) (Nat.zero_le _) (Nat.zero_le _) (fun S48 hq48 => ?_)
      replace hq48 := hq48.symm
      subst hq48
      refine r_aload_n dX6_holds_51 rfl rfl ?_
      refine r_invV0v dX6_holds_52 lm_X6_36 rfl (c_X6_endPart _ _) (Nat.le_of_ble_eq_true rfl) (Nat.le_of_ble_eq_true rfl) (Nat.zero_le _) (Nat.zero_le _) (fun S52 hq52 => ?_)
      replace hq52 := hq52.symm
      subst hq52
      refine r_aload_n dX6_holds_55 rfl rfl ?_
      refine r_getI dX6_holds_56 lf_X6_7 rfl rfl ?_
      refine r_iconst (v := 1) dX6_holds_59 (by decide) ?_
      refine r_iand dX6_holds_60 ?_
      refine r_iconst (v := 1) dX6_holds_61 (by decide) ?_
      change R l G cy yX6_holds cX6_holds 5 (some .boolean) 3 0 0 _ 62 _ [.int 1, .int ((vPart (vEnd (mF S q w) (vRun (mF S q w) (sA S ob) (0, 1, 0, sI S (fid 6 3) 16, sI S (fid 6 4) 16) (nn (sI S (fid 5 1) o))))).1 &&& 1)] _ 0 0
      refine r_icmp_ne 69 dX6_holds_62 (by decide) (fun q62 => ?_) (fun q62 => ?_)
      · skip
        refine r_iconst (v := 0) dX6_holds_69 (by decide) ?_
        exact r_zret dX6_holds_70 rfl rfl (Nat.zero_le _) (Nat.zero_le _) ⟨_, rfl, ⟨by first | exact (b2i_t (by assumption)).symm | exact (b2i_f (by assumption)).symm, rfl⟩⟩
      · skip
        refine r_iconst (v := 1) dX6_holds_65 (by decide) ?_
        refine r_goto 70 dX6_holds_66 (by decide) ?_
        exact r_zret dX6_holds_70 rfl rfl (Nat.zero_le _) (Nat.zero_le _) ⟨_, rfl, ⟨by first | exact (b2i_t (by assumption)).symm | exact (b2i_f (by assumption)).symm, rfl⟩⟩
    · skip
      rw [hgl] at q24
      exact absurd q24 (by (try simp only [b2i_eq0, b2i_ne0, decide_eq_true_eq] at *); (try simp only [cI, sI_setA, sI_setQ, sI_setR, sA_setI, sA_setR, sA_setQ, fa_lt, fa_le, fa_eq, Int32.reduceToInt] at *); omega)
  · intro i a hi hI ih
    have hnb2 := nn_int hb.1
    have hgl : ∀ x, sI (setV S x) (fid 5 1) o = sI S (fid 5 1) o := fun _ => rfl
    have hii : (nI i).toInt = i := nI_toInt (by omega)
    have hic : (nI i).toNatClampNeg = i := nI_clamp (by omega)
    refine r_iload dX6_holds_18 rfl ?_
    refine r_aload_n dX6_holds_20 rfl rfl ?_
    refine r_getI dX6_holds_21 lf_X6_19 rfl hk ?_
    refine r_icmp_ge 45 dX6_holds_24 (by decide) (fun q24 => ?_) (fun q24 => ?_)
    · skip
      rw [hgl] at q24
      exact absurd q24 (by (try simp only [b2i_eq0, b2i_ne0, decide_eq_true_eq] at *); (try simp only [cI, sI_setA, sI_setQ, sI_setR, sA_setI, sA_setR, sA_setQ, fa_lt, fa_le, fa_eq, Int32.reduceToInt] at *); omega)
    · skip
      refine r_aload_n dX6_holds_27 rfl rfl ?_
      refine r_aload_n dX6_holds_28 rfl rfl ?_
      refine r_iload dX6_holds_29 rfl ?_
      refine r_invV1i dX6_holds_31 lm_X6_24 hk (c_X5_byteAt o ob _ _ hk hr hl hkb hnb) (Nat.le_of_ble_eq_true rfl) (Nat.le_of_ble_eq_true rfl) (Nat.zero_le _) (Nat.zero_le _) (fun r31 S31 hq31 => ?_)
      obtain ⟨rfl, hz31⟩ := hq31
      replace hz31 := hz31.symm
      subst hz31
      rw [show (if 0 ≤ (nI i).toInt ∧ (nI i).toInt < 200 then sA (setV S (vRun (mF S q w) (sA S ob) (0, 1, 0, sI S (fid 6 3) 16, sI S (fid 6 4) 16) i)) ob (nI i).toNatClampNeg else 0) = sA S ob i from by rw [if_pos (by omega), hic]; rfl]
      refine r_aload_n dX6_holds_34 rfl rfl ?_
      refine r_iload_n dX6_holds_35 rfl rfl ?_
      refine r_invV3v dX6_holds_36 lm_X6_28 rfl (c_X6_read _ _ _ _ _ hq) (Nat.le_of_ble_eq_true rfl) (Nat.le_of_ble_eq_true rfl) (Nat.zero_le _) (Nat.zero_le _) (fun S36 hq36 => ?_)
      replace hq36 := hq36.symm
      subst hq36
      refine r_in4 dX6_holds_39 (show _ + Int32.ofInt 1 = _ + 1 from rfl) (Nat.le_of_ble_eq_true rfl) rfl ?_
      refine r_goto 18 dX6_holds_42 (by decide) ?_
      rw [nI_1]
      exact ih () trivial
