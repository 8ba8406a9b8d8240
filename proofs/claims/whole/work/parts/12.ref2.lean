/-! ===== the reference: more small methods ===== -/
theorem ix8 {b h : Int32} (hb : 0 ≤ b.toInt ∧ b.toInt < 12) (hh : 0 ≤ h.toInt ∧ h.toInt ≤ 7) : (8 * b + h).toInt = 8 * b.toInt + h.toInt := by
  have e1 : (8 * b).toInt = 8 * b.toInt := by
    rw [fb_mulI] <;> simp only [Int32.reduceToInt] <;> omega
  rw [fb_addI] <;> rw [e1] <;> omega
/-- a choice by a number: the k-th of a list, else d -/
def sel (w : Int) (d : Int32) : List Int32 → Int32
  | [] => d
  | a :: r => if w = 0 then a else sel (w - 1) d r
theorem ix8in {b h : Int32} {n : Int} (hn : n ≤ 12) (hb : 0 ≤ b.toInt ∧ b.toInt < n) (hh : 0 ≤ h.toInt ∧ h.toInt ≤ 7) : vp_in (8 * b + h) 96 := by
  refine vp_in_iff.mpr ?_
  rw [ix8 (by omega) hh]
  omega
set_option maxHeartbeats 4000000 in
theorem c_X9_go {l : Launch} {G : va_G} {cy : Nat → ClassId} (a w : Int32) (S : HS) (h : ShM S) (hb : 0 ≤ (mI S 25).toInt ∧ (mI S 25).toInt ≤ 12) : Cn l G cy yX9_go cX9_go 3 (some .boolean) 2 [.ref 2000, .int a, .int w] S 0 0 (qI (fun r S2 => r = b2i (0 ≤ a.toInt ∧ a.toInt < (mI S 25).toInt ∧ -1 ≤ w.toInt ∧ w.toInt ≤ 35) ∧ S2 = if (0 ≤ a.toInt ∧ a.toInt < (mI S 25).toInt ∧ -1 ≤ w.toInt ∧ w.toInt ≤ 35) then setA S (ma 3) (upd (mA S 3) a.toNatClampNeg w) else S)) := by
  refine Cn.of [some (.ref 2000), some (.int a), some (.int w)] (by decide) rfl (Nat.le_of_ble_eq_true rfl) ?_
  refine r_aload_n dX9_go_0 rfl rfl ?_
  refine r_iload_n dX9_go_1 rfl rfl ?_
  refine r_invV1i dX9_go_2 lm_X9_136 rfl (c_X9_isBoat _ _ h hb) (Nat.le_of_ble_eq_true rfl) (Nat.le_of_ble_eq_true rfl) (Nat.zero_le _) (Nat.zero_le _) (fun r2 S2 hq2 => ?_)
  obtain ⟨rfl, hz2⟩ := hq2
  replace hz2 := hz2.symm
  subst hz2
  refine r_if_eq 18 dX9_go_5 (by decide) (fun q5 => ?_) (fun q5 => ?_)
  · skip
    refine r_iconst (v := 0) dX9_go_18 (by decide) ?_
    exact r_zret dX9_go_19 rfl rfl (Nat.zero_le _) (Nat.zero_le _) ⟨_, rfl, by first | exact ⟨(b2i_t (by (try simp only [b2i_eq0, b2i_ne0, decide_eq_true_eq] at *); (try simp only [mI, mA, sI_setA, sI_setQ, sI_setR, sA_setI, sA_setR, sA_setQ, fa_lt, fa_le, fa_eq, Int32.reduceToInt] at *); omega)).symm, (if_pos (by (try simp only [b2i_eq0, b2i_ne0, decide_eq_true_eq] at *); (try simp only [mI, mA, sI_setA, sI_setQ, sI_setR, sA_setI, sA_setR, sA_setQ, fa_lt, fa_le, fa_eq, Int32.reduceToInt] at *); omega)).symm⟩ | exact ⟨(b2i_f (by (try simp only [b2i_eq0, b2i_ne0, decide_eq_true_eq] at *); (try simp only [mI, mA, sI_setA, sI_setQ, sI_setR, sA_setI, sA_setR, sA_setQ, fa_lt, fa_le, fa_eq, Int32.reduceToInt] at *); omega)).symm, (if_neg (by (try simp only [b2i_eq0, b2i_ne0, decide_eq_true_eq] at *); (try simp only [mI, mA, sI_setA, sI_setQ, sI_setR, sA_setI, sA_setR, sA_setQ, fa_lt, fa_le, fa_eq, Int32.reduceToInt] at *); omega)).symm⟩⟩
  · skip
    refine r_iload_n dX9_go_8 rfl rfl ?_
    refine r_iconst (v := (-1)) dX9_go_9 (by decide) ?_
    refine r_bipush (v := 35) dX9_go_10 (by decide) ?_
    refine r_invS3i dX9_go_12 lm_X9_129 (c_X9_in _ _ _ _) (Nat.le_of_ble_eq_true rfl) (Nat.le_of_ble_eq_true rfl) (Nat.zero_le _) (Nat.zero_le _) (fun r12 S12 hq12 => ?_)
    obtain ⟨rfl, hz12⟩ := hq12
    replace hz12 := hz12.symm
    subst hz12
    refine r_if_ne 20 dX9_go_15 (by decide) (fun q15 => ?_) (fun q15 => ?_)
    · skip
      refine r_aload_n dX9_go_20 rfl rfl ?_
      refine r_getR dX9_go_21 lf_X9_20 rfl rfl (shM_R h (j := 3) rfl) (shM_L h (j := 3) rfl) ?_
      refine r_iload_n dX9_go_24 rfl rfl ?_
      refine r_iload_n dX9_go_25 rfl rfl ?_
      refine r_iast dX9_go_26 rfl (show vp_in _ 12 from vp_in_iff.mpr (by (try simp only [b2i_eq0, b2i_ne0, decide_eq_true_eq] at *); (try simp only [mI, mA, sI_setA, sI_setQ, sI_setR, sA_setI, sA_setR, sA_setQ, fa_lt, fa_le, fa_eq, Int32.reduceToInt] at *); omega)) ?_
      refine r_iconst (v := 1) dX9_go_27 (by decide) ?_
      exact r_zret dX9_go_28 rfl rfl (Nat.zero_le _) (Nat.zero_le _) ⟨_, rfl, by first | exact ⟨(b2i_t (by (try simp only [b2i_eq0, b2i_ne0, decide_eq_true_eq] at *); (try simp only [mI, mA, sI_setA, sI_setQ, sI_setR, sA_setI, sA_setR, sA_setQ, fa_lt, fa_le, fa_eq, Int32.reduceToInt] at *); omega)).symm, (if_pos (by (try simp only [b2i_eq0, b2i_ne0, decide_eq_true_eq] at *); (try simp only [mI, mA, sI_setA, sI_setQ, sI_setR, sA_setI, sA_setR, sA_setQ, fa_lt, fa_le, fa_eq, Int32.reduceToInt] at *); omega)).symm⟩ | exact ⟨(b2i_f (by (try simp only [b2i_eq0, b2i_ne0, decide_eq_true_eq] at *); (try simp only [mI, mA, sI_setA, sI_setQ, sI_setR, sA_setI, sA_setR, sA_setQ, fa_lt, fa_le, fa_eq, Int32.reduceToInt] at *); omega)).symm, (if_neg (by (try simp only [b2i_eq0, b2i_ne0, decide_eq_true_eq] at *); (try simp only [mI, mA, sI_setA, sI_setQ, sI_setR, sA_setI, sA_setR, sA_setQ, fa_lt, fa_le, fa_eq, Int32.reduceToInt] at *); omega)).symm⟩⟩
    · skip
      refine r_iconst (v := 0) dX9_go_18 (by decide) ?_
      exact r_zret dX9_go_19 rfl rfl (Nat.zero_le _) (Nat.zero_le _) ⟨_, rfl, by first | exact ⟨(b2i_t (by (try simp only [b2i_eq0, b2i_ne0, decide_eq_true_eq] at *); (try simp only [mI, mA, sI_setA, sI_setQ, sI_setR, sA_setI, sA_setR, sA_setQ, fa_lt, fa_le, fa_eq, Int32.reduceToInt] at *); omega)).symm, (if_pos (by (try simp only [b2i_eq0, b2i_ne0, decide_eq_true_eq] at *); (try simp only [mI, mA, sI_setA, sI_setQ, sI_setR, sA_setI, sA_setR, sA_setQ, fa_lt, fa_le, fa_eq, Int32.reduceToInt] at *); omega)).symm⟩ | exact ⟨(b2i_f (by (try simp only [b2i_eq0, b2i_ne0, decide_eq_true_eq] at *); (try simp only [mI, mA, sI_setA, sI_setQ, sI_setR, sA_setI, sA_setR, sA_setQ, fa_lt, fa_le, fa_eq, Int32.reduceToInt] at *); omega)).symm, (if_neg (by (try simp only [b2i_eq0, b2i_ne0, decide_eq_true_eq] at *); (try simp only [mI, mA, sI_setA, sI_setQ, sI_setR, sA_setI, sA_setR, sA_setQ, fa_lt, fa_le, fa_eq, Int32.reduceToInt] at *); omega)).symm⟩⟩
set_option maxHeartbeats 4000000 in
theorem c_X9_boat {l : Launch} {G : va_G} {cy : Nat → ClassId} (a : Int32) (S : HS) (h : ShM S) (hb : 0 ≤ (mI S 25).toInt ∧ (mI S 25).toInt ≤ 12) : Cn l G cy yX9_boat cX9_boat 2 (some .int) 1 [.ref 2000, .int a] S 0 0 (qI (fun r S2 => (r = if (¬ (mI S 25).toInt = 12 ∧ 0 ≤ a.toInt ∧ a.toInt ≤ 60) then mI S 25 + 1 - 1 else -1) ∧ S2 = if (¬ (mI S 25).toInt = 12 ∧ 0 ≤ a.toInt ∧ a.toInt ≤ 60) then setI (setA (setA S (ma 2) (upd (mA S 2) (mI S 25).toNatClampNeg a)) (ma 3) (upd (mA S 3) (mI S 25).toNatClampNeg (-1))) (fid 9 25) 2000 (mI S 25 + 1) else S)) := by
  refine Cn.of [some (.ref 2000), some (.int a)] (by decide) rfl (Nat.le_of_ble_eq_true rfl) ?_
  refine r_aload_n dX9_boat_0 rfl rfl ?_
  refine r_getI dX9_boat_1 lf_X9_126 rfl rfl ?_
  refine r_bipush (v := 12) dX9_boat_4 (by decide) ?_
  refine r_icmp_eq 19 dX9_boat_6 (by decide) (fun q6 => ?_) (fun q6 => ?_)
  · skip
    refine r_iconst (v := (-1)) dX9_boat_19 (by decide) ?_
    exact r_iret dX9_boat_20 rfl (Nat.zero_le _) (Nat.zero_le _) ⟨_, rfl, by first | exact ⟨(if_pos (by (try simp only [b2i_eq0, b2i_ne0, decide_eq_true_eq] at *); (try simp only [mI, mA, sI_setA, sI_setQ, sI_setR, sA_setI, sA_setR, sA_setQ, fa_lt, fa_le, fa_eq, Int32.reduceToInt] at *); omega)).symm, (if_pos (by (try simp only [b2i_eq0, b2i_ne0, decide_eq_true_eq] at *); (try simp only [mI, mA, sI_setA, sI_setQ, sI_setR, sA_setI, sA_setR, sA_setQ, fa_lt, fa_le, fa_eq, Int32.reduceToInt] at *); omega)).symm⟩ | exact ⟨(if_neg (by (try simp only [b2i_eq0, b2i_ne0, decide_eq_true_eq] at *); (try simp only [mI, mA, sI_setA, sI_setQ, sI_setR, sA_setI, sA_setR, sA_setQ, fa_lt, fa_le, fa_eq, Int32.reduceToInt] at *); omega)).symm, (if_neg (by (try simp only [b2i_eq0, b2i_ne0, decide_eq_true_eq] at *); (try simp only [mI, mA, sI_setA, sI_setQ, sI_setR, sA_setI, sA_setR, sA_setQ, fa_lt, fa_le, fa_eq, Int32.reduceToInt] at *); omega)).symm⟩⟩
  · skip
    refine r_iload_n dX9_boat_9 rfl rfl ?_
    refine r_iconst (v := 0) dX9_boat_10 (by decide) ?_
    refine r_bipush (v := 60) dX9_boat_11 (by decide) ?_
    refine r_invS3i dX9_boat_13 lm_X9_129 (c_X9_in _ _ _ _) (Nat.le_of_ble_eq_true rfl) (Nat.le_of_ble_eq_true rfl) (Nat.zero_le _) (Nat.zero_le _) (fun r13 S13 hq13 => ?_)
    obtain ⟨rfl, hz13⟩ := hq13
    replace hz13 := hz13.symm
    subst hz13
    refine r_if_ne 21 dX9_boat_16 (by decide) (fun q16 => ?_) (fun q16 => ?_)
    · skip
      refine r_aload_n dX9_boat_21 rfl rfl ?_
      refine r_getR dX9_boat_22 lf_X9_17 rfl rfl (shM_R h (j := 2) rfl) (shM_L h (j := 2) rfl) ?_
      refine r_aload_n dX9_boat_25 rfl rfl ?_
      refine r_getI dX9_boat_26 lf_X9_126 rfl rfl ?_
      refine r_iload_n dX9_boat_29 rfl rfl ?_
      refine r_iast dX9_boat_30 rfl (show vp_in _ 12 from vp_in_iff.mpr (by (try simp only [b2i_eq0, b2i_ne0, decide_eq_true_eq] at *); (try simp only [mI, mA, sI_setA, sI_setQ, sI_setR, sA_setI, sA_setR, sA_setQ, fa_lt, fa_le, fa_eq, Int32.reduceToInt] at *); omega)) ?_
      refine r_aload_n dX9_boat_31 rfl rfl ?_
      refine r_getR dX9_boat_32 lf_X9_20 rfl rfl (shM_R h (j := 3) rfl) (shM_L h (j := 3) rfl) ?_
      refine r_aload_n dX9_boat_35 rfl rfl ?_
      refine r_getI dX9_boat_36 lf_X9_126 rfl rfl ?_
      refine r_iconst (v := (-1)) dX9_boat_39 (by decide) ?_
      refine r_iast dX9_boat_40 rfl (show vp_in _ 12 from vp_in_iff.mpr (by (try simp only [b2i_eq0, b2i_ne0, decide_eq_true_eq] at *); (try simp only [mI, mA, sI_setA, sI_setQ, sI_setR, sA_setI, sA_setR, sA_setQ, fa_lt, fa_le, fa_eq, Int32.reduceToInt] at *); omega)) ?_
      refine r_aload_n dX9_boat_41 rfl rfl ?_
      refine r_dup dX9_boat_42 rfl ?_
      refine r_getI dX9_boat_43 lf_X9_126 rfl rfl ?_
      refine r_iconst (v := 1) dX9_boat_46 (by decide) ?_
      refine r_iadd dX9_boat_47 ?_
      refine r_putI dX9_boat_48 (lp_X9_126 _) rfl rfl ?_
      refine r_aload_n dX9_boat_51 rfl rfl ?_
      refine r_getI dX9_boat_52 lf_X9_126 rfl rfl ?_
      refine r_iconst (v := 1) dX9_boat_55 (by decide) ?_
      refine r_isub dX9_boat_56 ?_
      exact r_iret dX9_boat_57 rfl (Nat.zero_le _) (Nat.zero_le _) ⟨_, rfl, by first | exact ⟨(if_pos (by (try simp only [b2i_eq0, b2i_ne0, decide_eq_true_eq] at *); (try simp only [mI, mA, sI_setA, sI_setQ, sI_setR, sA_setI, sA_setR, sA_setQ, fa_lt, fa_le, fa_eq, Int32.reduceToInt] at *); omega)).symm, (if_pos (by (try simp only [b2i_eq0, b2i_ne0, decide_eq_true_eq] at *); (try simp only [mI, mA, sI_setA, sI_setQ, sI_setR, sA_setI, sA_setR, sA_setQ, fa_lt, fa_le, fa_eq, Int32.reduceToInt] at *); omega)).symm⟩ | exact ⟨(if_neg (by (try simp only [b2i_eq0, b2i_ne0, decide_eq_true_eq] at *); (try simp only [mI, mA, sI_setA, sI_setQ, sI_setR, sA_setI, sA_setR, sA_setQ, fa_lt, fa_le, fa_eq, Int32.reduceToInt] at *); omega)).symm, (if_neg (by (try simp only [b2i_eq0, b2i_ne0, decide_eq_true_eq] at *); (try simp only [mI, mA, sI_setA, sI_setQ, sI_setR, sA_setI, sA_setR, sA_setQ, fa_lt, fa_le, fa_eq, Int32.reduceToInt] at *); omega)).symm⟩⟩
    · skip
      refine r_iconst (v := (-1)) dX9_boat_19 (by decide) ?_
      exact r_iret dX9_boat_20 rfl (Nat.zero_le _) (Nat.zero_le _) ⟨_, rfl, by first | exact ⟨(if_pos (by (try simp only [b2i_eq0, b2i_ne0, decide_eq_true_eq] at *); (try simp only [mI, mA, sI_setA, sI_setQ, sI_setR, sA_setI, sA_setR, sA_setQ, fa_lt, fa_le, fa_eq, Int32.reduceToInt] at *); omega)).symm, (if_pos (by (try simp only [b2i_eq0, b2i_ne0, decide_eq_true_eq] at *); (try simp only [mI, mA, sI_setA, sI_setQ, sI_setR, sA_setI, sA_setR, sA_setQ, fa_lt, fa_le, fa_eq, Int32.reduceToInt] at *); omega)).symm⟩ | exact ⟨(if_neg (by (try simp only [b2i_eq0, b2i_ne0, decide_eq_true_eq] at *); (try simp only [mI, mA, sI_setA, sI_setQ, sI_setR, sA_setI, sA_setR, sA_setQ, fa_lt, fa_le, fa_eq, Int32.reduceToInt] at *); omega)).symm, (if_neg (by (try simp only [b2i_eq0, b2i_ne0, decide_eq_true_eq] at *); (try simp only [mI, mA, sI_setA, sI_setQ, sI_setR, sA_setI, sA_setR, sA_setQ, fa_lt, fa_le, fa_eq, Int32.reduceToInt] at *); omega)).symm⟩⟩
set_option maxHeartbeats 4000000 in
theorem c_X9_mend {l : Launch} {G : va_G} {cy : Nat → ClassId} (a w : Int32) (S : HS) (h : ShM S) (hb : 0 ≤ (mI S 25).toInt ∧ (mI S 25).toInt ≤ 12) : Cn l G cy yX9_mend cX9_mend 3 (some .int) 2 [.ref 2000, .int a, .int w] S 0 0 (qI (fun r S2 => (r = if (0 ≤ a.toInt ∧ a.toInt < (mI S 25).toInt ∧ 1 ≤ w.toInt ∧ w.toInt ≤ 60 ∧ (mA S 2 a.toNatClampNeg + w).toInt ≤ 60) then mA S 2 a.toNatClampNeg + w else -1) ∧ S2 = if (0 ≤ a.toInt ∧ a.toInt < (mI S 25).toInt ∧ 1 ≤ w.toInt ∧ w.toInt ≤ 60 ∧ (mA S 2 a.toNatClampNeg + w).toInt ≤ 60) then setA S (ma 2) (upd (mA S 2) a.toNatClampNeg (mA S 2 a.toNatClampNeg + w)) else S)) := by
  refine Cn.of [some (.ref 2000), some (.int a), some (.int w)] (by decide) rfl (Nat.le_of_ble_eq_true rfl) ?_
  refine r_aload_n dX9_mend_0 rfl rfl ?_
  refine r_iload_n dX9_mend_1 rfl rfl ?_
  refine r_invV1i dX9_mend_2 lm_X9_136 rfl (c_X9_isBoat _ _ h hb) (Nat.le_of_ble_eq_true rfl) (Nat.le_of_ble_eq_true rfl) (Nat.zero_le _) (Nat.zero_le _) (fun r2 S2 hq2 => ?_)
  obtain ⟨rfl, hz2⟩ := hq2
  replace hz2 := hz2.symm
  subst hz2
  refine r_if_eq 31 dX9_mend_5 (by decide) (fun q5 => ?_) (fun q5 => ?_)
  · skip
    refine r_iconst (v := (-1)) dX9_mend_31 (by decide) ?_
    exact r_iret dX9_mend_32 rfl (Nat.zero_le _) (Nat.zero_le _) ⟨_, rfl, by first | exact ⟨(if_pos (by (try simp only [b2i_eq0, b2i_ne0, decide_eq_true_eq] at *); (try simp only [mI, mA, sI_setA, sI_setQ, sI_setR, sA_setI, sA_setR, sA_setQ, fa_lt, fa_le, fa_eq, Int32.reduceToInt] at *); omega)).symm, (if_pos (by (try simp only [b2i_eq0, b2i_ne0, decide_eq_true_eq] at *); (try simp only [mI, mA, sI_setA, sI_setQ, sI_setR, sA_setI, sA_setR, sA_setQ, fa_lt, fa_le, fa_eq, Int32.reduceToInt] at *); omega)).symm⟩ | exact ⟨(if_neg (by (try simp only [b2i_eq0, b2i_ne0, decide_eq_true_eq] at *); (try simp only [mI, mA, sI_setA, sI_setQ, sI_setR, sA_setI, sA_setR, sA_setQ, fa_lt, fa_le, fa_eq, Int32.reduceToInt] at *); omega)).symm, (if_neg (by (try simp only [b2i_eq0, b2i_ne0, decide_eq_true_eq] at *); (try simp only [mI, mA, sI_setA, sI_setQ, sI_setR, sA_setI, sA_setR, sA_setQ, fa_lt, fa_le, fa_eq, Int32.reduceToInt] at *); omega)).symm⟩⟩
  · skip
    refine r_iload_n dX9_mend_8 rfl rfl ?_
    refine r_iconst (v := 1) dX9_mend_9 (by decide) ?_
    refine r_bipush (v := 60) dX9_mend_10 (by decide) ?_
    refine r_invS3i dX9_mend_12 lm_X9_129 (c_X9_in _ _ _ _) (Nat.le_of_ble_eq_true rfl) (Nat.le_of_ble_eq_true rfl) (Nat.zero_le _) (Nat.zero_le _) (fun r12 S12 hq12 => ?_)
    obtain ⟨rfl, hz12⟩ := hq12
    replace hz12 := hz12.symm
    subst hz12
    refine r_if_eq 31 dX9_mend_15 (by decide) (fun q15 => ?_) (fun q15 => ?_)
    · skip
      refine r_iconst (v := (-1)) dX9_mend_31 (by decide) ?_
      exact r_iret dX9_mend_32 rfl (Nat.zero_le _) (Nat.zero_le _) ⟨_, rfl, by first | exact ⟨(if_pos (by (try simp only [b2i_eq0, b2i_ne0, decide_eq_true_eq] at *); (try simp only [mI, mA, sI_setA, sI_setQ, sI_setR, sA_setI, sA_setR, sA_setQ, fa_lt, fa_le, fa_eq, Int32.reduceToInt] at *); omega)).symm, (if_pos (by (try simp only [b2i_eq0, b2i_ne0, decide_eq_true_eq] at *); (try simp only [mI, mA, sI_setA, sI_setQ, sI_setR, sA_setI, sA_setR, sA_setQ, fa_lt, fa_le, fa_eq, Int32.reduceToInt] at *); omega)).symm⟩ | exact ⟨(if_neg (by (try simp only [b2i_eq0, b2i_ne0, decide_eq_true_eq] at *); (try simp only [mI, mA, sI_setA, sI_setQ, sI_setR, sA_setI, sA_setR, sA_setQ, fa_lt, fa_le, fa_eq, Int32.reduceToInt] at *); omega)).symm, (if_neg (by (try simp only [b2i_eq0, b2i_ne0, decide_eq_true_eq] at *); (try simp only [mI, mA, sI_setA, sI_setQ, sI_setR, sA_setI, sA_setR, sA_setQ, fa_lt, fa_le, fa_eq, Int32.reduceToInt] at *); omega)).symm⟩⟩
    · skip
      refine r_aload_n dX9_mend_18 rfl rfl ?_
      refine r_getR dX9_mend_19 lf_X9_17 rfl rfl (shM_R h (j := 2) rfl) (shM_L h (j := 2) rfl) ?_
      refine r_iload_n dX9_mend_22 rfl rfl ?_
      refine r_iald dX9_mend_23 rfl (show vp_in _ 12 from vp_in_iff.mpr (by (try simp only [b2i_eq0, b2i_ne0, decide_eq_true_eq] at *); (try simp only [mI, mA, sI_setA, sI_setQ, sI_setR, sA_setI, sA_setR, sA_setQ, fa_lt, fa_le, fa_eq, Int32.reduceToInt] at *); omega)) ?_
      refine r_iload_n dX9_mend_24 rfl rfl ?_
      refine r_iadd dX9_mend_25 ?_
      refine r_bipush (v := 60) dX9_mend_26 (by decide) ?_
      refine r_icmp_le 33 dX9_mend_28 (by decide) (fun q28 => ?_) (fun q28 => ?_)
      · skip
        refine r_aload_n dX9_mend_33 rfl rfl ?_
        refine r_getR dX9_mend_34 lf_X9_17 rfl rfl (shM_R h (j := 2) rfl) (shM_L h (j := 2) rfl) ?_
        refine r_iload_n dX9_mend_37 rfl rfl ?_
        refine r_dup2 dX9_mend_38 rfl rfl ?_
        refine r_iald dX9_mend_39 rfl (show vp_in _ 12 from vp_in_iff.mpr (by (try simp only [b2i_eq0, b2i_ne0, decide_eq_true_eq] at *); (try simp only [mI, mA, sI_setA, sI_setQ, sI_setR, sA_setI, sA_setR, sA_setQ, fa_lt, fa_le, fa_eq, Int32.reduceToInt] at *); omega)) ?_
        refine r_iload_n dX9_mend_40 rfl rfl ?_
        refine r_iadd dX9_mend_41 ?_
        refine r_iast dX9_mend_42 rfl (show vp_in _ 12 from vp_in_iff.mpr (by (try simp only [b2i_eq0, b2i_ne0, decide_eq_true_eq] at *); (try simp only [mI, mA, sI_setA, sI_setQ, sI_setR, sA_setI, sA_setR, sA_setQ, fa_lt, fa_le, fa_eq, Int32.reduceToInt] at *); omega)) ?_
        refine r_aload_n dX9_mend_43 rfl rfl ?_
        refine r_getR dX9_mend_44 lf_X9_17 rfl rfl (shM_R h (j := 2) rfl) (shM_L h (j := 2) rfl) ?_
        refine r_iload_n dX9_mend_47 rfl rfl ?_
        refine r_iald dX9_mend_48 rfl (show vp_in _ 12 from vp_in_iff.mpr (by (try simp only [b2i_eq0, b2i_ne0, decide_eq_true_eq] at *); (try simp only [mI, mA, sI_setA, sI_setQ, sI_setR, sA_setI, sA_setR, sA_setQ, fa_lt, fa_le, fa_eq, Int32.reduceToInt] at *); omega)) ?_
        exact r_iret dX9_mend_49 rfl (Nat.zero_le _) (Nat.zero_le _) ⟨_, rfl, ⟨by rw [if_pos (by (try simp only [b2i_eq0, b2i_ne0, decide_eq_true_eq] at *); (try simp only [mI, mA, sI_setA, sI_setQ, sI_setR, sA_setI, sA_setR, sA_setQ, fa_lt, fa_le, fa_eq, Int32.reduceToInt] at *); omega), sA_setA, va_up_self, pk_us], (if_pos (by (try simp only [b2i_eq0, b2i_ne0, decide_eq_true_eq] at *); (try simp only [mI, mA, sI_setA, sI_setQ, sI_setR, sA_setI, sA_setR, sA_setQ, fa_lt, fa_le, fa_eq, Int32.reduceToInt] at *); omega)).symm⟩⟩
      · skip
        refine r_iconst (v := (-1)) dX9_mend_31 (by decide) ?_
        exact r_iret dX9_mend_32 rfl (Nat.zero_le _) (Nat.zero_le _) ⟨_, rfl, by first | exact ⟨(if_pos (by (try simp only [b2i_eq0, b2i_ne0, decide_eq_true_eq] at *); (try simp only [mI, mA, sI_setA, sI_setQ, sI_setR, sA_setI, sA_setR, sA_setQ, fa_lt, fa_le, fa_eq, Int32.reduceToInt] at *); omega)).symm, (if_pos (by (try simp only [b2i_eq0, b2i_ne0, decide_eq_true_eq] at *); (try simp only [mI, mA, sI_setA, sI_setQ, sI_setR, sA_setI, sA_setR, sA_setQ, fa_lt, fa_le, fa_eq, Int32.reduceToInt] at *); omega)).symm⟩ | exact ⟨(if_neg (by (try simp only [b2i_eq0, b2i_ne0, decide_eq_true_eq] at *); (try simp only [mI, mA, sI_setA, sI_setQ, sI_setR, sA_setI, sA_setR, sA_setQ, fa_lt, fa_le, fa_eq, Int32.reduceToInt] at *); omega)).symm, (if_neg (by (try simp only [b2i_eq0, b2i_ne0, decide_eq_true_eq] at *); (try simp only [mI, mA, sI_setA, sI_setQ, sI_setR, sA_setI, sA_setR, sA_setQ, fa_lt, fa_le, fa_eq, Int32.reduceToInt] at *); omega)).symm⟩⟩
set_option maxHeartbeats 4000000 in
theorem c_X9_yard {l : Launch} {G : va_G} {cy : Nat → ClassId} (a w : Int32) (S : HS) (h : ShM S) (hy : 0 ≤ (mI S 26).toInt ∧ (mI S 26).toInt ≤ 4) : Cn l G cy yX9_yard cX9_yard 3 (some .int) 1 [.ref 2000, .int a, .int w] S 0 0 (qI (fun r S2 => (r = if (¬ (mI S 26).toInt = 4 ∧ (1 ≤ a.toInt ∧ a.toInt ≤ 6) ∧ 1 ≤ w.toInt ∧ w.toInt ≤ 500) then mI S 26 + 1 - 1 else -1) ∧ S2 = if (¬ (mI S 26).toInt = 4 ∧ (1 ≤ a.toInt ∧ a.toInt ≤ 6) ∧ 1 ≤ w.toInt ∧ w.toInt ≤ 500) then setI (setA (setA S (ma 10) (upd (mA S 10) (mI S 26).toNatClampNeg a)) (ma 11) (upd (mA S 11) (mI S 26).toNatClampNeg w)) (fid 9 26) 2000 (mI S 26 + 1) else S)) := by
  refine Cn.of [some (.ref 2000), some (.int a), some (.int w)] (by decide) rfl (Nat.le_of_ble_eq_true rfl) ?_
  refine r_aload_n dX9_yard_0 rfl rfl ?_
  refine r_getI dX9_yard_1 lf_X9_140 rfl rfl ?_
  refine r_iconst (v := 4) dX9_yard_4 (by decide) ?_
  refine r_icmp_eq 29 dX9_yard_5 (by decide) (fun q5 => ?_) (fun q5 => ?_)
  · skip
    refine r_iconst (v := (-1)) dX9_yard_29 (by decide) ?_
    exact r_iret dX9_yard_30 rfl (Nat.zero_le _) (Nat.zero_le _) ⟨_, rfl, by first | exact ⟨(if_pos (by (try simp only [b2i_eq0, b2i_ne0, decide_eq_true_eq] at *); (try simp only [mI, mA, sI_setA, sI_setQ, sI_setR, sA_setI, sA_setR, sA_setQ, fa_lt, fa_le, fa_eq, Int32.reduceToInt] at *); omega)).symm, (if_pos (by (try simp only [b2i_eq0, b2i_ne0, decide_eq_true_eq] at *); (try simp only [mI, mA, sI_setA, sI_setQ, sI_setR, sA_setI, sA_setR, sA_setQ, fa_lt, fa_le, fa_eq, Int32.reduceToInt] at *); omega)).symm⟩ | exact ⟨(if_neg (by (try simp only [b2i_eq0, b2i_ne0, decide_eq_true_eq] at *); (try simp only [mI, mA, sI_setA, sI_setQ, sI_setR, sA_setI, sA_setR, sA_setQ, fa_lt, fa_le, fa_eq, Int32.reduceToInt] at *); omega)).symm, (if_neg (by (try simp only [b2i_eq0, b2i_ne0, decide_eq_true_eq] at *); (try simp only [mI, mA, sI_setA, sI_setQ, sI_setR, sA_setI, sA_setR, sA_setQ, fa_lt, fa_le, fa_eq, Int32.reduceToInt] at *); omega)).symm⟩⟩
  · skip
    refine r_iload_n dX9_yard_8 rfl rfl ?_
    refine r_iconst (v := 1) dX9_yard_9 (by decide) ?_
    refine r_bipush (v := 6) dX9_yard_10 (by decide) ?_
    refine r_invS3i dX9_yard_12 lm_X9_129 (c_X9_in _ _ _ _) (Nat.le_of_ble_eq_true rfl) (Nat.le_of_ble_eq_true rfl) (Nat.zero_le _) (Nat.zero_le _) (fun r12 S12 hq12 => ?_)
    obtain ⟨rfl, hz12⟩ := hq12
    replace hz12 := hz12.symm
    subst hz12
    refine r_if_eq 29 dX9_yard_15 (by decide) (fun q15 => ?_) (fun q15 => ?_)
    · skip
      refine r_iconst (v := (-1)) dX9_yard_29 (by decide) ?_
      exact r_iret dX9_yard_30 rfl (Nat.zero_le _) (Nat.zero_le _) ⟨_, rfl, by first | exact ⟨(if_pos (by (try simp only [b2i_eq0, b2i_ne0, decide_eq_true_eq] at *); (try simp only [mI, mA, sI_setA, sI_setQ, sI_setR, sA_setI, sA_setR, sA_setQ, fa_lt, fa_le, fa_eq, Int32.reduceToInt] at *); omega)).symm, (if_pos (by (try simp only [b2i_eq0, b2i_ne0, decide_eq_true_eq] at *); (try simp only [mI, mA, sI_setA, sI_setQ, sI_setR, sA_setI, sA_setR, sA_setQ, fa_lt, fa_le, fa_eq, Int32.reduceToInt] at *); omega)).symm⟩ | exact ⟨(if_neg (by (try simp only [b2i_eq0, b2i_ne0, decide_eq_true_eq] at *); (try simp only [mI, mA, sI_setA, sI_setQ, sI_setR, sA_setI, sA_setR, sA_setQ, fa_lt, fa_le, fa_eq, Int32.reduceToInt] at *); omega)).symm, (if_neg (by (try simp only [b2i_eq0, b2i_ne0, decide_eq_true_eq] at *); (try simp only [mI, mA, sI_setA, sI_setQ, sI_setR, sA_setI, sA_setR, sA_setQ, fa_lt, fa_le, fa_eq, Int32.reduceToInt] at *); omega)).symm⟩⟩
    · skip
      refine r_iload_n dX9_yard_18 rfl rfl ?_
      refine r_iconst (v := 1) dX9_yard_19 (by decide) ?_
      refine r_sipush (v := 500) dX9_yard_20 (by decide) ?_
      refine r_invS3i dX9_yard_23 lm_X9_129 (c_X9_in _ _ _ _) (Nat.le_of_ble_eq_true rfl) (Nat.le_of_ble_eq_true rfl) (Nat.zero_le _) (Nat.zero_le _) (fun r23 S23 hq23 => ?_)
      obtain ⟨rfl, hz23⟩ := hq23
      replace hz23 := hz23.symm
      subst hz23
      refine r_if_ne 31 dX9_yard_26 (by decide) (fun q26 => ?_) (fun q26 => ?_)
      · skip
        refine r_aload_n dX9_yard_31 rfl rfl ?_
        refine r_getR dX9_yard_32 lf_X9_41 rfl rfl (shM_R h (j := 10) rfl) (shM_L h (j := 10) rfl) ?_
        refine r_aload_n dX9_yard_35 rfl rfl ?_
        refine r_getI dX9_yard_36 lf_X9_140 rfl rfl ?_
        refine r_iload_n dX9_yard_39 rfl rfl ?_
        refine r_iast dX9_yard_40 rfl (show vp_in _ 4 from vp_in_iff.mpr (by (try simp only [b2i_eq0, b2i_ne0, decide_eq_true_eq] at *); (try simp only [mI, mA, sI_setA, sI_setQ, sI_setR, sA_setI, sA_setR, sA_setQ, fa_lt, fa_le, fa_eq, Int32.reduceToInt] at *); omega)) ?_
        refine r_aload_n dX9_yard_41 rfl rfl ?_
        refine r_getR dX9_yard_42 lf_X9_44 rfl rfl (shM_R h (j := 11) rfl) (shM_L h (j := 11) rfl) ?_
        refine r_aload_n dX9_yard_45 rfl rfl ?_
        refine r_getI dX9_yard_46 lf_X9_140 rfl rfl ?_
        refine r_iload_n dX9_yard_49 rfl rfl ?_
        refine r_iast dX9_yard_50 rfl (show vp_in _ 4 from vp_in_iff.mpr (by (try simp only [b2i_eq0, b2i_ne0, decide_eq_true_eq] at *); (try simp only [mI, mA, sI_setA, sI_setQ, sI_setR, sA_setI, sA_setR, sA_setQ, fa_lt, fa_le, fa_eq, Int32.reduceToInt] at *); omega)) ?_
        refine r_aload_n dX9_yard_51 rfl rfl ?_
        refine r_dup dX9_yard_52 rfl ?_
        refine r_getI dX9_yard_53 lf_X9_140 rfl rfl ?_
        refine r_iconst (v := 1) dX9_yard_56 (by decide) ?_
        refine r_iadd dX9_yard_57 ?_
        refine r_putI dX9_yard_58 (lp_X9_140 _) rfl rfl ?_
        refine r_aload_n dX9_yard_61 rfl rfl ?_
        refine r_getI dX9_yard_62 lf_X9_140 rfl rfl ?_
        refine r_iconst (v := 1) dX9_yard_65 (by decide) ?_
        refine r_isub dX9_yard_66 ?_
        exact r_iret dX9_yard_67 rfl (Nat.zero_le _) (Nat.zero_le _) ⟨_, rfl, by first | exact ⟨(if_pos (by (try simp only [b2i_eq0, b2i_ne0, decide_eq_true_eq] at *); (try simp only [mI, mA, sI_setA, sI_setQ, sI_setR, sA_setI, sA_setR, sA_setQ, fa_lt, fa_le, fa_eq, Int32.reduceToInt] at *); omega)).symm, (if_pos (by (try simp only [b2i_eq0, b2i_ne0, decide_eq_true_eq] at *); (try simp only [mI, mA, sI_setA, sI_setQ, sI_setR, sA_setI, sA_setR, sA_setQ, fa_lt, fa_le, fa_eq, Int32.reduceToInt] at *); omega)).symm⟩ | exact ⟨(if_neg (by (try simp only [b2i_eq0, b2i_ne0, decide_eq_true_eq] at *); (try simp only [mI, mA, sI_setA, sI_setQ, sI_setR, sA_setI, sA_setR, sA_setQ, fa_lt, fa_le, fa_eq, Int32.reduceToInt] at *); omega)).symm, (if_neg (by (try simp only [b2i_eq0, b2i_ne0, decide_eq_true_eq] at *); (try simp only [mI, mA, sI_setA, sI_setQ, sI_setR, sA_setI, sA_setR, sA_setQ, fa_lt, fa_le, fa_eq, Int32.reduceToInt] at *); omega)).symm⟩⟩
      · skip
        refine r_iconst (v := (-1)) dX9_yard_29 (by decide) ?_
        exact r_iret dX9_yard_30 rfl (Nat.zero_le _) (Nat.zero_le _) ⟨_, rfl, by first | exact ⟨(if_pos (by (try simp only [b2i_eq0, b2i_ne0, decide_eq_true_eq] at *); (try simp only [mI, mA, sI_setA, sI_setQ, sI_setR, sA_setI, sA_setR, sA_setQ, fa_lt, fa_le, fa_eq, Int32.reduceToInt] at *); omega)).symm, (if_pos (by (try simp only [b2i_eq0, b2i_ne0, decide_eq_true_eq] at *); (try simp only [mI, mA, sI_setA, sI_setQ, sI_setR, sA_setI, sA_setR, sA_setQ, fa_lt, fa_le, fa_eq, Int32.reduceToInt] at *); omega)).symm⟩ | exact ⟨(if_neg (by (try simp only [b2i_eq0, b2i_ne0, decide_eq_true_eq] at *); (try simp only [mI, mA, sI_setA, sI_setQ, sI_setR, sA_setI, sA_setR, sA_setQ, fa_lt, fa_le, fa_eq, Int32.reduceToInt] at *); omega)).symm, (if_neg (by (try simp only [b2i_eq0, b2i_ne0, decide_eq_true_eq] at *); (try simp only [mI, mA, sI_setA, sI_setQ, sI_setR, sA_setI, sA_setR, sA_setQ, fa_lt, fa_le, fa_eq, Int32.reduceToInt] at *); omega)).symm⟩⟩
set_option maxHeartbeats 4000000 in
theorem c_X9_bid {l : Launch} {G : va_G} {cy : Nat → ClassId} (a w : Int32) (S : HS) (h : ShM S) (hy : 0 ≤ (mI S 26).toInt ∧ (mI S 26).toInt ≤ 4) : Cn l G cy yX9_bid cX9_bid 3 (some .boolean) 1 [.ref 2000, .int a, .int w] S 0 0 (qI (fun r S2 => r = b2i (0 ≤ a.toInt ∧ a.toInt < (mI S 26).toInt ∧ 0 ≤ w.toInt ∧ w.toInt ≤ 100) ∧ S2 = if (0 ≤ a.toInt ∧ a.toInt < (mI S 26).toInt ∧ 0 ≤ w.toInt ∧ w.toInt ≤ 100) then setA S (ma 12) (upd (mA S 12) a.toNatClampNeg w) else S)) := by
  refine Cn.of [some (.ref 2000), some (.int a), some (.int w)] (by decide) rfl (Nat.le_of_ble_eq_true rfl) ?_
  have hy1 : (mI S 26 - 1).toInt = (mI S 26).toInt - 1 := by rw [fb_subI] <;> simp only [Int32.reduceToInt] <;> omega
  refine r_iload_n dX9_bid_0 rfl rfl ?_
  refine r_iconst (v := 0) dX9_bid_1 (by decide) ?_
  refine r_aload_n dX9_bid_2 rfl rfl ?_
  refine r_getI dX9_bid_3 lf_X9_140 rfl rfl ?_
  refine r_iconst (v := 1) dX9_bid_6 (by decide) ?_
  refine r_isub dX9_bid_7 ?_
  refine r_invS3i dX9_bid_8 lm_X9_129 (c_X9_in _ _ _ _) (Nat.le_of_ble_eq_true rfl) (Nat.le_of_ble_eq_true rfl) (Nat.zero_le _) (Nat.zero_le _) (fun r8 S8 hq8 => ?_)
  obtain ⟨rfl, hz8⟩ := hq8
  replace hz8 := hz8.symm
  subst hz8
  refine r_if_eq 24 dX9_bid_11 (by decide) (fun q11 => ?_) (fun q11 => ?_)
  · skip
    refine r_iconst (v := 0) dX9_bid_24 (by decide) ?_
    exact r_zret dX9_bid_25 rfl rfl (Nat.zero_le _) (Nat.zero_le _) ⟨_, rfl, by first | exact ⟨(b2i_t (by (try simp only [b2i_eq0, b2i_ne0, decide_eq_true_eq] at *); (try simp only [mI, mA, sI_setA, sI_setQ, sI_setR, sA_setI, sA_setR, sA_setQ, fa_lt, fa_le, fa_eq, Int32.reduceToInt] at *); omega)).symm, (if_pos (by (try simp only [b2i_eq0, b2i_ne0, decide_eq_true_eq] at *); (try simp only [mI, mA, sI_setA, sI_setQ, sI_setR, sA_setI, sA_setR, sA_setQ, fa_lt, fa_le, fa_eq, Int32.reduceToInt] at *); omega)).symm⟩ | exact ⟨(b2i_f (by (try simp only [b2i_eq0, b2i_ne0, decide_eq_true_eq] at *); (try simp only [mI, mA, sI_setA, sI_setQ, sI_setR, sA_setI, sA_setR, sA_setQ, fa_lt, fa_le, fa_eq, Int32.reduceToInt] at *); omega)).symm, (if_neg (by (try simp only [b2i_eq0, b2i_ne0, decide_eq_true_eq] at *); (try simp only [mI, mA, sI_setA, sI_setQ, sI_setR, sA_setI, sA_setR, sA_setQ, fa_lt, fa_le, fa_eq, Int32.reduceToInt] at *); omega)).symm⟩⟩
  · skip
    refine r_iload_n dX9_bid_14 rfl rfl ?_
    refine r_iconst (v := 0) dX9_bid_15 (by decide) ?_
    refine r_bipush (v := 100) dX9_bid_16 (by decide) ?_
    refine r_invS3i dX9_bid_18 lm_X9_129 (c_X9_in _ _ _ _) (Nat.le_of_ble_eq_true rfl) (Nat.le_of_ble_eq_true rfl) (Nat.zero_le _) (Nat.zero_le _) (fun r18 S18 hq18 => ?_)
    obtain ⟨rfl, hz18⟩ := hq18
    replace hz18 := hz18.symm
    subst hz18
    refine r_if_ne 26 dX9_bid_21 (by decide) (fun q21 => ?_) (fun q21 => ?_)
    · skip
      refine r_aload_n dX9_bid_26 rfl rfl ?_
      refine r_getR dX9_bid_27 lf_X9_47 rfl rfl (shM_R h (j := 12) rfl) (shM_L h (j := 12) rfl) ?_
      refine r_iload_n dX9_bid_30 rfl rfl ?_
      refine r_iload_n dX9_bid_31 rfl rfl ?_
      refine r_iast dX9_bid_32 rfl (show vp_in _ 4 from vp_in_iff.mpr (by (try simp only [b2i_eq0, b2i_ne0, decide_eq_true_eq] at *); (try simp only [mI, mA, sI_setA, sI_setQ, sI_setR, sA_setI, sA_setR, sA_setQ, fa_lt, fa_le, fa_eq, Int32.reduceToInt] at *); omega)) ?_
      refine r_iconst (v := 1) dX9_bid_33 (by decide) ?_
      exact r_zret dX9_bid_34 rfl rfl (Nat.zero_le _) (Nat.zero_le _) ⟨_, rfl, by first | exact ⟨(b2i_t (by (try simp only [b2i_eq0, b2i_ne0, decide_eq_true_eq] at *); (try simp only [mI, mA, sI_setA, sI_setQ, sI_setR, sA_setI, sA_setR, sA_setQ, fa_lt, fa_le, fa_eq, Int32.reduceToInt] at *); omega)).symm, (if_pos (by (try simp only [b2i_eq0, b2i_ne0, decide_eq_true_eq] at *); (try simp only [mI, mA, sI_setA, sI_setQ, sI_setR, sA_setI, sA_setR, sA_setQ, fa_lt, fa_le, fa_eq, Int32.reduceToInt] at *); omega)).symm⟩ | exact ⟨(b2i_f (by (try simp only [b2i_eq0, b2i_ne0, decide_eq_true_eq] at *); (try simp only [mI, mA, sI_setA, sI_setQ, sI_setR, sA_setI, sA_setR, sA_setQ, fa_lt, fa_le, fa_eq, Int32.reduceToInt] at *); omega)).symm, (if_neg (by (try simp only [b2i_eq0, b2i_ne0, decide_eq_true_eq] at *); (try simp only [mI, mA, sI_setA, sI_setQ, sI_setR, sA_setI, sA_setR, sA_setQ, fa_lt, fa_le, fa_eq, Int32.reduceToInt] at *); omega)).symm⟩⟩
    · skip
      refine r_iconst (v := 0) dX9_bid_24 (by decide) ?_
      exact r_zret dX9_bid_25 rfl rfl (Nat.zero_le _) (Nat.zero_le _) ⟨_, rfl, by first | exact ⟨(b2i_t (by (try simp only [b2i_eq0, b2i_ne0, decide_eq_true_eq] at *); (try simp only [mI, mA, sI_setA, sI_setQ, sI_setR, sA_setI, sA_setR, sA_setQ, fa_lt, fa_le, fa_eq, Int32.reduceToInt] at *); omega)).symm, (if_pos (by (try simp only [b2i_eq0, b2i_ne0, decide_eq_true_eq] at *); (try simp only [mI, mA, sI_setA, sI_setQ, sI_setR, sA_setI, sA_setR, sA_setQ, fa_lt, fa_le, fa_eq, Int32.reduceToInt] at *); omega)).symm⟩ | exact ⟨(b2i_f (by (try simp only [b2i_eq0, b2i_ne0, decide_eq_true_eq] at *); (try simp only [mI, mA, sI_setA, sI_setQ, sI_setR, sA_setI, sA_setR, sA_setQ, fa_lt, fa_le, fa_eq, Int32.reduceToInt] at *); omega)).symm, (if_neg (by (try simp only [b2i_eq0, b2i_ne0, decide_eq_true_eq] at *); (try simp only [mI, mA, sI_setA, sI_setQ, sI_setR, sA_setI, sA_setR, sA_setQ, fa_lt, fa_le, fa_eq, Int32.reduceToInt] at *); omega)).symm⟩⟩
set_option maxHeartbeats 4000000 in
theorem c_X9_share {l : Launch} {G : va_G} {cy : Nat → ClassId} (a w z : Int32) (S : HS) (h : ShM S) (hb : 0 ≤ (mI S 25).toInt ∧ (mI S 25).toInt ≤ 12) : Cn l G cy yX9_share cX9_share 4 (some .boolean) 2 [.ref 2000, .int a, .int w, .int z] S 0 0 (qI (fun r S2 => r = b2i (0 ≤ a.toInt ∧ a.toInt < (mI S 25).toInt ∧ (0 ≤ w.toInt ∧ w.toInt ≤ 7) ∧ 0 ≤ z.toInt ∧ z.toInt ≤ 100) ∧ S2 = if (0 ≤ a.toInt ∧ a.toInt < (mI S 25).toInt ∧ (0 ≤ w.toInt ∧ w.toInt ≤ 7) ∧ 0 ≤ z.toInt ∧ z.toInt ≤ 100) then setA S (ma 8) (upd (mA S 8) (8 * a + w).toNatClampNeg z) else S)) := by
  refine Cn.of [some (.ref 2000), some (.int a), some (.int w), some (.int z)] (by decide) rfl (Nat.le_of_ble_eq_true rfl) ?_
  refine r_aload_n dX9_share_0 rfl rfl ?_
  refine r_iload_n dX9_share_1 rfl rfl ?_
  refine r_invV1i dX9_share_2 lm_X9_136 rfl (c_X9_isBoat _ _ h hb) (Nat.le_of_ble_eq_true rfl) (Nat.le_of_ble_eq_true rfl) (Nat.zero_le _) (Nat.zero_le _) (fun r2 S2 hq2 => ?_)
  obtain ⟨rfl, hz2⟩ := hq2
  replace hz2 := hz2.symm
  subst hz2
  refine r_if_eq 28 dX9_share_5 (by decide) (fun q5 => ?_) (fun q5 => ?_)
  · skip
    refine r_iconst (v := 0) dX9_share_28 (by decide) ?_
    exact r_zret dX9_share_29 rfl rfl (Nat.zero_le _) (Nat.zero_le _) ⟨_, rfl, by first | exact ⟨(b2i_t (by (try simp only [b2i_eq0, b2i_ne0, decide_eq_true_eq] at *); (try simp only [mI, mA, sI_setA, sI_setQ, sI_setR, sA_setI, sA_setR, sA_setQ, fa_lt, fa_le, fa_eq, Int32.reduceToInt] at *); omega)).symm, (if_pos (by (try simp only [b2i_eq0, b2i_ne0, decide_eq_true_eq] at *); (try simp only [mI, mA, sI_setA, sI_setQ, sI_setR, sA_setI, sA_setR, sA_setQ, fa_lt, fa_le, fa_eq, Int32.reduceToInt] at *); omega)).symm⟩ | exact ⟨(b2i_f (by (try simp only [b2i_eq0, b2i_ne0, decide_eq_true_eq] at *); (try simp only [mI, mA, sI_setA, sI_setQ, sI_setR, sA_setI, sA_setR, sA_setQ, fa_lt, fa_le, fa_eq, Int32.reduceToInt] at *); omega)).symm, (if_neg (by (try simp only [b2i_eq0, b2i_ne0, decide_eq_true_eq] at *); (try simp only [mI, mA, sI_setA, sI_setQ, sI_setR, sA_setI, sA_setR, sA_setQ, fa_lt, fa_le, fa_eq, Int32.reduceToInt] at *); omega)).symm⟩⟩
  · skip
    refine r_iload_n dX9_share_8 rfl rfl ?_
    refine r_iconst (v := 0) dX9_share_9 (by decide) ?_
    refine r_bipush (v := 7) dX9_share_10 (by decide) ?_
    refine r_invS3i dX9_share_12 lm_X9_129 (c_X9_in _ _ _ _) (Nat.le_of_ble_eq_true rfl) (Nat.le_of_ble_eq_true rfl) (Nat.zero_le _) (Nat.zero_le _) (fun r12 S12 hq12 => ?_)
    obtain ⟨rfl, hz12⟩ := hq12
    replace hz12 := hz12.symm
    subst hz12
    refine r_if_eq 28 dX9_share_15 (by decide) (fun q15 => ?_) (fun q15 => ?_)
    · skip
      refine r_iconst (v := 0) dX9_share_28 (by decide) ?_
      exact r_zret dX9_share_29 rfl rfl (Nat.zero_le _) (Nat.zero_le _) ⟨_, rfl, by first | exact ⟨(b2i_t (by (try simp only [b2i_eq0, b2i_ne0, decide_eq_true_eq] at *); (try simp only [mI, mA, sI_setA, sI_setQ, sI_setR, sA_setI, sA_setR, sA_setQ, fa_lt, fa_le, fa_eq, Int32.reduceToInt] at *); omega)).symm, (if_pos (by (try simp only [b2i_eq0, b2i_ne0, decide_eq_true_eq] at *); (try simp only [mI, mA, sI_setA, sI_setQ, sI_setR, sA_setI, sA_setR, sA_setQ, fa_lt, fa_le, fa_eq, Int32.reduceToInt] at *); omega)).symm⟩ | exact ⟨(b2i_f (by (try simp only [b2i_eq0, b2i_ne0, decide_eq_true_eq] at *); (try simp only [mI, mA, sI_setA, sI_setQ, sI_setR, sA_setI, sA_setR, sA_setQ, fa_lt, fa_le, fa_eq, Int32.reduceToInt] at *); omega)).symm, (if_neg (by (try simp only [b2i_eq0, b2i_ne0, decide_eq_true_eq] at *); (try simp only [mI, mA, sI_setA, sI_setQ, sI_setR, sA_setI, sA_setR, sA_setQ, fa_lt, fa_le, fa_eq, Int32.reduceToInt] at *); omega)).symm⟩⟩
    · skip
      refine r_iload_n dX9_share_18 rfl rfl ?_
      refine r_iconst (v := 0) dX9_share_19 (by decide) ?_
      refine r_bipush (v := 100) dX9_share_20 (by decide) ?_
      refine r_invS3i dX9_share_22 lm_X9_129 (c_X9_in _ _ _ _) (Nat.le_of_ble_eq_true rfl) (Nat.le_of_ble_eq_true rfl) (Nat.zero_le _) (Nat.zero_le _) (fun r22 S22 hq22 => ?_)
      obtain ⟨rfl, hz22⟩ := hq22
      replace hz22 := hz22.symm
      subst hz22
      refine r_if_ne 30 dX9_share_25 (by decide) (fun q25 => ?_) (fun q25 => ?_)
      · skip
        refine r_aload_n dX9_share_30 rfl rfl ?_
        refine r_getR dX9_share_31 lf_X9_35 rfl rfl (shM_R h (j := 8) rfl) (shM_L h (j := 8) rfl) ?_
        refine r_bipush (v := 8) dX9_share_34 (by decide) ?_
        refine r_iload_n dX9_share_36 rfl rfl ?_
        refine r_imul dX9_share_37 ?_
        refine r_iload_n dX9_share_38 rfl rfl ?_
        refine r_iadd dX9_share_39 ?_
        refine r_iload_n dX9_share_40 rfl rfl ?_
        refine r_iast dX9_share_41 rfl (show vp_in _ 96 from ix8in hb.2 (by (try simp only [b2i_eq0, b2i_ne0, decide_eq_true_eq] at *); (try simp only [mI, mA, sI_setA, sI_setQ, sI_setR, sA_setI, sA_setR, sA_setQ, fa_lt, fa_le, fa_eq, Int32.reduceToInt] at *); omega) (by (try simp only [b2i_eq0, b2i_ne0, decide_eq_true_eq] at *); (try simp only [mI, mA, sI_setA, sI_setQ, sI_setR, sA_setI, sA_setR, sA_setQ, fa_lt, fa_le, fa_eq, Int32.reduceToInt] at *); omega)) ?_
        refine r_iconst (v := 1) dX9_share_42 (by decide) ?_
        exact r_zret dX9_share_43 rfl rfl (Nat.zero_le _) (Nat.zero_le _) ⟨_, rfl, by first | exact ⟨(b2i_t (by (try simp only [b2i_eq0, b2i_ne0, decide_eq_true_eq] at *); (try simp only [mI, mA, sI_setA, sI_setQ, sI_setR, sA_setI, sA_setR, sA_setQ, fa_lt, fa_le, fa_eq, Int32.reduceToInt] at *); omega)).symm, (if_pos (by (try simp only [b2i_eq0, b2i_ne0, decide_eq_true_eq] at *); (try simp only [mI, mA, sI_setA, sI_setQ, sI_setR, sA_setI, sA_setR, sA_setQ, fa_lt, fa_le, fa_eq, Int32.reduceToInt] at *); omega)).symm⟩ | exact ⟨(b2i_f (by (try simp only [b2i_eq0, b2i_ne0, decide_eq_true_eq] at *); (try simp only [mI, mA, sI_setA, sI_setQ, sI_setR, sA_setI, sA_setR, sA_setQ, fa_lt, fa_le, fa_eq, Int32.reduceToInt] at *); omega)).symm, (if_neg (by (try simp only [b2i_eq0, b2i_ne0, decide_eq_true_eq] at *); (try simp only [mI, mA, sI_setA, sI_setQ, sI_setR, sA_setI, sA_setR, sA_setQ, fa_lt, fa_le, fa_eq, Int32.reduceToInt] at *); omega)).symm⟩⟩
      · skip
        refine r_iconst (v := 0) dX9_share_28 (by decide) ?_
        exact r_zret dX9_share_29 rfl rfl (Nat.zero_le _) (Nat.zero_le _) ⟨_, rfl, by first | exact ⟨(b2i_t (by (try simp only [b2i_eq0, b2i_ne0, decide_eq_true_eq] at *); (try simp only [mI, mA, sI_setA, sI_setQ, sI_setR, sA_setI, sA_setR, sA_setQ, fa_lt, fa_le, fa_eq, Int32.reduceToInt] at *); omega)).symm, (if_pos (by (try simp only [b2i_eq0, b2i_ne0, decide_eq_true_eq] at *); (try simp only [mI, mA, sI_setA, sI_setQ, sI_setR, sA_setI, sA_setR, sA_setQ, fa_lt, fa_le, fa_eq, Int32.reduceToInt] at *); omega)).symm⟩ | exact ⟨(b2i_f (by (try simp only [b2i_eq0, b2i_ne0, decide_eq_true_eq] at *); (try simp only [mI, mA, sI_setA, sI_setQ, sI_setR, sA_setI, sA_setR, sA_setQ, fa_lt, fa_le, fa_eq, Int32.reduceToInt] at *); omega)).symm, (if_neg (by (try simp only [b2i_eq0, b2i_ne0, decide_eq_true_eq] at *); (try simp only [mI, mA, sI_setA, sI_setQ, sI_setR, sA_setI, sA_setR, sA_setQ, fa_lt, fa_le, fa_eq, Int32.reduceToInt] at *); omega)).symm⟩⟩
set_option maxHeartbeats 4000000 in
theorem c_X9_coins {l : Launch} {G : va_G} {cy : Nat → ClassId} (a w : Int32) (S : HS) (h : ShM S) (hb : 0 ≤ (mI S 25).toInt ∧ (mI S 25).toInt ≤ 12) : Cn l G cy yX9_coins cX9_coins 3 (some .int) 2 [.ref 2000, .int a, .int w] S 0 0 (qI (fun r S2 => (r = if (0 ≤ a.toInt ∧ a.toInt < (mI S 25).toInt ∧ 0 ≤ w.toInt ∧ w.toInt ≤ 7) then mA S 9 (8 * a + w).toNatClampNeg else 0) ∧ S2 = S)) := by
  refine Cn.of [some (.ref 2000), some (.int a), some (.int w)] (by decide) rfl (Nat.le_of_ble_eq_true rfl) ?_
  refine r_aload_n dX9_coins_0 rfl rfl ?_
  refine r_iload_n dX9_coins_1 rfl rfl ?_
  refine r_invV1i dX9_coins_2 lm_X9_136 rfl (c_X9_isBoat _ _ h hb) (Nat.le_of_ble_eq_true rfl) (Nat.le_of_ble_eq_true rfl) (Nat.zero_le _) (Nat.zero_le _) (fun r2 S2 hq2 => ?_)
  obtain ⟨rfl, hz2⟩ := hq2
  replace hz2 := hz2.symm
  subst hz2
  refine r_if_eq 32 dX9_coins_5 (by decide) (fun q5 => ?_) (fun q5 => ?_)
  · skip
    refine r_iconst (v := 0) dX9_coins_32 (by decide) ?_
    exact r_iret dX9_coins_33 rfl (Nat.zero_le _) (Nat.zero_le _) ⟨_, rfl, by first | exact ⟨(if_pos (by (try simp only [b2i_eq0, b2i_ne0, decide_eq_true_eq] at *); (try simp only [mI, mA, sI_setA, sI_setQ, sI_setR, sA_setI, sA_setR, sA_setQ, fa_lt, fa_le, fa_eq, Int32.reduceToInt] at *); omega)).symm, rfl⟩ | exact ⟨(if_neg (by (try simp only [b2i_eq0, b2i_ne0, decide_eq_true_eq] at *); (try simp only [mI, mA, sI_setA, sI_setQ, sI_setR, sA_setI, sA_setR, sA_setQ, fa_lt, fa_le, fa_eq, Int32.reduceToInt] at *); omega)).symm, rfl⟩⟩
  · skip
    refine r_iload_n dX9_coins_8 rfl rfl ?_
    refine r_iconst (v := 0) dX9_coins_9 (by decide) ?_
    refine r_bipush (v := 7) dX9_coins_10 (by decide) ?_
    refine r_invS3i dX9_coins_12 lm_X9_129 (c_X9_in _ _ _ _) (Nat.le_of_ble_eq_true rfl) (Nat.le_of_ble_eq_true rfl) (Nat.zero_le _) (Nat.zero_le _) (fun r12 S12 hq12 => ?_)
    obtain ⟨rfl, hz12⟩ := hq12
    replace hz12 := hz12.symm
    subst hz12
    refine r_if_eq 32 dX9_coins_15 (by decide) (fun q15 => ?_) (fun q15 => ?_)
    · skip
      refine r_iconst (v := 0) dX9_coins_32 (by decide) ?_
      exact r_iret dX9_coins_33 rfl (Nat.zero_le _) (Nat.zero_le _) ⟨_, rfl, by first | exact ⟨(if_pos (by (try simp only [b2i_eq0, b2i_ne0, decide_eq_true_eq] at *); (try simp only [mI, mA, sI_setA, sI_setQ, sI_setR, sA_setI, sA_setR, sA_setQ, fa_lt, fa_le, fa_eq, Int32.reduceToInt] at *); omega)).symm, rfl⟩ | exact ⟨(if_neg (by (try simp only [b2i_eq0, b2i_ne0, decide_eq_true_eq] at *); (try simp only [mI, mA, sI_setA, sI_setQ, sI_setR, sA_setI, sA_setR, sA_setQ, fa_lt, fa_le, fa_eq, Int32.reduceToInt] at *); omega)).symm, rfl⟩⟩
    · skip
      refine r_aload_n dX9_coins_18 rfl rfl ?_
      refine r_getR dX9_coins_19 lf_X9_38 rfl rfl (shM_R h (j := 9) rfl) (shM_L h (j := 9) rfl) ?_
      refine r_bipush (v := 8) dX9_coins_22 (by decide) ?_
      refine r_iload_n dX9_coins_24 rfl rfl ?_
      refine r_imul dX9_coins_25 ?_
      refine r_iload_n dX9_coins_26 rfl rfl ?_
      refine r_iadd dX9_coins_27 ?_
      refine r_iald dX9_coins_28 rfl (show vp_in _ 96 from ix8in hb.2 (by (try simp only [b2i_eq0, b2i_ne0, decide_eq_true_eq] at *); (try simp only [mI, mA, sI_setA, sI_setQ, sI_setR, sA_setI, sA_setR, sA_setQ, fa_lt, fa_le, fa_eq, Int32.reduceToInt] at *); omega) (by (try simp only [b2i_eq0, b2i_ne0, decide_eq_true_eq] at *); (try simp only [mI, mA, sI_setA, sI_setQ, sI_setR, sA_setI, sA_setR, sA_setQ, fa_lt, fa_le, fa_eq, Int32.reduceToInt] at *); omega)) ?_
      refine r_goto 33 dX9_coins_29 (by decide) ?_
      exact r_iret dX9_coins_33 rfl (Nat.zero_le _) (Nat.zero_le _) ⟨_, rfl, by first | exact ⟨(if_pos (by (try simp only [b2i_eq0, b2i_ne0, decide_eq_true_eq] at *); (try simp only [mI, mA, sI_setA, sI_setQ, sI_setR, sA_setI, sA_setR, sA_setQ, fa_lt, fa_le, fa_eq, Int32.reduceToInt] at *); omega)).symm, rfl⟩ | exact ⟨(if_neg (by (try simp only [b2i_eq0, b2i_ne0, decide_eq_true_eq] at *); (try simp only [mI, mA, sI_setA, sI_setQ, sI_setR, sA_setI, sA_setR, sA_setQ, fa_lt, fa_le, fa_eq, Int32.reduceToInt] at *); omega)).symm, rfl⟩⟩
set_option maxHeartbeats 4000000 in
theorem c_X9_told {l : Launch} {G : va_G} {cy : Nat → ClassId} (a w : Int32) (S : HS) (h : ShM S) (hb : 0 ≤ (mI S 25).toInt ∧ (mI S 25).toInt ≤ 12) : Cn l G cy yX9_told cX9_told 3 (some .int) 2 [.ref 2000, .int a, .int w] S 0 0 (qI (fun r S2 => (r = if (0 ≤ a.toInt ∧ a.toInt < (mI S 25).toInt) then sel w.toInt (-1) [mA S 2 a.toNatClampNeg, mA S 3 a.toNatClampNeg, mA S 4 a.toNatClampNeg, mA S 6 a.toNatClampNeg, mA S 7 a.toNatClampNeg, mA S 5 a.toNatClampNeg] else -1) ∧ S2 = S)) := by
  refine Cn.of [some (.ref 2000), some (.int a), some (.int w)] (by decide) rfl (Nat.le_of_ble_eq_true rfl) ?_
  refine r_aload_n dX9_told_0 rfl rfl ?_
  refine r_iload_n dX9_told_1 rfl rfl ?_
  refine r_invV1i dX9_told_2 lm_X9_136 rfl (c_X9_isBoat _ _ h hb) (Nat.le_of_ble_eq_true rfl) (Nat.le_of_ble_eq_true rfl) (Nat.zero_le _) (Nat.zero_le _) (fun r2 S2 hq2 => ?_)
  obtain ⟨rfl, hz2⟩ := hq2
  replace hz2 := hz2.symm
  subst hz2
  refine r_if_ne 10 dX9_told_5 (by decide) (fun q5 => ?_) (fun q5 => ?_)
  · skip
    refine r_iload_n dX9_told_10 rfl rfl ?_
    by_cases e11_0 : (w).toInt = 0
    · refine r_tableIn 48 dX9_told_11 (by rw [e11_0]; decide) (by rw [e11_0]; decide) (by rw [e11_0]; rfl) (by decide) ?_
      refine r_aload_n dX9_told_48 rfl rfl ?_
      refine r_getR dX9_told_49 lf_X9_17 rfl rfl (shM_R h (j := 2) rfl) (shM_L h (j := 2) rfl) ?_
      refine r_iload_n dX9_told_52 rfl rfl ?_
      refine r_iald dX9_told_53 rfl (show vp_in _ 12 from vp_in_iff.mpr (by (try simp only [b2i_eq0, b2i_ne0, decide_eq_true_eq] at *); (try simp only [mI, mA, sI_setA, sI_setQ, sI_setR, sA_setI, sA_setR, sA_setQ, fa_lt, fa_le, fa_eq, Int32.reduceToInt] at *); omega)) ?_
      exact r_iret dX9_told_54 rfl (Nat.zero_le _) (Nat.zero_le _) ⟨_, rfl, ⟨by rw [if_pos (by (try simp only [b2i_eq0, b2i_ne0, decide_eq_true_eq] at *); (try simp only [mI, mA, sI_setA, sI_setQ, sI_setR, sA_setI, sA_setR, sA_setQ, fa_lt, fa_le, fa_eq, Int32.reduceToInt] at *); omega)]; simp [sel, e11_0], rfl⟩⟩
    by_cases e11_1 : (w).toInt = 1
    · refine r_tableIn 55 dX9_told_11 (by rw [e11_1]; decide) (by rw [e11_1]; decide) (by rw [e11_1]; rfl) (by decide) ?_
      refine r_aload_n dX9_told_55 rfl rfl ?_
      refine r_getR dX9_told_56 lf_X9_20 rfl rfl (shM_R h (j := 3) rfl) (shM_L h (j := 3) rfl) ?_
      refine r_iload_n dX9_told_59 rfl rfl ?_
      refine r_iald dX9_told_60 rfl (show vp_in _ 12 from vp_in_iff.mpr (by (try simp only [b2i_eq0, b2i_ne0, decide_eq_true_eq] at *); (try simp only [mI, mA, sI_setA, sI_setQ, sI_setR, sA_setI, sA_setR, sA_setQ, fa_lt, fa_le, fa_eq, Int32.reduceToInt] at *); omega)) ?_
      exact r_iret dX9_told_61 rfl (Nat.zero_le _) (Nat.zero_le _) ⟨_, rfl, ⟨by rw [if_pos (by (try simp only [b2i_eq0, b2i_ne0, decide_eq_true_eq] at *); (try simp only [mI, mA, sI_setA, sI_setQ, sI_setR, sA_setI, sA_setR, sA_setQ, fa_lt, fa_le, fa_eq, Int32.reduceToInt] at *); omega)]; simp [sel, e11_1], rfl⟩⟩
    by_cases e11_2 : (w).toInt = 2
    · refine r_tableIn 62 dX9_told_11 (by rw [e11_2]; decide) (by rw [e11_2]; decide) (by rw [e11_2]; rfl) (by decide) ?_
      refine r_aload_n dX9_told_62 rfl rfl ?_
      refine r_getR dX9_told_63 lf_X9_23 rfl rfl (shM_R h (j := 4) rfl) (shM_L h (j := 4) rfl) ?_
      refine r_iload_n dX9_told_66 rfl rfl ?_
      refine r_iald dX9_told_67 rfl (show vp_in _ 12 from vp_in_iff.mpr (by (try simp only [b2i_eq0, b2i_ne0, decide_eq_true_eq] at *); (try simp only [mI, mA, sI_setA, sI_setQ, sI_setR, sA_setI, sA_setR, sA_setQ, fa_lt, fa_le, fa_eq, Int32.reduceToInt] at *); omega)) ?_
      exact r_iret dX9_told_68 rfl (Nat.zero_le _) (Nat.zero_le _) ⟨_, rfl, ⟨by rw [if_pos (by (try simp only [b2i_eq0, b2i_ne0, decide_eq_true_eq] at *); (try simp only [mI, mA, sI_setA, sI_setQ, sI_setR, sA_setI, sA_setR, sA_setQ, fa_lt, fa_le, fa_eq, Int32.reduceToInt] at *); omega)]; simp [sel, e11_2], rfl⟩⟩
    by_cases e11_3 : (w).toInt = 3
    · refine r_tableIn 69 dX9_told_11 (by rw [e11_3]; decide) (by rw [e11_3]; decide) (by rw [e11_3]; rfl) (by decide) ?_
      refine r_aload_n dX9_told_69 rfl rfl ?_
      refine r_getR dX9_told_70 lf_X9_29 rfl rfl (shM_R h (j := 6) rfl) (shM_L h (j := 6) rfl) ?_
      refine r_iload_n dX9_told_73 rfl rfl ?_
      refine r_iald dX9_told_74 rfl (show vp_in _ 12 from vp_in_iff.mpr (by (try simp only [b2i_eq0, b2i_ne0, decide_eq_true_eq] at *); (try simp only [mI, mA, sI_setA, sI_setQ, sI_setR, sA_setI, sA_setR, sA_setQ, fa_lt, fa_le, fa_eq, Int32.reduceToInt] at *); omega)) ?_
      exact r_iret dX9_told_75 rfl (Nat.zero_le _) (Nat.zero_le _) ⟨_, rfl, ⟨by rw [if_pos (by (try simp only [b2i_eq0, b2i_ne0, decide_eq_true_eq] at *); (try simp only [mI, mA, sI_setA, sI_setQ, sI_setR, sA_setI, sA_setR, sA_setQ, fa_lt, fa_le, fa_eq, Int32.reduceToInt] at *); omega)]; simp [sel, e11_3], rfl⟩⟩
    by_cases e11_4 : (w).toInt = 4
    · refine r_tableIn 76 dX9_told_11 (by rw [e11_4]; decide) (by rw [e11_4]; decide) (by rw [e11_4]; rfl) (by decide) ?_
      refine r_aload_n dX9_told_76 rfl rfl ?_
      refine r_getR dX9_told_77 lf_X9_32 rfl rfl (shM_R h (j := 7) rfl) (shM_L h (j := 7) rfl) ?_
      refine r_iload_n dX9_told_80 rfl rfl ?_
      refine r_iald dX9_told_81 rfl (show vp_in _ 12 from vp_in_iff.mpr (by (try simp only [b2i_eq0, b2i_ne0, decide_eq_true_eq] at *); (try simp only [mI, mA, sI_setA, sI_setQ, sI_setR, sA_setI, sA_setR, sA_setQ, fa_lt, fa_le, fa_eq, Int32.reduceToInt] at *); omega)) ?_
      exact r_iret dX9_told_82 rfl (Nat.zero_le _) (Nat.zero_le _) ⟨_, rfl, ⟨by rw [if_pos (by (try simp only [b2i_eq0, b2i_ne0, decide_eq_true_eq] at *); (try simp only [mI, mA, sI_setA, sI_setQ, sI_setR, sA_setI, sA_setR, sA_setQ, fa_lt, fa_le, fa_eq, Int32.reduceToInt] at *); omega)]; simp [sel, e11_4], rfl⟩⟩
    by_cases e11_5 : (w).toInt = 5
    · refine r_tableIn 83 dX9_told_11 (by rw [e11_5]; decide) (by rw [e11_5]; decide) (by rw [e11_5]; rfl) (by decide) ?_
      refine r_aload_n dX9_told_83 rfl rfl ?_
      refine r_getR dX9_told_84 lf_X9_26 rfl rfl (shM_R h (j := 5) rfl) (shM_L h (j := 5) rfl) ?_
      refine r_iload_n dX9_told_87 rfl rfl ?_
      refine r_iald dX9_told_88 rfl (show vp_in _ 12 from vp_in_iff.mpr (by (try simp only [b2i_eq0, b2i_ne0, decide_eq_true_eq] at *); (try simp only [mI, mA, sI_setA, sI_setQ, sI_setR, sA_setI, sA_setR, sA_setQ, fa_lt, fa_le, fa_eq, Int32.reduceToInt] at *); omega)) ?_
      exact r_iret dX9_told_89 rfl (Nat.zero_le _) (Nat.zero_le _) ⟨_, rfl, ⟨by rw [if_pos (by (try simp only [b2i_eq0, b2i_ne0, decide_eq_true_eq] at *); (try simp only [mI, mA, sI_setA, sI_setQ, sI_setR, sA_setI, sA_setR, sA_setQ, fa_lt, fa_le, fa_eq, Int32.reduceToInt] at *); omega)]; simp [sel, e11_5], rfl⟩⟩
    refine r_tableOut 90 dX9_told_11 (by omega) (by decide) ?_
    refine r_iconst (v := (-1)) dX9_told_90 (by decide) ?_
    exact r_iret dX9_told_91 rfl (Nat.zero_le _) (Nat.zero_le _) ⟨_, rfl, ⟨by rw [if_pos (by (try simp only [b2i_eq0, b2i_ne0, decide_eq_true_eq] at *); (try simp only [mI, mA, sI_setA, sI_setQ, sI_setR, sA_setI, sA_setR, sA_setQ, fa_lt, fa_le, fa_eq, Int32.reduceToInt] at *); omega)]; simp only [sel]; rw [if_neg (by omega), if_neg (by omega), if_neg (by omega), if_neg (by omega), if_neg (by omega), if_neg (by omega)], rfl⟩⟩
  · skip
    refine r_iconst (v := (-1)) dX9_told_8 (by decide) ?_
    exact r_iret dX9_told_9 rfl (Nat.zero_le _) (Nat.zero_le _) ⟨_, rfl, by first | exact ⟨(if_pos (by (try simp only [b2i_eq0, b2i_ne0, decide_eq_true_eq] at *); (try simp only [mI, mA, sI_setA, sI_setQ, sI_setR, sA_setI, sA_setR, sA_setQ, fa_lt, fa_le, fa_eq, Int32.reduceToInt] at *); omega)).symm, rfl⟩ | exact ⟨(if_neg (by (try simp only [b2i_eq0, b2i_ne0, decide_eq_true_eq] at *); (try simp only [mI, mA, sI_setA, sI_setQ, sI_setR, sA_setI, sA_setR, sA_setQ, fa_lt, fa_le, fa_eq, Int32.reduceToInt] at *); omega)).symm, rfl⟩⟩
set_option maxHeartbeats 4000000 in
theorem c_X9_lot {l : Launch} {G : va_G} {cy : Nat → ClassId} (a w : Int32) (S : HS) (h : ShM S) (hb : 0 ≤ (mI S 27).toInt ∧ (mI S 27).toInt ≤ 400) : Cn l G cy yX9_lot cX9_lot 3 (some .int) 2 [.ref 2000, .int a, .int w] S 0 0 (qI (fun r S2 => (r = if (0 ≤ a.toInt ∧ a.toInt < (mI S 27).toInt) then sel w.toInt (-1) [mA S 13 a.toNatClampNeg, mA S 14 a.toNatClampNeg, mA S 15 a.toNatClampNeg, mA S 16 a.toNatClampNeg, mA S 17 a.toNatClampNeg, mA S 18 a.toNatClampNeg, mA S 19 a.toNatClampNeg, mA S 20 a.toNatClampNeg, mA S 21 a.toNatClampNeg, mA S 22 a.toNatClampNeg, mA S 23 a.toNatClampNeg] else -1) ∧ S2 = S)) := by
  refine Cn.of [some (.ref 2000), some (.int a), some (.int w)] (by decide) rfl (Nat.le_of_ble_eq_true rfl) ?_
  refine r_aload_n dX9_lot_0 rfl rfl ?_
  refine r_iload_n dX9_lot_1 rfl rfl ?_
  refine r_invV1i dX9_lot_2 lm_X9_258 rfl (c_X9_isLot _ _ h hb) (Nat.le_of_ble_eq_true rfl) (Nat.le_of_ble_eq_true rfl) (Nat.zero_le _) (Nat.zero_le _) (fun r2 S2 hq2 => ?_)
  obtain ⟨rfl, hz2⟩ := hq2
  replace hz2 := hz2.symm
  subst hz2
  refine r_if_ne 10 dX9_lot_5 (by decide) (fun q5 => ?_) (fun q5 => ?_)
  · skip
    refine r_iload_n dX9_lot_10 rfl rfl ?_
    by_cases e11_0 : (w).toInt = 0
    · refine r_tableIn 68 dX9_lot_11 (by rw [e11_0]; decide) (by rw [e11_0]; decide) (by rw [e11_0]; rfl) (by decide) ?_
      refine r_aload_n dX9_lot_68 rfl rfl ?_
      refine r_getR dX9_lot_69 lf_X9_50 rfl rfl (shM_R h (j := 13) rfl) (shM_L h (j := 13) rfl) ?_
      refine r_iload_n dX9_lot_72 rfl rfl ?_
      refine r_iald dX9_lot_73 rfl (show vp_in _ 400 from vp_in_iff.mpr (by (try simp only [b2i_eq0, b2i_ne0, decide_eq_true_eq] at *); (try simp only [mI, mA, sI_setA, sI_setQ, sI_setR, sA_setI, sA_setR, sA_setQ, fa_lt, fa_le, fa_eq, Int32.reduceToInt] at *); omega)) ?_
      exact r_iret dX9_lot_74 rfl (Nat.zero_le _) (Nat.zero_le _) ⟨_, rfl, ⟨by rw [if_pos (by (try simp only [b2i_eq0, b2i_ne0, decide_eq_true_eq] at *); (try simp only [mI, mA, sI_setA, sI_setQ, sI_setR, sA_setI, sA_setR, sA_setQ, fa_lt, fa_le, fa_eq, Int32.reduceToInt] at *); omega)]; simp [sel, e11_0], rfl⟩⟩
    by_cases e11_1 : (w).toInt = 1
    · refine r_tableIn 75 dX9_lot_11 (by rw [e11_1]; decide) (by rw [e11_1]; decide) (by rw [e11_1]; rfl) (by decide) ?_
      refine r_aload_n dX9_lot_75 rfl rfl ?_
      refine r_getR dX9_lot_76 lf_X9_53 rfl rfl (shM_R h (j := 14) rfl) (shM_L h (j := 14) rfl) ?_
      refine r_iload_n dX9_lot_79 rfl rfl ?_
      refine r_iald dX9_lot_80 rfl (show vp_in _ 400 from vp_in_iff.mpr (by (try simp only [b2i_eq0, b2i_ne0, decide_eq_true_eq] at *); (try simp only [mI, mA, sI_setA, sI_setQ, sI_setR, sA_setI, sA_setR, sA_setQ, fa_lt, fa_le, fa_eq, Int32.reduceToInt] at *); omega)) ?_
      exact r_iret dX9_lot_81 rfl (Nat.zero_le _) (Nat.zero_le _) ⟨_, rfl, ⟨by rw [if_pos (by (try simp only [b2i_eq0, b2i_ne0, decide_eq_true_eq] at *); (try simp only [mI, mA, sI_setA, sI_setQ, sI_setR, sA_setI, sA_setR, sA_setQ, fa_lt, fa_le, fa_eq, Int32.reduceToInt] at *); omega)]; simp [sel, e11_1], rfl⟩⟩
    by_cases e11_2 : (w).toInt = 2
    · refine r_tableIn 82 dX9_lot_11 (by rw [e11_2]; decide) (by rw [e11_2]; decide) (by rw [e11_2]; rfl) (by decide) ?_
      refine r_aload_n dX9_lot_82 rfl rfl ?_
      refine r_getR dX9_lot_83 lf_X9_56 rfl rfl (shM_R h (j := 15) rfl) (shM_L h (j := 15) rfl) ?_
      refine r_iload_n dX9_lot_86 rfl rfl ?_
      refine r_iald dX9_lot_87 rfl (show vp_in _ 400 from vp_in_iff.mpr (by (try simp only [b2i_eq0, b2i_ne0, decide_eq_true_eq] at *); (try simp only [mI, mA, sI_setA, sI_setQ, sI_setR, sA_setI, sA_setR, sA_setQ, fa_lt, fa_le, fa_eq, Int32.reduceToInt] at *); omega)) ?_
      exact r_iret dX9_lot_88 rfl (Nat.zero_le _) (Nat.zero_le _) ⟨_, rfl, ⟨by rw [if_pos (by (try simp only [b2i_eq0, b2i_ne0, decide_eq_true_eq] at *); (try simp only [mI, mA, sI_setA, sI_setQ, sI_setR, sA_setI, sA_setR, sA_setQ, fa_lt, fa_le, fa_eq, Int32.reduceToInt] at *); omega)]; simp [sel, e11_2], rfl⟩⟩
    by_cases e11_3 : (w).toInt = 3
    · refine r_tableIn 89 dX9_lot_11 (by rw [e11_3]; decide) (by rw [e11_3]; decide) (by rw [e11_3]; rfl) (by decide) ?_
      refine r_aload_n dX9_lot_89 rfl rfl ?_
      refine r_getR dX9_lot_90 lf_X9_59 rfl rfl (shM_R h (j := 16) rfl) (shM_L h (j := 16) rfl) ?_
      refine r_iload_n dX9_lot_93 rfl rfl ?_
      refine r_iald dX9_lot_94 rfl (show vp_in _ 400 from vp_in_iff.mpr (by (try simp only [b2i_eq0, b2i_ne0, decide_eq_true_eq] at *); (try simp only [mI, mA, sI_setA, sI_setQ, sI_setR, sA_setI, sA_setR, sA_setQ, fa_lt, fa_le, fa_eq, Int32.reduceToInt] at *); omega)) ?_
      exact r_iret dX9_lot_95 rfl (Nat.zero_le _) (Nat.zero_le _) ⟨_, rfl, ⟨by rw [if_pos (by (try simp only [b2i_eq0, b2i_ne0, decide_eq_true_eq] at *); (try simp only [mI, mA, sI_setA, sI_setQ, sI_setR, sA_setI, sA_setR, sA_setQ, fa_lt, fa_le, fa_eq, Int32.reduceToInt] at *); omega)]; simp [sel, e11_3], rfl⟩⟩
    by_cases e11_4 : (w).toInt = 4
    · refine r_tableIn 96 dX9_lot_11 (by rw [e11_4]; decide) (by rw [e11_4]; decide) (by rw [e11_4]; rfl) (by decide) ?_
      refine r_aload_n dX9_lot_96 rfl rfl ?_
      refine r_getR dX9_lot_97 lf_X9_62 rfl rfl (shM_R h (j := 17) rfl) (shM_L h (j := 17) rfl) ?_
      refine r_iload_n dX9_lot_100 rfl rfl ?_
      refine r_iald dX9_lot_101 rfl (show vp_in _ 400 from vp_in_iff.mpr (by (try simp only [b2i_eq0, b2i_ne0, decide_eq_true_eq] at *); (try simp only [mI, mA, sI_setA, sI_setQ, sI_setR, sA_setI, sA_setR, sA_setQ, fa_lt, fa_le, fa_eq, Int32.reduceToInt] at *); omega)) ?_
      exact r_iret dX9_lot_102 rfl (Nat.zero_le _) (Nat.zero_le _) ⟨_, rfl, ⟨by rw [if_pos (by (try simp only [b2i_eq0, b2i_ne0, decide_eq_true_eq] at *); (try simp only [mI, mA, sI_setA, sI_setQ, sI_setR, sA_setI, sA_setR, sA_setQ, fa_lt, fa_le, fa_eq, Int32.reduceToInt] at *); omega)]; simp [sel, e11_4], rfl⟩⟩
    by_cases e11_5 : (w).toInt = 5
    · refine r_tableIn 103 dX9_lot_11 (by rw [e11_5]; decide) (by rw [e11_5]; decide) (by rw [e11_5]; rfl) (by decide) ?_
      refine r_aload_n dX9_lot_103 rfl rfl ?_
      refine r_getR dX9_lot_104 lf_X9_65 rfl rfl (shM_R h (j := 18) rfl) (shM_L h (j := 18) rfl) ?_
      refine r_iload_n dX9_lot_107 rfl rfl ?_
      refine r_iald dX9_lot_108 rfl (show vp_in _ 400 from vp_in_iff.mpr (by (try simp only [b2i_eq0, b2i_ne0, decide_eq_true_eq] at *); (try simp only [mI, mA, sI_setA, sI_setQ, sI_setR, sA_setI, sA_setR, sA_setQ, fa_lt, fa_le, fa_eq, Int32.reduceToInt] at *); omega)) ?_
      exact r_iret dX9_lot_109 rfl (Nat.zero_le _) (Nat.zero_le _) ⟨_, rfl, ⟨by rw [if_pos (by (try simp only [b2i_eq0, b2i_ne0, decide_eq_true_eq] at *); (try simp only [mI, mA, sI_setA, sI_setQ, sI_setR, sA_setI, sA_setR, sA_setQ, fa_lt, fa_le, fa_eq, Int32.reduceToInt] at *); omega)]; simp [sel, e11_5], rfl⟩⟩
    by_cases e11_6 : (w).toInt = 6
    · refine r_tableIn 110 dX9_lot_11 (by rw [e11_6]; decide) (by rw [e11_6]; decide) (by rw [e11_6]; rfl) (by decide) ?_
      refine r_aload_n dX9_lot_110 rfl rfl ?_
      refine r_getR dX9_lot_111 lf_X9_68 rfl rfl (shM_R h (j := 19) rfl) (shM_L h (j := 19) rfl) ?_
      refine r_iload_n dX9_lot_114 rfl rfl ?_
      refine r_iald dX9_lot_115 rfl (show vp_in _ 400 from vp_in_iff.mpr (by (try simp only [b2i_eq0, b2i_ne0, decide_eq_true_eq] at *); (try simp only [mI, mA, sI_setA, sI_setQ, sI_setR, sA_setI, sA_setR, sA_setQ, fa_lt, fa_le, fa_eq, Int32.reduceToInt] at *); omega)) ?_
      exact r_iret dX9_lot_116 rfl (Nat.zero_le _) (Nat.zero_le _) ⟨_, rfl, ⟨by rw [if_pos (by (try simp only [b2i_eq0, b2i_ne0, decide_eq_true_eq] at *); (try simp only [mI, mA, sI_setA, sI_setQ, sI_setR, sA_setI, sA_setR, sA_setQ, fa_lt, fa_le, fa_eq, Int32.reduceToInt] at *); omega)]; simp [sel, e11_6], rfl⟩⟩
    by_cases e11_7 : (w).toInt = 7
    · refine r_tableIn 117 dX9_lot_11 (by rw [e11_7]; decide) (by rw [e11_7]; decide) (by rw [e11_7]; rfl) (by decide) ?_
      refine r_aload_n dX9_lot_117 rfl rfl ?_
      refine r_getR dX9_lot_118 lf_X9_71 rfl rfl (shM_R h (j := 20) rfl) (shM_L h (j := 20) rfl) ?_
      refine r_iload_n dX9_lot_121 rfl rfl ?_
      refine r_iald dX9_lot_122 rfl (show vp_in _ 400 from vp_in_iff.mpr (by (try simp only [b2i_eq0, b2i_ne0, decide_eq_true_eq] at *); (try simp only [mI, mA, sI_setA, sI_setQ, sI_setR, sA_setI, sA_setR, sA_setQ, fa_lt, fa_le, fa_eq, Int32.reduceToInt] at *); omega)) ?_
      exact r_iret dX9_lot_123 rfl (Nat.zero_le _) (Nat.zero_le _) ⟨_, rfl, ⟨by rw [if_pos (by (try simp only [b2i_eq0, b2i_ne0, decide_eq_true_eq] at *); (try simp only [mI, mA, sI_setA, sI_setQ, sI_setR, sA_setI, sA_setR, sA_setQ, fa_lt, fa_le, fa_eq, Int32.reduceToInt] at *); omega)]; simp [sel, e11_7], rfl⟩⟩
    by_cases e11_8 : (w).toInt = 8
    · refine r_tableIn 124 dX9_lot_11 (by rw [e11_8]; decide) (by rw [e11_8]; decide) (by rw [e11_8]; rfl) (by decide) ?_
      refine r_aload_n dX9_lot_124 rfl rfl ?_
      refine r_getR dX9_lot_125 lf_X9_74 rfl rfl (shM_R h (j := 21) rfl) (shM_L h (j := 21) rfl) ?_
      refine r_iload_n dX9_lot_128 rfl rfl ?_
      refine r_iald dX9_lot_129 rfl (show vp_in _ 400 from vp_in_iff.mpr (by (try simp only [b2i_eq0, b2i_ne0, decide_eq_true_eq] at *); (try simp only [mI, mA, sI_setA, sI_setQ, sI_setR, sA_setI, sA_setR, sA_setQ, fa_lt, fa_le, fa_eq, Int32.reduceToInt] at *); omega)) ?_
      exact r_iret dX9_lot_130 rfl (Nat.zero_le _) (Nat.zero_le _) ⟨_, rfl, ⟨by rw [if_pos (by (try simp only [b2i_eq0, b2i_ne0, decide_eq_true_eq] at *); (try simp only [mI, mA, sI_setA, sI_setQ, sI_setR, sA_setI, sA_setR, sA_setQ, fa_lt, fa_le, fa_eq, Int32.reduceToInt] at *); omega)]; simp [sel, e11_8], rfl⟩⟩
    by_cases e11_9 : (w).toInt = 9
    · refine r_tableIn 131 dX9_lot_11 (by rw [e11_9]; decide) (by rw [e11_9]; decide) (by rw [e11_9]; rfl) (by decide) ?_
      refine r_aload_n dX9_lot_131 rfl rfl ?_
      refine r_getR dX9_lot_132 lf_X9_77 rfl rfl (shM_R h (j := 22) rfl) (shM_L h (j := 22) rfl) ?_
      refine r_iload_n dX9_lot_135 rfl rfl ?_
      refine r_iald dX9_lot_136 rfl (show vp_in _ 400 from vp_in_iff.mpr (by (try simp only [b2i_eq0, b2i_ne0, decide_eq_true_eq] at *); (try simp only [mI, mA, sI_setA, sI_setQ, sI_setR, sA_setI, sA_setR, sA_setQ, fa_lt, fa_le, fa_eq, Int32.reduceToInt] at *); omega)) ?_
      exact r_iret dX9_lot_137 rfl (Nat.zero_le _) (Nat.zero_le _) ⟨_, rfl, ⟨by rw [if_pos (by (try simp only [b2i_eq0, b2i_ne0, decide_eq_true_eq] at *); (try simp only [mI, mA, sI_setA, sI_setQ, sI_setR, sA_setI, sA_setR, sA_setQ, fa_lt, fa_le, fa_eq, Int32.reduceToInt] at *); omega)]; simp [sel, e11_9], rfl⟩⟩
    by_cases e11_10 : (w).toInt = 10
    · refine r_tableIn 138 dX9_lot_11 (by rw [e11_10]; decide) (by rw [e11_10]; decide) (by rw [e11_10]; rfl) (by decide) ?_
      refine r_aload_n dX9_lot_138 rfl rfl ?_
      refine r_getR dX9_lot_139 lf_X9_80 rfl rfl (shM_R h (j := 23) rfl) (shM_L h (j := 23) rfl) ?_
      refine r_iload_n dX9_lot_142 rfl rfl ?_
      refine r_iald dX9_lot_143 rfl (show vp_in _ 400 from vp_in_iff.mpr (by (try simp only [b2i_eq0, b2i_ne0, decide_eq_true_eq] at *); (try simp only [mI, mA, sI_setA, sI_setQ, sI_setR, sA_setI, sA_setR, sA_setQ, fa_lt, fa_le, fa_eq, Int32.reduceToInt] at *); omega)) ?_
      exact r_iret dX9_lot_144 rfl (Nat.zero_le _) (Nat.zero_le _) ⟨_, rfl, ⟨by rw [if_pos (by (try simp only [b2i_eq0, b2i_ne0, decide_eq_true_eq] at *); (try simp only [mI, mA, sI_setA, sI_setQ, sI_setR, sA_setI, sA_setR, sA_setQ, fa_lt, fa_le, fa_eq, Int32.reduceToInt] at *); omega)]; simp [sel, e11_10], rfl⟩⟩
    refine r_tableOut 145 dX9_lot_11 (by omega) (by decide) ?_
    refine r_iconst (v := (-1)) dX9_lot_145 (by decide) ?_
    exact r_iret dX9_lot_146 rfl (Nat.zero_le _) (Nat.zero_le _) ⟨_, rfl, ⟨by rw [if_pos (by (try simp only [b2i_eq0, b2i_ne0, decide_eq_true_eq] at *); (try simp only [mI, mA, sI_setA, sI_setQ, sI_setR, sA_setI, sA_setR, sA_setQ, fa_lt, fa_le, fa_eq, Int32.reduceToInt] at *); omega)]; simp only [sel]; rw [if_neg (by omega), if_neg (by omega), if_neg (by omega), if_neg (by omega), if_neg (by omega), if_neg (by omega), if_neg (by omega), if_neg (by omega), if_neg (by omega), if_neg (by omega), if_neg (by omega)], rfl⟩⟩
  · skip
    refine r_iconst (v := (-1)) dX9_lot_8 (by decide) ?_
    exact r_iret dX9_lot_9 rfl (Nat.zero_le _) (Nat.zero_le _) ⟨_, rfl, by first | exact ⟨(if_pos (by (try simp only [b2i_eq0, b2i_ne0, decide_eq_true_eq] at *); (try simp only [mI, mA, sI_setA, sI_setQ, sI_setR, sA_setI, sA_setR, sA_setQ, fa_lt, fa_le, fa_eq, Int32.reduceToInt] at *); omega)).symm, rfl⟩ | exact ⟨(if_neg (by (try simp only [b2i_eq0, b2i_ne0, decide_eq_true_eq] at *); (try simp only [mI, mA, sI_setA, sI_setQ, sI_setR, sA_setI, sA_setR, sA_setQ, fa_lt, fa_le, fa_eq, Int32.reduceToInt] at *); omega)).symm, rfl⟩⟩
set_option maxHeartbeats 4000000 in
theorem c_X9_cell {l : Launch} {G : va_G} {cy : Nat → ClassId} (a w : Int32) (S : HS) (h : ShM S) : Cn l G cy yX9_cell cX9_cell 3 (some .int) 1 [.ref 2000, .int a, .int w] S 0 0 (qI (fun r S2 => (r = if (0 ≤ a.toInt ∧ a.toInt < 36) then sel w.toInt (-1) [mA S 0 a.toNatClampNeg, b2i (¬ mA S 1 a.toNatClampNeg = 0)] else -1) ∧ S2 = S)) := by
  refine Cn.of [some (.ref 2000), some (.int a), some (.int w)] (by decide) rfl (Nat.le_of_ble_eq_true rfl) ?_
  refine r_iload_n dX9_cell_0 rfl rfl ?_
  refine r_iconst (v := 0) dX9_cell_1 (by decide) ?_
  refine r_bipush (v := 35) dX9_cell_2 (by decide) ?_
  refine r_invS3i dX9_cell_4 lm_X9_129 (c_X9_in _ _ _ _) (Nat.le_of_ble_eq_true rfl) (Nat.le_of_ble_eq_true rfl) (Nat.zero_le _) (Nat.zero_le _) (fun r4 S4 hq4 => ?_)
  obtain ⟨rfl, hz4⟩ := hq4
  replace hz4 := hz4.symm
  subst hz4
  refine r_if_ne 12 dX9_cell_7 (by decide) (fun q7 => ?_) (fun q7 => ?_)
  · skip
    refine r_iload_n dX9_cell_12 rfl rfl ?_
    refine r_if_ne 25 dX9_cell_13 (by decide) (fun q13 => ?_) (fun q13 => ?_)
    · skip
      refine r_iload_n dX9_cell_25 rfl rfl ?_
      refine r_iconst (v := 1) dX9_cell_26 (by decide) ?_
      refine r_icmp_ne 47 dX9_cell_27 (by decide) (fun q27 => ?_) (fun q27 => ?_)
      · skip
        refine r_iconst (v := (-1)) dX9_cell_47 (by decide) ?_
        exact r_iret dX9_cell_48 rfl (Nat.zero_le _) (Nat.zero_le _) ⟨_, rfl, ⟨by rw [if_pos (by (try simp only [b2i_eq0, b2i_ne0, decide_eq_true_eq] at *); (try simp only [mI, mA, sI_setA, sI_setQ, sI_setR, sA_setI, sA_setR, sA_setQ, fa_lt, fa_le, fa_eq, Int32.reduceToInt] at *); omega)]; first | (simp only [sel]; rw [if_pos (by (try simp only [b2i_eq0, b2i_ne0, decide_eq_true_eq] at *); (try simp only [mI, mA, sI_setA, sI_setQ, sI_setR, sA_setI, sA_setR, sA_setQ, fa_lt, fa_le, fa_eq, Int32.reduceToInt] at *); omega)]; done) | (simp only [sel]; rw [if_neg (by (try simp only [b2i_eq0, b2i_ne0, decide_eq_true_eq] at *); (try simp only [mI, mA, sI_setA, sI_setQ, sI_setR, sA_setI, sA_setR, sA_setQ, fa_lt, fa_le, fa_eq, Int32.reduceToInt] at *); omega), if_pos (by (try simp only [b2i_eq0, b2i_ne0, decide_eq_true_eq] at *); (try simp only [mI, mA, sI_setA, sI_setQ, sI_setR, sA_setI, sA_setR, sA_setQ, fa_lt, fa_le, fa_eq, Int32.reduceToInt] at *); omega)]; first | exact (b2i_t (by assumption)).symm | exact (b2i_f (by intro h9; exact h9 (by assumption))).symm) | (simp only [sel]; rw [if_neg (by (try simp only [b2i_eq0, b2i_ne0, decide_eq_true_eq] at *); (try simp only [mI, mA, sI_setA, sI_setQ, sI_setR, sA_setI, sA_setR, sA_setQ, fa_lt, fa_le, fa_eq, Int32.reduceToInt] at *); omega), if_neg (by (try simp only [b2i_eq0, b2i_ne0, decide_eq_true_eq] at *); (try simp only [mI, mA, sI_setA, sI_setQ, sI_setR, sA_setI, sA_setR, sA_setQ, fa_lt, fa_le, fa_eq, Int32.reduceToInt] at *); omega)]), rfl⟩⟩
      · skip
        refine r_aload_n dX9_cell_30 rfl rfl ?_
        refine r_getR dX9_cell_31 lf_X9_13 rfl rfl (shM_R h (j := 1) rfl) (shM_L h (j := 1) rfl) ?_
        refine r_iload_n dX9_cell_34 rfl rfl ?_
        refine r_zald dX9_cell_35 rfl (show vp_in _ 36 from vp_in_iff.mpr (by (try simp only [b2i_eq0, b2i_ne0, decide_eq_true_eq] at *); (try simp only [mI, mA, sI_setA, sI_setQ, sI_setR, sA_setI, sA_setR, sA_setQ, fa_lt, fa_le, fa_eq, Int32.reduceToInt] at *); omega)) ?_
        refine r_if_eq 43 dX9_cell_36 (by decide) (fun q36 => ?_) (fun q36 => ?_)
        · skip
          refine r_iconst (v := 0) dX9_cell_43 (by decide) ?_
          refine r_goto 48 dX9_cell_44 (by decide) ?_
          exact r_iret dX9_cell_48 rfl (Nat.zero_le _) (Nat.zero_le _) ⟨_, rfl, ⟨by rw [if_pos (by (try simp only [b2i_eq0, b2i_ne0, decide_eq_true_eq] at *); (try simp only [mI, mA, sI_setA, sI_setQ, sI_setR, sA_setI, sA_setR, sA_setQ, fa_lt, fa_le, fa_eq, Int32.reduceToInt] at *); omega)]; first | (simp only [sel]; rw [if_pos (by (try simp only [b2i_eq0, b2i_ne0, decide_eq_true_eq] at *); (try simp only [mI, mA, sI_setA, sI_setQ, sI_setR, sA_setI, sA_setR, sA_setQ, fa_lt, fa_le, fa_eq, Int32.reduceToInt] at *); omega)]; done) | (simp only [sel]; rw [if_neg (by (try simp only [b2i_eq0, b2i_ne0, decide_eq_true_eq] at *); (try simp only [mI, mA, sI_setA, sI_setQ, sI_setR, sA_setI, sA_setR, sA_setQ, fa_lt, fa_le, fa_eq, Int32.reduceToInt] at *); omega), if_pos (by (try simp only [b2i_eq0, b2i_ne0, decide_eq_true_eq] at *); (try simp only [mI, mA, sI_setA, sI_setQ, sI_setR, sA_setI, sA_setR, sA_setQ, fa_lt, fa_le, fa_eq, Int32.reduceToInt] at *); omega)]; first | exact (b2i_t (by assumption)).symm | exact (b2i_f (by intro h9; exact h9 (by assumption))).symm) | (simp only [sel]; rw [if_neg (by (try simp only [b2i_eq0, b2i_ne0, decide_eq_true_eq] at *); (try simp only [mI, mA, sI_setA, sI_setQ, sI_setR, sA_setI, sA_setR, sA_setQ, fa_lt, fa_le, fa_eq, Int32.reduceToInt] at *); omega), if_neg (by (try simp only [b2i_eq0, b2i_ne0, decide_eq_true_eq] at *); (try simp only [mI, mA, sI_setA, sI_setQ, sI_setR, sA_setI, sA_setR, sA_setQ, fa_lt, fa_le, fa_eq, Int32.reduceToInt] at *); omega)]), rfl⟩⟩
        · skip
          refine r_iconst (v := 1) dX9_cell_39 (by decide) ?_
          refine r_goto 48 dX9_cell_40 (by decide) ?_
          exact r_iret dX9_cell_48 rfl (Nat.zero_le _) (Nat.zero_le _) ⟨_, rfl, ⟨by rw [if_pos (by (try simp only [b2i_eq0, b2i_ne0, decide_eq_true_eq] at *); (try simp only [mI, mA, sI_setA, sI_setQ, sI_setR, sA_setI, sA_setR, sA_setQ, fa_lt, fa_le, fa_eq, Int32.reduceToInt] at *); omega)]; first | (simp only [sel]; rw [if_pos (by (try simp only [b2i_eq0, b2i_ne0, decide_eq_true_eq] at *); (try simp only [mI, mA, sI_setA, sI_setQ, sI_setR, sA_setI, sA_setR, sA_setQ, fa_lt, fa_le, fa_eq, Int32.reduceToInt] at *); omega)]; done) | (simp only [sel]; rw [if_neg (by (try simp only [b2i_eq0, b2i_ne0, decide_eq_true_eq] at *); (try simp only [mI, mA, sI_setA, sI_setQ, sI_setR, sA_setI, sA_setR, sA_setQ, fa_lt, fa_le, fa_eq, Int32.reduceToInt] at *); omega), if_pos (by (try simp only [b2i_eq0, b2i_ne0, decide_eq_true_eq] at *); (try simp only [mI, mA, sI_setA, sI_setQ, sI_setR, sA_setI, sA_setR, sA_setQ, fa_lt, fa_le, fa_eq, Int32.reduceToInt] at *); omega)]; first | exact (b2i_t (by assumption)).symm | exact (b2i_f (by intro h9; exact h9 (by assumption))).symm) | (simp only [sel]; rw [if_neg (by (try simp only [b2i_eq0, b2i_ne0, decide_eq_true_eq] at *); (try simp only [mI, mA, sI_setA, sI_setQ, sI_setR, sA_setI, sA_setR, sA_setQ, fa_lt, fa_le, fa_eq, Int32.reduceToInt] at *); omega), if_neg (by (try simp only [b2i_eq0, b2i_ne0, decide_eq_true_eq] at *); (try simp only [mI, mA, sI_setA, sI_setQ, sI_setR, sA_setI, sA_setR, sA_setQ, fa_lt, fa_le, fa_eq, Int32.reduceToInt] at *); omega)]), rfl⟩⟩
    · skip
      refine r_aload_n dX9_cell_16 rfl rfl ?_
      refine r_getR dX9_cell_17 lf_X9_9 rfl rfl (shM_R h (j := 0) rfl) (shM_L h (j := 0) rfl) ?_
      refine r_iload_n dX9_cell_20 rfl rfl ?_
      refine r_iald dX9_cell_21 rfl (show vp_in _ 36 from vp_in_iff.mpr (by (try simp only [b2i_eq0, b2i_ne0, decide_eq_true_eq] at *); (try simp only [mI, mA, sI_setA, sI_setQ, sI_setR, sA_setI, sA_setR, sA_setQ, fa_lt, fa_le, fa_eq, Int32.reduceToInt] at *); omega)) ?_
      refine r_goto 48 dX9_cell_22 (by decide) ?_
      exact r_iret dX9_cell_48 rfl (Nat.zero_le _) (Nat.zero_le _) ⟨_, rfl, ⟨by rw [if_pos (by (try simp only [b2i_eq0, b2i_ne0, decide_eq_true_eq] at *); (try simp only [mI, mA, sI_setA, sI_setQ, sI_setR, sA_setI, sA_setR, sA_setQ, fa_lt, fa_le, fa_eq, Int32.reduceToInt] at *); omega)]; first | (simp only [sel]; rw [if_pos (by (try simp only [b2i_eq0, b2i_ne0, decide_eq_true_eq] at *); (try simp only [mI, mA, sI_setA, sI_setQ, sI_setR, sA_setI, sA_setR, sA_setQ, fa_lt, fa_le, fa_eq, Int32.reduceToInt] at *); omega)]; done) | (simp only [sel]; rw [if_neg (by (try simp only [b2i_eq0, b2i_ne0, decide_eq_true_eq] at *); (try simp only [mI, mA, sI_setA, sI_setQ, sI_setR, sA_setI, sA_setR, sA_setQ, fa_lt, fa_le, fa_eq, Int32.reduceToInt] at *); omega), if_pos (by (try simp only [b2i_eq0, b2i_ne0, decide_eq_true_eq] at *); (try simp only [mI, mA, sI_setA, sI_setQ, sI_setR, sA_setI, sA_setR, sA_setQ, fa_lt, fa_le, fa_eq, Int32.reduceToInt] at *); omega)]; first | exact (b2i_t (by assumption)).symm | exact (b2i_f (by intro h9; exact h9 (by assumption))).symm) | (simp only [sel]; rw [if_neg (by (try simp only [b2i_eq0, b2i_ne0, decide_eq_true_eq] at *); (try simp only [mI, mA, sI_setA, sI_setQ, sI_setR, sA_setI, sA_setR, sA_setQ, fa_lt, fa_le, fa_eq, Int32.reduceToInt] at *); omega), if_neg (by (try simp only [b2i_eq0, b2i_ne0, decide_eq_true_eq] at *); (try simp only [mI, mA, sI_setA, sI_setQ, sI_setR, sA_setI, sA_setR, sA_setQ, fa_lt, fa_le, fa_eq, Int32.reduceToInt] at *); omega)]), rfl⟩⟩
  · skip
    refine r_iconst (v := (-1)) dX9_cell_10 (by decide) ?_
    exact r_iret dX9_cell_11 rfl (Nat.zero_le _) (Nat.zero_le _) ⟨_, rfl, by first | exact ⟨(if_pos (by (try simp only [b2i_eq0, b2i_ne0, decide_eq_true_eq] at *); (try simp only [mI, mA, sI_setA, sI_setQ, sI_setR, sA_setI, sA_setR, sA_setQ, fa_lt, fa_le, fa_eq, Int32.reduceToInt] at *); omega)).symm, rfl⟩ | exact ⟨(if_neg (by (try simp only [b2i_eq0, b2i_ne0, decide_eq_true_eq] at *); (try simp only [mI, mA, sI_setA, sI_setQ, sI_setR, sA_setI, sA_setR, sA_setQ, fa_lt, fa_le, fa_eq, Int32.reduceToInt] at *); omega)).symm, rfl⟩⟩
set_option maxHeartbeats 4000000 in
theorem c_X9_minute {l : Launch} {G : va_G} {cy : Nat → ClassId} (a : Int32) (S : HS) (h : ShM S) (ha : 0 ≤ a.toInt ∧ a.toInt < 12) : Cn l G cy yX9_minute cX9_minute 2 (some .int) 0 [.ref 2000, .int a] S 0 0 (qI (fun r S2 => r = 30 * (mA S 3 a.toNatClampNeg - mA S 3 a.toNatClampNeg / 6 * 6 + mA S 3 a.toNatClampNeg / 6 + 1) ∧ S2 = S)) := by
  refine Cn.of [some (.ref 2000), some (.int a)] (by decide) rfl (Nat.le_of_ble_eq_true rfl) ?_
  refine r_bipush (v := 30) dX9_minute_0 (by decide) ?_
  refine r_aload_n dX9_minute_2 rfl rfl ?_
  refine r_getR dX9_minute_3 lf_X9_20 rfl rfl (shM_R h (j := 3) rfl) (shM_L h (j := 3) rfl) ?_
  refine r_iload_n dX9_minute_6 rfl rfl ?_
  refine r_iald dX9_minute_7 rfl (show vp_in _ 12 from vp_in_iff.mpr (by (try simp only [b2i_eq0, b2i_ne0, decide_eq_true_eq] at *); (try simp only [mI, mA, sI_setA, sI_setQ, sI_setR, sA_setI, sA_setR, sA_setQ, fa_lt, fa_le, fa_eq, Int32.reduceToInt] at *); omega)) ?_
  refine r_bipush (v := 6) dX9_minute_8 (by decide) ?_
  refine r_irem dX9_minute_10 (by decide) ?_
  refine r_aload_n dX9_minute_11 rfl rfl ?_
  refine r_getR dX9_minute_12 lf_X9_20 rfl rfl (shM_R h (j := 3) rfl) (shM_L h (j := 3) rfl) ?_
  refine r_iload_n dX9_minute_15 rfl rfl ?_
  refine r_iald dX9_minute_16 rfl (show vp_in _ 12 from vp_in_iff.mpr (by (try simp only [b2i_eq0, b2i_ne0, decide_eq_true_eq] at *); (try simp only [mI, mA, sI_setA, sI_setQ, sI_setR, sA_setI, sA_setR, sA_setQ, fa_lt, fa_le, fa_eq, Int32.reduceToInt] at *); omega)) ?_
  refine r_bipush (v := 6) dX9_minute_17 (by decide) ?_
  refine r_idiv dX9_minute_19 (by decide) ?_
  refine r_iadd dX9_minute_20 ?_
  refine r_iconst (v := 1) dX9_minute_21 (by decide) ?_
  refine r_iadd dX9_minute_22 ?_
  refine r_imul dX9_minute_23 ?_
  exact r_iret dX9_minute_24 rfl (Nat.zero_le _) (Nat.zero_le _) ⟨_, rfl, ⟨rfl, rfl⟩⟩
set_option maxHeartbeats 4000000 in
theorem c_X9_fail {l : Launch} {G : va_G} {cy : Nat → ClassId} (S : HS) (h : ShM S) : Cn l G cy yX9_fail cX9_fail 1 none 0 [.ref 2000] S 0 0 (qV (fun S2 => S2 = setI S (fid 9 49) 2000 (if mI S 49 = -1 then mI S 48 else mI S 49))) := by
  refine Cn.of [some (.ref 2000)] (by decide) rfl (Nat.le_of_ble_eq_true rfl) ?_
  refine r_aload_n dX9_fail_0 rfl rfl ?_
  refine r_aload_n dX9_fail_1 rfl rfl ?_
  refine r_getI dX9_fail_2 lf_X9_221 rfl rfl ?_
  refine r_iconst (v := (-1)) dX9_fail_5 (by decide) ?_
  refine r_icmp_ne 16 dX9_fail_6 (by decide) (fun q6 => ?_) (fun q6 => ?_)
  · skip
    refine r_aload_n dX9_fail_16 rfl rfl ?_
    refine r_getI dX9_fail_17 lf_X9_221 rfl rfl ?_
    refine r_putI dX9_fail_20 (lp_X9_221 _) rfl rfl ?_
    exact r_vret dX9_fail_23 rfl (Nat.zero_le _) (Nat.zero_le _) ⟨rfl, by first | rw [if_pos (by assumption)] | rw [if_neg (by assumption)]⟩
  · skip
    refine r_aload_n dX9_fail_9 rfl rfl ?_
    refine r_getI dX9_fail_10 lf_X9_218 rfl rfl ?_
    refine r_goto 20 dX9_fail_13 (by decide) ?_
    refine r_putI dX9_fail_20 (lp_X9_221 _) rfl rfl ?_
    exact r_vret dX9_fail_23 rfl (Nat.zero_le _) (Nat.zero_le _) ⟨rfl, by first | rw [if_pos (by assumption)] | rw [if_neg (by assumption)]⟩
set_option maxHeartbeats 4000000 in
theorem c_X9_say {l : Launch} {G : va_G} {cy : Nat → ClassId} (a : Int32) (S : HS) (h : ShM S) (hs : 0 ≤ (mI S 51).toInt ∧ (mI S 51).toInt < 420) : Cn l G cy yX9_say cX9_say 2 none 0 [.ref 2000, .int a] S 0 0 (qV (fun S2 => S2 = setI (setA S (ma 45) (upd (mA S 45) (mI S 51).toNatClampNeg a)) (fid 9 51) 2000 (mI S 51 + 1))) := by
  refine Cn.of [some (.ref 2000), some (.int a)] (by decide) rfl (Nat.le_of_ble_eq_true rfl) ?_
  refine r_aload_n dX9_say_0 rfl rfl ?_
  refine r_getR dX9_say_1 lf_X9_117 rfl rfl (shM_R h (j := 45) rfl) (shM_L h (j := 45) rfl) ?_
  refine r_aload_n dX9_say_4 rfl rfl ?_
  refine r_getI dX9_say_5 lf_X9_224 rfl rfl ?_
  refine r_iload_n dX9_say_8 rfl rfl ?_
  refine r_iast dX9_say_9 rfl (show vp_in _ 420 from vp_in_iff.mpr (by (try simp only [b2i_eq0, b2i_ne0, decide_eq_true_eq] at *); (try simp only [mI, mA, sI_setA, sI_setQ, sI_setR, sA_setI, sA_setR, sA_setQ, fa_lt, fa_le, fa_eq, Int32.reduceToInt] at *); omega)) ?_
  refine r_aload_n dX9_say_10 rfl rfl ?_
  refine r_dup dX9_say_11 rfl ?_
  refine r_getI dX9_say_12 lf_X9_224 rfl rfl ?_
  refine r_iconst (v := 1) dX9_say_15 (by decide) ?_
  refine r_iadd dX9_say_16 ?_
  refine r_putI dX9_say_17 (lp_X9_224 _) rfl rfl ?_
  exact r_vret dX9_say_20 rfl (Nat.zero_le _) (Nat.zero_le _) ⟨rfl, rfl⟩
set_option maxHeartbeats 4000000 in
theorem c_X9_value {l : Launch} {G : va_G} {cy : Nat → ClassId} (a w : Int32) (S : HS) (h : ShM S) (ha : 0 ≤ a.toInt ∧ a.toInt < 400) : Cn l G cy yX9_value cX9_value 3 (some .int) 0 [.ref 2000, .int a, .int w] S 0 0 (qI (fun r S2 => r = sel w.toInt (mA S 21 a.toNatClampNeg) [mA S 18 a.toNatClampNeg, mA S 19 a.toNatClampNeg, mA S 22 a.toNatClampNeg, mI S 24 - mA S 13 a.toNatClampNeg] ∧ S2 = S)) := by
  refine Cn.of [some (.ref 2000), some (.int a), some (.int w)] (by decide) rfl (Nat.le_of_ble_eq_true rfl) ?_
  refine r_iload_n dX9_value_0 rfl rfl ?_
  by_cases e1_0 : (w).toInt = 0
  · refine r_tableIn 32 dX9_value_1 (by rw [e1_0]; decide) (by rw [e1_0]; decide) (by rw [e1_0]; rfl) (by decide) ?_
    refine r_aload_n dX9_value_32 rfl rfl ?_
    refine r_getR dX9_value_33 lf_X9_65 rfl rfl (shM_R h (j := 18) rfl) (shM_L h (j := 18) rfl) ?_
    refine r_iload_n dX9_value_36 rfl rfl ?_
    refine r_iald dX9_value_37 rfl (show vp_in _ 400 from vp_in_iff.mpr (by (try simp only [b2i_eq0, b2i_ne0, decide_eq_true_eq] at *); (try simp only [mI, mA, sI_setA, sI_setQ, sI_setR, sA_setI, sA_setR, sA_setQ, fa_lt, fa_le, fa_eq, Int32.reduceToInt] at *); omega)) ?_
    exact r_iret dX9_value_38 rfl (Nat.zero_le _) (Nat.zero_le _) ⟨_, rfl, ⟨by simp [sel, e1_0], rfl⟩⟩
  by_cases e1_1 : (w).toInt = 1
  · refine r_tableIn 39 dX9_value_1 (by rw [e1_1]; decide) (by rw [e1_1]; decide) (by rw [e1_1]; rfl) (by decide) ?_
    refine r_aload_n dX9_value_39 rfl rfl ?_
    refine r_getR dX9_value_40 lf_X9_68 rfl rfl (shM_R h (j := 19) rfl) (shM_L h (j := 19) rfl) ?_
    refine r_iload_n dX9_value_43 rfl rfl ?_
    refine r_iald dX9_value_44 rfl (show vp_in _ 400 from vp_in_iff.mpr (by (try simp only [b2i_eq0, b2i_ne0, decide_eq_true_eq] at *); (try simp only [mI, mA, sI_setA, sI_setQ, sI_setR, sA_setI, sA_setR, sA_setQ, fa_lt, fa_le, fa_eq, Int32.reduceToInt] at *); omega)) ?_
    exact r_iret dX9_value_45 rfl (Nat.zero_le _) (Nat.zero_le _) ⟨_, rfl, ⟨by simp [sel, e1_1], rfl⟩⟩
  by_cases e1_2 : (w).toInt = 2
  · refine r_tableIn 46 dX9_value_1 (by rw [e1_2]; decide) (by rw [e1_2]; decide) (by rw [e1_2]; rfl) (by decide) ?_
    refine r_aload_n dX9_value_46 rfl rfl ?_
    refine r_getR dX9_value_47 lf_X9_77 rfl rfl (shM_R h (j := 22) rfl) (shM_L h (j := 22) rfl) ?_
    refine r_iload_n dX9_value_50 rfl rfl ?_
    refine r_iald dX9_value_51 rfl (show vp_in _ 400 from vp_in_iff.mpr (by (try simp only [b2i_eq0, b2i_ne0, decide_eq_true_eq] at *); (try simp only [mI, mA, sI_setA, sI_setQ, sI_setR, sA_setI, sA_setR, sA_setQ, fa_lt, fa_le, fa_eq, Int32.reduceToInt] at *); omega)) ?_
    exact r_iret dX9_value_52 rfl (Nat.zero_le _) (Nat.zero_le _) ⟨_, rfl, ⟨by simp [sel, e1_2], rfl⟩⟩
  by_cases e1_3 : (w).toInt = 3
  · refine r_tableIn 53 dX9_value_1 (by rw [e1_3]; decide) (by rw [e1_3]; decide) (by rw [e1_3]; rfl) (by decide) ?_
    refine r_aload_n dX9_value_53 rfl rfl ?_
    refine r_getI dX9_value_54 lf_X9_183 rfl rfl ?_
    refine r_aload_n dX9_value_57 rfl rfl ?_
    refine r_getR dX9_value_58 lf_X9_50 rfl rfl (shM_R h (j := 13) rfl) (shM_L h (j := 13) rfl) ?_
    refine r_iload_n dX9_value_61 rfl rfl ?_
    refine r_iald dX9_value_62 rfl (show vp_in _ 400 from vp_in_iff.mpr (by (try simp only [b2i_eq0, b2i_ne0, decide_eq_true_eq] at *); (try simp only [mI, mA, sI_setA, sI_setQ, sI_setR, sA_setI, sA_setR, sA_setQ, fa_lt, fa_le, fa_eq, Int32.reduceToInt] at *); omega)) ?_
    refine r_isub dX9_value_63 ?_
    exact r_iret dX9_value_64 rfl (Nat.zero_le _) (Nat.zero_le _) ⟨_, rfl, ⟨by simp [sel, e1_3], rfl⟩⟩
  refine r_tableOut 65 dX9_value_1 (by omega) (by decide) ?_
  refine r_aload_n dX9_value_65 rfl rfl ?_
  refine r_getR dX9_value_66 lf_X9_74 rfl rfl (shM_R h (j := 21) rfl) (shM_L h (j := 21) rfl) ?_
  refine r_iload_n dX9_value_69 rfl rfl ?_
  refine r_iald dX9_value_70 rfl (show vp_in _ 400 from vp_in_iff.mpr (by (try simp only [b2i_eq0, b2i_ne0, decide_eq_true_eq] at *); (try simp only [mI, mA, sI_setA, sI_setQ, sI_setR, sA_setI, sA_setR, sA_setQ, fa_lt, fa_le, fa_eq, Int32.reduceToInt] at *); omega)) ?_
  exact r_iret dX9_value_71 rfl (Nat.zero_le _) (Nat.zero_le _) ⟨_, rfl, ⟨by simp only [sel]; rw [if_neg (by omega), if_neg (by omega), if_neg (by omega), if_neg (by omega)], rfl⟩⟩
