/-! ===== the system: a new boat, a new yard ===== -/
def initB (S : HS) (o : Nat) (a : Int32) : HS := setI (setI (setR (newA (setR (newA S (o + 1)) (fid 0 0) o (some (o + 1))) (o + 2)) (fid 0 1) o (some (o + 2))) (fid 0 3) o (-1)) (fid 0 2) o a
def initY (S : HS) (o : Nat) (a w : Int32) : HS := setI (setI (setR (newA S (o + 1)) (fid 7 0) o (some (o + 1))) (fid 7 1) o (if 6 < a then 6 else a)) (fid 7 2) o w
def newB (S : HS) (a : Int32) : HS := setI (setQ (initB (newO S (100 + 3 * nn (cI S 9))) (100 + 3 * nn (cI S 9)) a) 5 (va_up (sQ S 5) (cI S 9).toNatClampNeg (some (100 + 3 * nn (cI S 9))))) (fid 8 9) 0 (cI S 9 + 1)
def newY (S : HS) (a w : Int32) : HS := setI (setQ (initY (newO S (200 + 2 * nn (cI S 10))) (200 + 2 * nn (cI S 10)) a w) 6 (va_up (sQ S 6) (cI S 10).toNatClampNeg (some (200 + 2 * nn (cI S 10))))) (fid 8 10) 0 (cI S 10 + 1)
theorem ShC.nB {S : HS} (h : ShC S) (hlt : nn (cI S 9) < 12) {j : Nat} (hj : j < 3) : 100 + 3 * nn (cI S 9) + j ∉ sL S := fun q => by
  have h1 := (h.2.1 _).mp q
  have hy := h.y
  have hl := h.l
  have hyn : nn (cI S 10) ≤ 4 := by unfold nn; omega
  omega
theorem ShC.nY {S : HS} (h : ShC S) (hlt : nn (cI S 10) < 4) {j : Nat} (hj : j < 2) : 200 + 2 * nn (cI S 10) + j ∉ sL S := fun q => by
  have h1 := (h.2.1 _).mp q
  have hb := h.b
  have hbn : nn (cI S 9) ≤ 12 := by unfold nn; omega
  omega
set_option maxHeartbeats 4000000 in
theorem c_X8_boat {l : Launch} {G : va_G} {cy : Nat → ClassId} (a : Int32) (S : HS) (h : ShC S) : Cn l G cy yX8_boat cX8_boat 2 (some .int) 2 [.ref 0, .int a] S 3 24 (qI (fun r S2 => (r = if (¬ 12 ≤ (cI S 9).toInt ∧ 0 ≤ a.toInt ∧ a.toInt ≤ 60) then cI S 9 + 1 - 1 else -1) ∧ S2 = if (¬ 12 ≤ (cI S 9).toInt ∧ 0 ≤ a.toInt ∧ a.toInt ≤ 60) then newB S a else S)) := by
  refine Cn.of [some (.ref 0), some (.int a)] (by decide) rfl (Nat.le_of_ble_eq_true rfl) ?_
  refine r_aload_n dX8_boat_0 rfl rfl ?_
  refine r_getI dX8_boat_1 lf_X8_89 rfl rfl ?_
  refine r_bipush (v := 12) dX8_boat_4 (by decide) ?_
  refine r_icmp_ge 19 dX8_boat_6 (by decide) (fun q6 => ?_) (fun q6 => ?_)
  · skip
    refine r_iconst (v := (-1)) dX8_boat_19 (by decide) ?_
    exact r_iret dX8_boat_20 rfl (Nat.le_of_ble_eq_true rfl) (Nat.le_of_ble_eq_true rfl) ⟨_, rfl, by first | exact ⟨(if_pos (by (try simp only [b2i_eq0, b2i_ne0, decide_eq_true_eq] at *); (try simp only [cI, sI_setA, sI_setQ, sI_setR, sA_setI, sA_setR, sA_setQ, fa_lt, fa_le, fa_eq, Int32.reduceToInt] at *); omega)).symm, (if_pos (by (try simp only [b2i_eq0, b2i_ne0, decide_eq_true_eq] at *); (try simp only [cI, sI_setA, sI_setQ, sI_setR, sA_setI, sA_setR, sA_setQ, fa_lt, fa_le, fa_eq, Int32.reduceToInt] at *); omega)).symm⟩ | exact ⟨(if_neg (by (try simp only [b2i_eq0, b2i_ne0, decide_eq_true_eq] at *); (try simp only [cI, sI_setA, sI_setQ, sI_setR, sA_setI, sA_setR, sA_setQ, fa_lt, fa_le, fa_eq, Int32.reduceToInt] at *); omega)).symm, (if_neg (by (try simp only [b2i_eq0, b2i_ne0, decide_eq_true_eq] at *); (try simp only [cI, sI_setA, sI_setQ, sI_setR, sA_setI, sA_setR, sA_setQ, fa_lt, fa_le, fa_eq, Int32.reduceToInt] at *); omega)).symm⟩⟩
  · skip
    refine r_iload_n dX8_boat_9 rfl rfl ?_
    refine r_iconst (v := 0) dX8_boat_10 (by decide) ?_
    refine r_bipush (v := 60) dX8_boat_11 (by decide) ?_
    refine r_invS3i dX8_boat_13 lm_X8_74 (c_X8_isWithin _ _ _ _) (Nat.le_of_ble_eq_true rfl) (Nat.le_of_ble_eq_true rfl) (Nat.le_of_ble_eq_true rfl) (Nat.le_of_ble_eq_true rfl) (fun r13 S13 hq13 => ?_)
    obtain ⟨rfl, hz13⟩ := hq13
    replace hz13 := hz13.symm
    subst hz13
    refine r_if_ne 21 dX8_boat_16 (by decide) (fun q16 => ?_) (fun q16 => ?_)
    · skip
      have hbb := h.b
      have hlt : nn (cI S 9) < 12 := by unfold nn; (simp only [cI, fa_le, Int32.reduceToInt] at *); omega
      have hkb := tkB hlt
      have k1 : tk ((100 + 3 * nn (cI S 9)) + 1) = 10 := by rw [show (100 + 3 * nn (cI S 9)) + 1 = 101 + 3 * nn (cI S 9) by omega]; exact tkBp hlt
      have k2 : tk ((100 + 3 * nn (cI S 9)) + 2) = 10 := by rw [show (100 + 3 * nn (cI S 9)) + 2 = 102 + 3 * nn (cI S 9) by omega]; exact tkBg hlt
      have n1 : tn ((100 + 3 * nn (cI S 9)) + 1) = 8 := by rw [show (100 + 3 * nn (cI S 9)) + 1 = 101 + 3 * nn (cI S 9) by omega]; exact tnBp hlt
      have n2 : tn ((100 + 3 * nn (cI S 9)) + 2) = 8 := by rw [show (100 + 3 * nn (cI S 9)) + 2 = 102 + 3 * nn (cI S 9) by omega]; exact tnBg hlt
      have f0 : (100 + 3 * nn (cI S 9)) ∉ sL S := h.nB hlt (j := 0) (by decide)
      have f1 : (100 + 3 * nn (cI S 9)) + 1 ∉ sL S := h.nB hlt (j := 1) (by decide)
      have f2 : (100 + 3 * nn (cI S 9)) + 2 ∉ sL S := h.nB hlt (j := 2) (by decide)
      have hQ5 : sQ (initB (newO S (100 + 3 * nn (cI S 9))) (100 + 3 * nn (cI S 9)) a) 5 = sQ S 5 := by
        show va_up (va_up (sQ S) _ _) _ _ 5 = sQ S 5
        rw [va_up_ne _ _ (by omega), va_up_ne _ _ (by omega)]
      have hI9 : ∀ r, sI (setQ (initB (newO S (100 + 3 * nn (cI S 9))) (100 + 3 * nn (cI S 9)) a) 5 r) (fid 8 9) 0 = cI S 9 := fun r => by
        show va_up (sI S (fid 8 9)) (100 + 3 * nn (cI S 9)) 0 0 = _
        rw [va_up_ne _ _ (by omega)]
      refine r_aload_n dX8_boat_21 rfl rfl ?_
      refine r_getR dX8_boat_22 lf_X8_18 rfl rfl (shR8_1 h.F) (shL_5 h.F) ?_
      refine r_aload_n dX8_boat_25 rfl rfl ?_
      refine r_getI dX8_boat_26 lf_X8_89 rfl rfl ?_
      refine r_new (100 + 3 * nn (cI S 9)) dX8_boat_29 ln_X8_16 hkb f0 (h.fr f0) (Nat.le_of_ble_eq_true rfl) (Nat.le_of_ble_eq_true rfl) ?_
      refine r_dup dX8_boat_32 rfl ?_
      refine r_iload_n dX8_boat_33 rfl rfl ?_
      refine r_invI1v dX8_boat_34 lm_X8_92 (c_X0_init (100 + 3 * nn (cI S 9)) a (newO S (100 + 3 * nn (cI S 9))) hkb k1 k2 n1 n2 (nm_app f1 (by omega)) (nm_app f2 (by omega)) (Fr_newO (h.fr f1)) (Fr_newO (h.fr f2))) (Nat.le_of_ble_eq_true rfl) (Nat.le_of_ble_eq_true rfl) (Nat.le_of_ble_eq_true rfl) (Nat.le_of_ble_eq_true rfl) (fun S34 hq34 => ?_)
      replace hq34 : S34 = initB (newO S (100 + 3 * nn (cI S 9))) (100 + 3 * nn (cI S 9)) a := hq34
      subst hq34
      refine r_aast12 dX8_boat_37 rfl hkb (show vp_in _ 12 from vp_in_iff.mpr (by (try simp only [b2i_eq0, b2i_ne0, decide_eq_true_eq] at *); (try simp only [cI, sI_setA, sI_setQ, sI_setR, sA_setI, sA_setR, sA_setQ, fa_lt, fa_le, fa_eq, Int32.reduceToInt] at *); omega)) ?_
      rw [hQ5]
      refine r_aload_n dX8_boat_38 rfl rfl ?_
      refine r_dup dX8_boat_39 rfl ?_
      refine r_getI dX8_boat_40 lf_X8_89 rfl rfl ?_
      rw [hI9]
      refine r_iconst (v := 1) dX8_boat_43 (by decide) ?_
      refine r_iadd dX8_boat_44 ?_
      refine r_putI dX8_boat_45 (lp_X8_89 _) rfl rfl ?_
      refine r_aload_n dX8_boat_48 rfl rfl ?_
      refine r_getI dX8_boat_49 lf_X8_89 rfl rfl ?_
      refine r_iconst (v := 1) dX8_boat_52 (by decide) ?_
      refine r_isub dX8_boat_53 ?_
      exact r_iret dX8_boat_54 rfl (Nat.le_of_ble_eq_true rfl) (Nat.le_of_ble_eq_true rfl) ⟨_, rfl, ⟨(if_pos (by (try simp only [b2i_eq0, b2i_ne0, decide_eq_true_eq] at *); (try simp only [cI, sI_setA, sI_setQ, sI_setR, sA_setI, sA_setR, sA_setQ, fa_lt, fa_le, fa_eq, Int32.reduceToInt] at *); omega)).symm, (if_pos (by (try simp only [b2i_eq0, b2i_ne0, decide_eq_true_eq] at *); (try simp only [cI, sI_setA, sI_setQ, sI_setR, sA_setI, sA_setR, sA_setQ, fa_lt, fa_le, fa_eq, Int32.reduceToInt] at *); omega)).symm⟩⟩
    · skip
      refine r_iconst (v := (-1)) dX8_boat_19 (by decide) ?_
      exact r_iret dX8_boat_20 rfl (Nat.le_of_ble_eq_true rfl) (Nat.le_of_ble_eq_true rfl) ⟨_, rfl, by first | exact ⟨(if_pos (by (try simp only [b2i_eq0, b2i_ne0, decide_eq_true_eq] at *); (try simp only [cI, sI_setA, sI_setQ, sI_setR, sA_setI, sA_setR, sA_setQ, fa_lt, fa_le, fa_eq, Int32.reduceToInt] at *); omega)).symm, (if_pos (by (try simp only [b2i_eq0, b2i_ne0, decide_eq_true_eq] at *); (try simp only [cI, sI_setA, sI_setQ, sI_setR, sA_setI, sA_setR, sA_setQ, fa_lt, fa_le, fa_eq, Int32.reduceToInt] at *); omega)).symm⟩ | exact ⟨(if_neg (by (try simp only [b2i_eq0, b2i_ne0, decide_eq_true_eq] at *); (try simp only [cI, sI_setA, sI_setQ, sI_setR, sA_setI, sA_setR, sA_setQ, fa_lt, fa_le, fa_eq, Int32.reduceToInt] at *); omega)).symm, (if_neg (by (try simp only [b2i_eq0, b2i_ne0, decide_eq_true_eq] at *); (try simp only [cI, sI_setA, sI_setQ, sI_setR, sA_setI, sA_setR, sA_setQ, fa_lt, fa_le, fa_eq, Int32.reduceToInt] at *); omega)).symm⟩⟩
set_option maxHeartbeats 4000000 in
theorem c_X8_yard {l : Launch} {G : va_G} {cy : Nat → ClassId} (a w : Int32) (S : HS) (h : ShC S) : Cn l G cy yX8_yard cX8_yard 3 (some .int) 2 [.ref 0, .int a, .int w] S 2 11 (qI (fun r S2 => (r = if (¬ 4 ≤ (cI S 10).toInt ∧ (1 ≤ a.toInt ∧ a.toInt ≤ 6) ∧ 1 ≤ w.toInt ∧ w.toInt ≤ 500) then cI S 10 + 1 - 1 else -1) ∧ S2 = if (¬ 4 ≤ (cI S 10).toInt ∧ (1 ≤ a.toInt ∧ a.toInt ≤ 6) ∧ 1 ≤ w.toInt ∧ w.toInt ≤ 500) then newY S a w else S)) := by
  refine Cn.of [some (.ref 0), some (.int a), some (.int w)] (by decide) rfl (Nat.le_of_ble_eq_true rfl) ?_
  refine r_aload_n dX8_yard_0 rfl rfl ?_
  refine r_getI dX8_yard_1 lf_X8_105 rfl rfl ?_
  refine r_iconst (v := 4) dX8_yard_4 (by decide) ?_
  refine r_icmp_ge 29 dX8_yard_5 (by decide) (fun q5 => ?_) (fun q5 => ?_)
  · skip
    refine r_iconst (v := (-1)) dX8_yard_29 (by decide) ?_
    exact r_iret dX8_yard_30 rfl (Nat.le_of_ble_eq_true rfl) (Nat.le_of_ble_eq_true rfl) ⟨_, rfl, by first | exact ⟨(if_pos (by (try simp only [b2i_eq0, b2i_ne0, decide_eq_true_eq] at *); (try simp only [cI, sI_setA, sI_setQ, sI_setR, sA_setI, sA_setR, sA_setQ, fa_lt, fa_le, fa_eq, Int32.reduceToInt] at *); omega)).symm, (if_pos (by (try simp only [b2i_eq0, b2i_ne0, decide_eq_true_eq] at *); (try simp only [cI, sI_setA, sI_setQ, sI_setR, sA_setI, sA_setR, sA_setQ, fa_lt, fa_le, fa_eq, Int32.reduceToInt] at *); omega)).symm⟩ | exact ⟨(if_neg (by (try simp only [b2i_eq0, b2i_ne0, decide_eq_true_eq] at *); (try simp only [cI, sI_setA, sI_setQ, sI_setR, sA_setI, sA_setR, sA_setQ, fa_lt, fa_le, fa_eq, Int32.reduceToInt] at *); omega)).symm, (if_neg (by (try simp only [b2i_eq0, b2i_ne0, decide_eq_true_eq] at *); (try simp only [cI, sI_setA, sI_setQ, sI_setR, sA_setI, sA_setR, sA_setQ, fa_lt, fa_le, fa_eq, Int32.reduceToInt] at *); omega)).symm⟩⟩
  · skip
    refine r_iload_n dX8_yard_8 rfl rfl ?_
    refine r_iconst (v := 1) dX8_yard_9 (by decide) ?_
    refine r_bipush (v := 6) dX8_yard_10 (by decide) ?_
    refine r_invS3i dX8_yard_12 lm_X8_74 (c_X8_isWithin _ _ _ _) (Nat.le_of_ble_eq_true rfl) (Nat.le_of_ble_eq_true rfl) (Nat.le_of_ble_eq_true rfl) (Nat.le_of_ble_eq_true rfl) (fun r12 S12 hq12 => ?_)
    obtain ⟨rfl, hz12⟩ := hq12
    replace hz12 := hz12.symm
    subst hz12
    refine r_if_eq 29 dX8_yard_15 (by decide) (fun q15 => ?_) (fun q15 => ?_)
    · skip
      refine r_iconst (v := (-1)) dX8_yard_29 (by decide) ?_
      exact r_iret dX8_yard_30 rfl (Nat.le_of_ble_eq_true rfl) (Nat.le_of_ble_eq_true rfl) ⟨_, rfl, by first | exact ⟨(if_pos (by (try simp only [b2i_eq0, b2i_ne0, decide_eq_true_eq] at *); (try simp only [cI, sI_setA, sI_setQ, sI_setR, sA_setI, sA_setR, sA_setQ, fa_lt, fa_le, fa_eq, Int32.reduceToInt] at *); omega)).symm, (if_pos (by (try simp only [b2i_eq0, b2i_ne0, decide_eq_true_eq] at *); (try simp only [cI, sI_setA, sI_setQ, sI_setR, sA_setI, sA_setR, sA_setQ, fa_lt, fa_le, fa_eq, Int32.reduceToInt] at *); omega)).symm⟩ | exact ⟨(if_neg (by (try simp only [b2i_eq0, b2i_ne0, decide_eq_true_eq] at *); (try simp only [cI, sI_setA, sI_setQ, sI_setR, sA_setI, sA_setR, sA_setQ, fa_lt, fa_le, fa_eq, Int32.reduceToInt] at *); omega)).symm, (if_neg (by (try simp only [b2i_eq0, b2i_ne0, decide_eq_true_eq] at *); (try simp only [cI, sI_setA, sI_setQ, sI_setR, sA_setI, sA_setR, sA_setQ, fa_lt, fa_le, fa_eq, Int32.reduceToInt] at *); omega)).symm⟩⟩
    · skip
      refine r_iload_n dX8_yard_18 rfl rfl ?_
      refine r_iconst (v := 1) dX8_yard_19 (by decide) ?_
      refine r_sipush (v := 500) dX8_yard_20 (by decide) ?_
      refine r_invS3i dX8_yard_23 lm_X8_74 (c_X8_isWithin _ _ _ _) (Nat.le_of_ble_eq_true rfl) (Nat.le_of_ble_eq_true rfl) (Nat.le_of_ble_eq_true rfl) (Nat.le_of_ble_eq_true rfl) (fun r23 S23 hq23 => ?_)
      obtain ⟨rfl, hz23⟩ := hq23
      replace hz23 := hz23.symm
      subst hz23
      refine r_if_ne 31 dX8_yard_26 (by decide) (fun q26 => ?_) (fun q26 => ?_)
      · skip
        have hbb := h.y
        have hlt : nn (cI S 10) < 4 := by unfold nn; (simp only [cI, fa_le, Int32.reduceToInt] at *); omega
        have hkb := tkY hlt
        have k1 : tk ((200 + 2 * nn (cI S 10)) + 1) = 10 := by rw [show (200 + 2 * nn (cI S 10)) + 1 = 201 + 2 * nn (cI S 10) by omega]; exact tkYf hlt
        have n1 : tn ((200 + 2 * nn (cI S 10)) + 1) = 6 := by rw [show (200 + 2 * nn (cI S 10)) + 1 = 201 + 2 * nn (cI S 10) by omega]; exact tnYf hlt
        have f0 : (200 + 2 * nn (cI S 10)) ∉ sL S := h.nY hlt (j := 0) (by decide)
        have f1 : (200 + 2 * nn (cI S 10)) + 1 ∉ sL S := h.nY hlt (j := 1) (by decide)
        have hQ5 : sQ (initY (newO S (200 + 2 * nn (cI S 10))) (200 + 2 * nn (cI S 10)) a w) 6 = sQ S 6 := by
          show va_up (sQ S) _ _ 6 = sQ S 6
          rw [va_up_ne _ _ (by omega)]
        have hI9 : ∀ r, sI (setQ (initY (newO S (200 + 2 * nn (cI S 10))) (200 + 2 * nn (cI S 10)) a w) 6 r) (fid 8 10) 0 = cI S 10 := fun r => by
          show va_up (sI S (fid 8 10)) (200 + 2 * nn (cI S 10)) 0 0 = _
          rw [va_up_ne _ _ (by omega)]
        refine r_aload_n dX8_yard_31 rfl rfl ?_
        refine r_getR dX8_yard_32 lf_X8_24 rfl rfl (shR8_2 h.F) (shL_6 h.F) ?_
        refine r_aload_n dX8_yard_35 rfl rfl ?_
        refine r_getI dX8_yard_36 lf_X8_105 rfl rfl ?_
        refine r_new (200 + 2 * nn (cI S 10)) dX8_yard_39 ln_X8_22 hkb f0 (h.fr f0) (Nat.le_of_ble_eq_true rfl) (Nat.le_of_ble_eq_true rfl) ?_
        refine r_dup dX8_yard_42 rfl ?_
        refine r_iload_n dX8_yard_43 rfl rfl ?_
        refine r_iload_n dX8_yard_44 rfl rfl ?_
        refine r_invI2v dX8_yard_45 lm_X8_108 (c_X7_init (200 + 2 * nn (cI S 10)) a w (newO S (200 + 2 * nn (cI S 10))) hkb k1 n1 (nm_app f1 (by omega)) (Fr_newO (h.fr f1))) (Nat.le_of_ble_eq_true rfl) (Nat.le_of_ble_eq_true rfl) (Nat.le_of_ble_eq_true rfl) (Nat.le_of_ble_eq_true rfl) (fun S45 hq45 => ?_)
        replace hq45 : S45 = initY (newO S (200 + 2 * nn (cI S 10))) (200 + 2 * nn (cI S 10)) a w := hq45
        subst hq45
        refine r_aast15 dX8_yard_48 rfl hkb (show vp_in _ 4 from vp_in_iff.mpr (by (try simp only [b2i_eq0, b2i_ne0, decide_eq_true_eq] at *); (try simp only [cI, sI_setA, sI_setQ, sI_setR, sA_setI, sA_setR, sA_setQ, fa_lt, fa_le, fa_eq, Int32.reduceToInt] at *); omega)) ?_
        rw [hQ5]
        refine r_aload_n dX8_yard_49 rfl rfl ?_
        refine r_dup dX8_yard_50 rfl ?_
        refine r_getI dX8_yard_51 lf_X8_105 rfl rfl ?_
        rw [hI9]
        refine r_iconst (v := 1) dX8_yard_54 (by decide) ?_
        refine r_iadd dX8_yard_55 ?_
        refine r_putI dX8_yard_56 (lp_X8_105 _) rfl rfl ?_
        refine r_aload_n dX8_yard_59 rfl rfl ?_
        refine r_getI dX8_yard_60 lf_X8_105 rfl rfl ?_
        refine r_iconst (v := 1) dX8_yard_63 (by decide) ?_
        refine r_isub dX8_yard_64 ?_
        exact r_iret dX8_yard_65 rfl (Nat.le_of_ble_eq_true rfl) (Nat.le_of_ble_eq_true rfl) ⟨_, rfl, ⟨(if_pos (by (try simp only [b2i_eq0, b2i_ne0, decide_eq_true_eq] at *); (try simp only [cI, sI_setA, sI_setQ, sI_setR, sA_setI, sA_setR, sA_setQ, fa_lt, fa_le, fa_eq, Int32.reduceToInt] at *); omega)).symm, (if_pos (by (try simp only [b2i_eq0, b2i_ne0, decide_eq_true_eq] at *); (try simp only [cI, sI_setA, sI_setQ, sI_setR, sA_setI, sA_setR, sA_setQ, fa_lt, fa_le, fa_eq, Int32.reduceToInt] at *); omega)).symm⟩⟩
      · skip
        refine r_iconst (v := (-1)) dX8_yard_29 (by decide) ?_
        exact r_iret dX8_yard_30 rfl (Nat.le_of_ble_eq_true rfl) (Nat.le_of_ble_eq_true rfl) ⟨_, rfl, by first | exact ⟨(if_pos (by (try simp only [b2i_eq0, b2i_ne0, decide_eq_true_eq] at *); (try simp only [cI, sI_setA, sI_setQ, sI_setR, sA_setI, sA_setR, sA_setQ, fa_lt, fa_le, fa_eq, Int32.reduceToInt] at *); omega)).symm, (if_pos (by (try simp only [b2i_eq0, b2i_ne0, decide_eq_true_eq] at *); (try simp only [cI, sI_setA, sI_setQ, sI_setR, sA_setI, sA_setR, sA_setQ, fa_lt, fa_le, fa_eq, Int32.reduceToInt] at *); omega)).symm⟩ | exact ⟨(if_neg (by (try simp only [b2i_eq0, b2i_ne0, decide_eq_true_eq] at *); (try simp only [cI, sI_setA, sI_setQ, sI_setR, sA_setI, sA_setR, sA_setQ, fa_lt, fa_le, fa_eq, Int32.reduceToInt] at *); omega)).symm, (if_neg (by (try simp only [b2i_eq0, b2i_ne0, decide_eq_true_eq] at *); (try simp only [cI, sI_setA, sI_setQ, sI_setR, sA_setI, sA_setR, sA_setQ, fa_lt, fa_le, fa_eq, Int32.reduceToInt] at *); omega)).symm⟩⟩
