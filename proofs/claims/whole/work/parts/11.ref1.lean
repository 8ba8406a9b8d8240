/-! ===== the reference: its shape, its small methods ===== -/
theorem b2i_eq0 {p : Prop} [Decidable p] : b2i p = 0 ↔ ¬ p := by unfold b2i; split <;> simp_all
theorem b2i_ne0 {p : Prop} [Decidable p] : ¬ b2i p = 0 ↔ p := by unfold b2i; split <;> simp_all
theorem b2i_nar {p : Prop} [Decidable p] : narrow .boolean (.int (b2i p)) = .int (b2i p) := by unfold b2i; split <;> rfl
theorem b2i_cg {p q : Prop} [Decidable p] [Decidable q] (h : p ↔ q) : b2i p = b2i q := by unfold b2i; simp only [h]
/-- the reference's array of field j -/
def ma (j : Nat) : Nat := 2001 + j
theorem ma_inj {i j : Nat} : ma i = ma j ↔ i = j := by unfold ma; omega
abbrev mI (S : HS) (j : Nat) : Int32 := sI S (fid 9 j) 2000
abbrev mA (S : HS) (j : Nat) : Nat → Int32 := sA S (ma j)
def ShM (S : HS) : Prop := 2000 ∈ sL S ∧ ∀ j, fR 9 j = true → sR S (fid 9 j) 2000 = some (ma j) ∧ ma j ∈ sL S
theorem shM_R {S : HS} (h : ShM S) {j : Nat} (hj : fR 9 j = true) : sR S (fid 9 j) 2000 = some (ma j) := (h.2 j hj).1
theorem shM_L {S : HS} (h : ShM S) {j : Nat} (hj : fR 9 j = true) : ma j ∈ sL S := (h.2 j hj).2
set_option maxHeartbeats 2000000 in
theorem c_X9_isBoat {l : Launch} {G : va_G} {cy : Nat → ClassId} (a : Int32) (S : HS) (h : ShM S) (hb : 0 ≤ (mI S 25).toInt ∧ (mI S 25).toInt ≤ 12) : Cn l G cy yX9_isBoat cX9_isBoat 2 (some .boolean) 1 [.ref 2000, .int a] S 0 0 (qI (fun r S2 => r = b2i (0 ≤ a.toInt ∧ a.toInt < (mI S 25).toInt) ∧ S2 = S)) := by
  refine Cn.of [some (.ref 2000), some (.int a)] (by decide) rfl (Nat.le_of_ble_eq_true rfl) ?_
  refine r_iload_n dX9_isBoat_0 rfl rfl ?_
  refine r_iconst (v := 0) dX9_isBoat_1 (by decide) ?_
  refine r_aload_n dX9_isBoat_2 rfl rfl ?_
  refine r_getI dX9_isBoat_3 lf_X9_126 rfl rfl ?_
  refine r_iconst (v := 1) dX9_isBoat_6 (by decide) ?_
  refine r_isub dX9_isBoat_7 ?_
  refine r_invS3i dX9_isBoat_8 lm_X9_129 (c_X9_in _ _ _ _) (Nat.le_of_ble_eq_true rfl) (Nat.le_of_ble_eq_true rfl) (Nat.zero_le _) (Nat.zero_le _) (fun r8 S8 hq8 => ?_)
  obtain ⟨rfl, hz8⟩ := hq8
  replace hz8 := hz8.symm
  subst hz8
  exact r_zret dX9_isBoat_11 rfl b2i_nar (Nat.zero_le _) (Nat.zero_le _) ⟨_, rfl, ⟨b2i_cg (by rw [fa_le, fa_le, fb_subI (by (try simp only [b2i_eq0, b2i_ne0, decide_eq_true_eq] at *); (try simp only [mI, mA, fa_lt, fa_le, fa_eq, Int32.reduceToInt] at *); omega) (by (try simp only [b2i_eq0, b2i_ne0, decide_eq_true_eq] at *); (try simp only [mI, mA, fa_lt, fa_le, fa_eq, Int32.reduceToInt] at *); omega)]; simp only [Int32.reduceToInt, mI] at *; omega), rfl⟩⟩
set_option maxHeartbeats 2000000 in
theorem c_X9_isLot {l : Launch} {G : va_G} {cy : Nat → ClassId} (a : Int32) (S : HS) (h : ShM S) (hb : 0 ≤ (mI S 27).toInt ∧ (mI S 27).toInt ≤ 400) : Cn l G cy yX9_isLot cX9_isLot 2 (some .boolean) 1 [.ref 2000, .int a] S 0 0 (qI (fun r S2 => r = b2i (0 ≤ a.toInt ∧ a.toInt < (mI S 27).toInt) ∧ S2 = S)) := by
  refine Cn.of [some (.ref 2000), some (.int a)] (by decide) rfl (Nat.le_of_ble_eq_true rfl) ?_
  refine r_iload_n dX9_isLot_0 rfl rfl ?_
  refine r_iconst (v := 0) dX9_isLot_1 (by decide) ?_
  refine r_aload_n dX9_isLot_2 rfl rfl ?_
  refine r_getI dX9_isLot_3 lf_X9_173 rfl rfl ?_
  refine r_iconst (v := 1) dX9_isLot_6 (by decide) ?_
  refine r_isub dX9_isLot_7 ?_
  refine r_invS3i dX9_isLot_8 lm_X9_129 (c_X9_in _ _ _ _) (Nat.le_of_ble_eq_true rfl) (Nat.le_of_ble_eq_true rfl) (Nat.zero_le _) (Nat.zero_le _) (fun r8 S8 hq8 => ?_)
  obtain ⟨rfl, hz8⟩ := hq8
  replace hz8 := hz8.symm
  subst hz8
  exact r_zret dX9_isLot_11 rfl b2i_nar (Nat.zero_le _) (Nat.zero_le _) ⟨_, rfl, ⟨b2i_cg (by rw [fa_le, fa_le, fb_subI (by (try simp only [b2i_eq0, b2i_ne0, decide_eq_true_eq] at *); (try simp only [mI, mA, fa_lt, fa_le, fa_eq, Int32.reduceToInt] at *); omega) (by (try simp only [b2i_eq0, b2i_ne0, decide_eq_true_eq] at *); (try simp only [mI, mA, fa_lt, fa_le, fa_eq, Int32.reduceToInt] at *); omega)]; simp only [Int32.reduceToInt, mI] at *; omega), rfl⟩⟩
set_option maxHeartbeats 2000000 in
theorem c_X9_shoal {l : Launch} {G : va_G} {cy : Nat → ClassId} (a n : Int32) (S : HS) (h : ShM S) : Cn l G cy yX9_shoal cX9_shoal 3 (some .boolean) 1 [.ref 2000, .int a, .int n] S 0 0 (qI (fun r S2 => r = b2i (0 ≤ a.toInt ∧ a.toInt < 36 ∧ 0 ≤ n.toInt ∧ n.toInt ≤ 10000) ∧ S2 = if 0 ≤ a.toInt ∧ a.toInt < 36 ∧ 0 ≤ n.toInt ∧ n.toInt ≤ 10000 then setA S (ma 0) (upd (mA S 0) a.toNatClampNeg n) else S)) := by
  refine Cn.of [some (.ref 2000), some (.int a), some (.int n)] (by decide) rfl (Nat.le_of_ble_eq_true rfl) ?_
  refine r_iload_n dX9_shoal_0 rfl rfl ?_
  refine r_iconst (v := 0) dX9_shoal_1 (by decide) ?_
  refine r_bipush (v := 35) dX9_shoal_2 (by decide) ?_
  refine r_invS3i dX9_shoal_4 lm_X9_129 (c_X9_in _ _ _ _) (Nat.le_of_ble_eq_true rfl) (Nat.le_of_ble_eq_true rfl) (Nat.zero_le _) (Nat.zero_le _) (fun r4 S4 hq4 => ?_)
  obtain ⟨rfl, hz4⟩ := hq4
  replace hz4 := hz4.symm
  subst hz4
  refine r_if_eq 21 dX9_shoal_7 (by decide) (fun q7 => ?_) (fun q7 => ?_)
  · skip
    refine r_iconst (v := 0) dX9_shoal_21 (by decide) ?_
    exact r_zret dX9_shoal_22 rfl rfl (Nat.zero_le _) (Nat.zero_le _) ⟨_, rfl, by first | exact ⟨(b2i_t (by (try simp only [b2i_eq0, b2i_ne0, decide_eq_true_eq] at *); (try simp only [mI, mA, fa_lt, fa_le, fa_eq, Int32.reduceToInt] at *); omega)).symm, (if_pos (by (try simp only [b2i_eq0, b2i_ne0, decide_eq_true_eq] at *); (try simp only [mI, mA, fa_lt, fa_le, fa_eq, Int32.reduceToInt] at *); omega)).symm⟩ | exact ⟨(b2i_f (by (try simp only [b2i_eq0, b2i_ne0, decide_eq_true_eq] at *); (try simp only [mI, mA, fa_lt, fa_le, fa_eq, Int32.reduceToInt] at *); omega)).symm, (if_neg (by (try simp only [b2i_eq0, b2i_ne0, decide_eq_true_eq] at *); (try simp only [mI, mA, fa_lt, fa_le, fa_eq, Int32.reduceToInt] at *); omega)).symm⟩⟩
  · skip
    refine r_iload_n dX9_shoal_10 rfl rfl ?_
    refine r_iconst (v := 0) dX9_shoal_11 (by decide) ?_
    refine r_sipush (v := 10000) dX9_shoal_12 (by decide) ?_
    refine r_invS3i dX9_shoal_15 lm_X9_129 (c_X9_in _ _ _ _) (Nat.le_of_ble_eq_true rfl) (Nat.le_of_ble_eq_true rfl) (Nat.zero_le _) (Nat.zero_le _) (fun r15 S15 hq15 => ?_)
    obtain ⟨rfl, hz15⟩ := hq15
    replace hz15 := hz15.symm
    subst hz15
    refine r_if_ne 23 dX9_shoal_18 (by decide) (fun q18 => ?_) (fun q18 => ?_)
    · skip
      refine r_aload_n dX9_shoal_23 rfl rfl ?_
      refine r_getR dX9_shoal_24 lf_X9_9 rfl rfl (shM_R h (j := 0) rfl) (shM_L h (j := 0) rfl) ?_
      refine r_iload_n dX9_shoal_27 rfl rfl ?_
      refine r_iload_n dX9_shoal_28 rfl rfl ?_
      refine r_iast dX9_shoal_29 rfl (show vp_in _ 36 from vp_in_iff.mpr (by (try simp only [b2i_eq0, b2i_ne0, decide_eq_true_eq] at *); (try simp only [mI, mA, fa_lt, fa_le, fa_eq, Int32.reduceToInt] at *); omega)) ?_
      refine r_iconst (v := 1) dX9_shoal_30 (by decide) ?_
      exact r_zret dX9_shoal_31 rfl rfl (Nat.zero_le _) (Nat.zero_le _) ⟨_, rfl, by first | exact ⟨(b2i_t (by (try simp only [b2i_eq0, b2i_ne0, decide_eq_true_eq] at *); (try simp only [mI, mA, fa_lt, fa_le, fa_eq, Int32.reduceToInt] at *); omega)).symm, (if_pos (by (try simp only [b2i_eq0, b2i_ne0, decide_eq_true_eq] at *); (try simp only [mI, mA, fa_lt, fa_le, fa_eq, Int32.reduceToInt] at *); omega)).symm⟩ | exact ⟨(b2i_f (by (try simp only [b2i_eq0, b2i_ne0, decide_eq_true_eq] at *); (try simp only [mI, mA, fa_lt, fa_le, fa_eq, Int32.reduceToInt] at *); omega)).symm, (if_neg (by (try simp only [b2i_eq0, b2i_ne0, decide_eq_true_eq] at *); (try simp only [mI, mA, fa_lt, fa_le, fa_eq, Int32.reduceToInt] at *); omega)).symm⟩⟩
    · skip
      refine r_iconst (v := 0) dX9_shoal_21 (by decide) ?_
      exact r_zret dX9_shoal_22 rfl rfl (Nat.zero_le _) (Nat.zero_le _) ⟨_, rfl, by first | exact ⟨(b2i_t (by (try simp only [b2i_eq0, b2i_ne0, decide_eq_true_eq] at *); (try simp only [mI, mA, fa_lt, fa_le, fa_eq, Int32.reduceToInt] at *); omega)).symm, (if_pos (by (try simp only [b2i_eq0, b2i_ne0, decide_eq_true_eq] at *); (try simp only [mI, mA, fa_lt, fa_le, fa_eq, Int32.reduceToInt] at *); omega)).symm⟩ | exact ⟨(b2i_f (by (try simp only [b2i_eq0, b2i_ne0, decide_eq_true_eq] at *); (try simp only [mI, mA, fa_lt, fa_le, fa_eq, Int32.reduceToInt] at *); omega)).symm, (if_neg (by (try simp only [b2i_eq0, b2i_ne0, decide_eq_true_eq] at *); (try simp only [mI, mA, fa_lt, fa_le, fa_eq, Int32.reduceToInt] at *); omega)).symm⟩⟩
set_option maxHeartbeats 2000000 in
theorem c_X9_open {l : Launch} {G : va_G} {cy : Nat → ClassId} (a w : Int32) (S : HS) (h : ShM S) : Cn l G cy yX9_open cX9_open 3 (some .boolean) 1 [.ref 2000, .int a, .int w] S 0 0 (qI (fun r S2 => r = b2i (0 ≤ a.toInt ∧ a.toInt < 36 ∧ ¬ (mA S 1 a.toNatClampNeg).toInt = w.toInt) ∧ S2 = if 0 ≤ a.toInt ∧ a.toInt < 36 ∧ ¬ (mA S 1 a.toNatClampNeg).toInt = w.toInt then setA S (ma 1) (upd (mA S 1) a.toNatClampNeg (vp_nar .boolean w)) else S)) := by
  refine Cn.of [some (.ref 2000), some (.int a), some (.int w)] (by decide) rfl (Nat.le_of_ble_eq_true rfl) ?_
  refine r_iload_n dX9_open_0 rfl rfl ?_
  refine r_iconst (v := 0) dX9_open_1 (by decide) ?_
  refine r_bipush (v := 35) dX9_open_2 (by decide) ?_
  refine r_invS3i dX9_open_4 lm_X9_129 (c_X9_in _ _ _ _) (Nat.le_of_ble_eq_true rfl) (Nat.le_of_ble_eq_true rfl) (Nat.zero_le _) (Nat.zero_le _) (fun r4 S4 hq4 => ?_)
  obtain ⟨rfl, hz4⟩ := hq4
  replace hz4 := hz4.symm
  subst hz4
  refine r_if_eq 20 dX9_open_7 (by decide) (fun q7 => ?_) (fun q7 => ?_)
  · skip
    refine r_iconst (v := 0) dX9_open_20 (by decide) ?_
    exact r_zret dX9_open_21 rfl rfl (Nat.zero_le _) (Nat.zero_le _) ⟨_, rfl, by first | exact ⟨(b2i_t (by (try simp only [b2i_eq0, b2i_ne0, decide_eq_true_eq] at *); (try simp only [mI, mA, fa_lt, fa_le, fa_eq, Int32.reduceToInt] at *); omega)).symm, (if_pos (by (try simp only [b2i_eq0, b2i_ne0, decide_eq_true_eq] at *); (try simp only [mI, mA, fa_lt, fa_le, fa_eq, Int32.reduceToInt] at *); omega)).symm⟩ | exact ⟨(b2i_f (by (try simp only [b2i_eq0, b2i_ne0, decide_eq_true_eq] at *); (try simp only [mI, mA, fa_lt, fa_le, fa_eq, Int32.reduceToInt] at *); omega)).symm, (if_neg (by (try simp only [b2i_eq0, b2i_ne0, decide_eq_true_eq] at *); (try simp only [mI, mA, fa_lt, fa_le, fa_eq, Int32.reduceToInt] at *); omega)).symm⟩⟩
  · skip
    refine r_aload_n dX9_open_10 rfl rfl ?_
    refine r_getR dX9_open_11 lf_X9_13 rfl rfl (shM_R h (j := 1) rfl) (shM_L h (j := 1) rfl) ?_
    refine r_iload_n dX9_open_14 rfl rfl ?_
    refine r_zald dX9_open_15 rfl (show vp_in _ 36 from vp_in_iff.mpr (by (try simp only [b2i_eq0, b2i_ne0, decide_eq_true_eq] at *); (try simp only [mI, mA, fa_lt, fa_le, fa_eq, Int32.reduceToInt] at *); omega)) ?_
    refine r_iload_n dX9_open_16 rfl rfl ?_
    refine r_icmp_ne 22 dX9_open_17 (by decide) (fun q17 => ?_) (fun q17 => ?_)
    · skip
      refine r_aload_n dX9_open_22 rfl rfl ?_
      refine r_getR dX9_open_23 lf_X9_13 rfl rfl (shM_R h (j := 1) rfl) (shM_L h (j := 1) rfl) ?_
      refine r_iload_n dX9_open_26 rfl rfl ?_
      refine r_iload_n dX9_open_27 rfl rfl ?_
      refine r_zast dX9_open_28 rfl (show vp_in _ 36 from vp_in_iff.mpr (by (try simp only [b2i_eq0, b2i_ne0, decide_eq_true_eq] at *); (try simp only [mI, mA, fa_lt, fa_le, fa_eq, Int32.reduceToInt] at *); omega)) ?_
      refine r_iconst (v := 1) dX9_open_29 (by decide) ?_
      exact r_zret dX9_open_30 rfl rfl (Nat.zero_le _) (Nat.zero_le _) ⟨_, rfl, by first | exact ⟨(b2i_t (by (try simp only [b2i_eq0, b2i_ne0, decide_eq_true_eq] at *); (try simp only [mI, mA, fa_lt, fa_le, fa_eq, Int32.reduceToInt] at *); omega)).symm, (if_pos (by (try simp only [b2i_eq0, b2i_ne0, decide_eq_true_eq] at *); (try simp only [mI, mA, fa_lt, fa_le, fa_eq, Int32.reduceToInt] at *); omega)).symm⟩ | exact ⟨(b2i_f (by (try simp only [b2i_eq0, b2i_ne0, decide_eq_true_eq] at *); (try simp only [mI, mA, fa_lt, fa_le, fa_eq, Int32.reduceToInt] at *); omega)).symm, (if_neg (by (try simp only [b2i_eq0, b2i_ne0, decide_eq_true_eq] at *); (try simp only [mI, mA, fa_lt, fa_le, fa_eq, Int32.reduceToInt] at *); omega)).symm⟩⟩
    · skip
      refine r_iconst (v := 0) dX9_open_20 (by decide) ?_
      exact r_zret dX9_open_21 rfl rfl (Nat.zero_le _) (Nat.zero_le _) ⟨_, rfl, by first | exact ⟨(b2i_t (by (try simp only [b2i_eq0, b2i_ne0, decide_eq_true_eq] at *); (try simp only [mI, mA, fa_lt, fa_le, fa_eq, Int32.reduceToInt] at *); omega)).symm, (if_pos (by (try simp only [b2i_eq0, b2i_ne0, decide_eq_true_eq] at *); (try simp only [mI, mA, fa_lt, fa_le, fa_eq, Int32.reduceToInt] at *); omega)).symm⟩ | exact ⟨(b2i_f (by (try simp only [b2i_eq0, b2i_ne0, decide_eq_true_eq] at *); (try simp only [mI, mA, fa_lt, fa_le, fa_eq, Int32.reduceToInt] at *); omega)).symm, (if_neg (by (try simp only [b2i_eq0, b2i_ne0, decide_eq_true_eq] at *); (try simp only [mI, mA, fa_lt, fa_le, fa_eq, Int32.reduceToInt] at *); omega)).symm⟩⟩
set_option maxHeartbeats 2000000 in
theorem c_X9_drift {l : Launch} {G : va_G} {cy : Nat → ClassId} (a : Int32) (S : HS) (h : ShM S) : Cn l G cy yX9_drift cX9_drift 2 (some .boolean) 1 [.ref 2000, .int a] S 0 0 (qI (fun r S2 => r = b2i (0 ≤ a.toInt ∧ a.toInt ≤ 4) ∧ S2 = if 0 ≤ a.toInt ∧ a.toInt ≤ 4 then setI S (fid 9 28) 2000 a else S)) := by
  refine Cn.of [some (.ref 2000), some (.int a)] (by decide) rfl (Nat.le_of_ble_eq_true rfl) ?_
  refine r_iload_n dX9_drift_0 rfl rfl ?_
  refine r_iconst (v := 0) dX9_drift_1 (by decide) ?_
  refine r_iconst (v := 4) dX9_drift_2 (by decide) ?_
  refine r_invS3i dX9_drift_3 lm_X9_129 (c_X9_in _ _ _ _) (Nat.le_of_ble_eq_true rfl) (Nat.le_of_ble_eq_true rfl) (Nat.zero_le _) (Nat.zero_le _) (fun r3 S3 hq3 => ?_)
  obtain ⟨rfl, hz3⟩ := hq3
  replace hz3 := hz3.symm
  subst hz3
  refine r_if_ne 11 dX9_drift_6 (by decide) (fun q6 => ?_) (fun q6 => ?_)
  · skip
    refine r_aload_n dX9_drift_11 rfl rfl ?_
    refine r_iload_n dX9_drift_12 rfl rfl ?_
    refine r_putI dX9_drift_13 (lp_X9_133 _) rfl rfl ?_
    refine r_iconst (v := 1) dX9_drift_16 (by decide) ?_
    exact r_zret dX9_drift_17 rfl rfl (Nat.zero_le _) (Nat.zero_le _) ⟨_, rfl, by first | exact ⟨(b2i_t (by (try simp only [b2i_eq0, b2i_ne0, decide_eq_true_eq] at *); (try simp only [mI, mA, fa_lt, fa_le, fa_eq, Int32.reduceToInt] at *); omega)).symm, (if_pos (by (try simp only [b2i_eq0, b2i_ne0, decide_eq_true_eq] at *); (try simp only [mI, mA, fa_lt, fa_le, fa_eq, Int32.reduceToInt] at *); omega)).symm⟩ | exact ⟨(b2i_f (by (try simp only [b2i_eq0, b2i_ne0, decide_eq_true_eq] at *); (try simp only [mI, mA, fa_lt, fa_le, fa_eq, Int32.reduceToInt] at *); omega)).symm, (if_neg (by (try simp only [b2i_eq0, b2i_ne0, decide_eq_true_eq] at *); (try simp only [mI, mA, fa_lt, fa_le, fa_eq, Int32.reduceToInt] at *); omega)).symm⟩⟩
  · skip
    refine r_iconst (v := 0) dX9_drift_9 (by decide) ?_
    exact r_zret dX9_drift_10 rfl rfl (Nat.zero_le _) (Nat.zero_le _) ⟨_, rfl, by first | exact ⟨(b2i_t (by (try simp only [b2i_eq0, b2i_ne0, decide_eq_true_eq] at *); (try simp only [mI, mA, fa_lt, fa_le, fa_eq, Int32.reduceToInt] at *); omega)).symm, (if_pos (by (try simp only [b2i_eq0, b2i_ne0, decide_eq_true_eq] at *); (try simp only [mI, mA, fa_lt, fa_le, fa_eq, Int32.reduceToInt] at *); omega)).symm⟩ | exact ⟨(b2i_f (by (try simp only [b2i_eq0, b2i_ne0, decide_eq_true_eq] at *); (try simp only [mI, mA, fa_lt, fa_le, fa_eq, Int32.reduceToInt] at *); omega)).symm, (if_neg (by (try simp only [b2i_eq0, b2i_ne0, decide_eq_true_eq] at *); (try simp only [mI, mA, fa_lt, fa_le, fa_eq, Int32.reduceToInt] at *); omega)).symm⟩⟩
set_option maxHeartbeats 2000000 in
theorem c_X9_soft {l : Launch} {G : va_G} {cy : Nat → ClassId} (a : Int32) (S : HS) (h : ShM S) : Cn l G cy yX9_soft cX9_soft 2 (some .boolean) 1 [.ref 2000, .int a] S 0 0 (qI (fun r S2 => r = b2i (0 ≤ a.toInt ∧ a.toInt ≤ 2000) ∧ S2 = if 0 ≤ a.toInt ∧ a.toInt ≤ 2000 then setI S (fid 9 29) 2000 a else S)) := by
  refine Cn.of [some (.ref 2000), some (.int a)] (by decide) rfl (Nat.le_of_ble_eq_true rfl) ?_
  refine r_iload_n dX9_soft_0 rfl rfl ?_
  refine r_iconst (v := 0) dX9_soft_1 (by decide) ?_
  refine r_sipush (v := 2000) dX9_soft_2 (by decide) ?_
  refine r_invS3i dX9_soft_5 lm_X9_129 (c_X9_in _ _ _ _) (Nat.le_of_ble_eq_true rfl) (Nat.le_of_ble_eq_true rfl) (Nat.zero_le _) (Nat.zero_le _) (fun r5 S5 hq5 => ?_)
  obtain ⟨rfl, hz5⟩ := hq5
  replace hz5 := hz5.symm
  subst hz5
  refine r_if_ne 13 dX9_soft_8 (by decide) (fun q8 => ?_) (fun q8 => ?_)
  · skip
    refine r_aload_n dX9_soft_13 rfl rfl ?_
    refine r_iload_n dX9_soft_14 rfl rfl ?_
    refine r_putI dX9_soft_15 (lp_X9_83 _) rfl rfl ?_
    refine r_iconst (v := 1) dX9_soft_18 (by decide) ?_
    exact r_zret dX9_soft_19 rfl rfl (Nat.zero_le _) (Nat.zero_le _) ⟨_, rfl, by first | exact ⟨(b2i_t (by (try simp only [b2i_eq0, b2i_ne0, decide_eq_true_eq] at *); (try simp only [mI, mA, fa_lt, fa_le, fa_eq, Int32.reduceToInt] at *); omega)).symm, (if_pos (by (try simp only [b2i_eq0, b2i_ne0, decide_eq_true_eq] at *); (try simp only [mI, mA, fa_lt, fa_le, fa_eq, Int32.reduceToInt] at *); omega)).symm⟩ | exact ⟨(b2i_f (by (try simp only [b2i_eq0, b2i_ne0, decide_eq_true_eq] at *); (try simp only [mI, mA, fa_lt, fa_le, fa_eq, Int32.reduceToInt] at *); omega)).symm, (if_neg (by (try simp only [b2i_eq0, b2i_ne0, decide_eq_true_eq] at *); (try simp only [mI, mA, fa_lt, fa_le, fa_eq, Int32.reduceToInt] at *); omega)).symm⟩⟩
  · skip
    refine r_iconst (v := 0) dX9_soft_11 (by decide) ?_
    exact r_zret dX9_soft_12 rfl rfl (Nat.zero_le _) (Nat.zero_le _) ⟨_, rfl, by first | exact ⟨(b2i_t (by (try simp only [b2i_eq0, b2i_ne0, decide_eq_true_eq] at *); (try simp only [mI, mA, fa_lt, fa_le, fa_eq, Int32.reduceToInt] at *); omega)).symm, (if_pos (by (try simp only [b2i_eq0, b2i_ne0, decide_eq_true_eq] at *); (try simp only [mI, mA, fa_lt, fa_le, fa_eq, Int32.reduceToInt] at *); omega)).symm⟩ | exact ⟨(b2i_f (by (try simp only [b2i_eq0, b2i_ne0, decide_eq_true_eq] at *); (try simp only [mI, mA, fa_lt, fa_le, fa_eq, Int32.reduceToInt] at *); omega)).symm, (if_neg (by (try simp only [b2i_eq0, b2i_ne0, decide_eq_true_eq] at *); (try simp only [mI, mA, fa_lt, fa_le, fa_eq, Int32.reduceToInt] at *); omega)).symm⟩⟩
set_option maxHeartbeats 2000000 in
theorem c_X9_end {l : Launch} {G : va_G} {cy : Nat → ClassId} (a : Int32) (S : HS) (h : ShM S) : Cn l G cy yX9_end cX9_end 2 (some .boolean) 1 [.ref 2000, .int a] S 0 0 (qI (fun r S2 => r = b2i (0 ≤ a.toInt ∧ a.toInt ≤ (mI S 47).toInt) ∧ S2 = if 0 ≤ a.toInt ∧ a.toInt ≤ (mI S 47).toInt then setI S (fid 9 47) 2000 a else S)) := by
  refine Cn.of [some (.ref 2000), some (.int a)] (by decide) rfl (Nat.le_of_ble_eq_true rfl) ?_
  refine r_iload_n dX9_end_0 rfl rfl ?_
  refine r_if_lt 12 dX9_end_1 (by decide) (fun q1 => ?_) (fun q1 => ?_)
  · skip
    refine r_iconst (v := 0) dX9_end_12 (by decide) ?_
    exact r_zret dX9_end_13 rfl rfl (Nat.zero_le _) (Nat.zero_le _) ⟨_, rfl, by first | exact ⟨(b2i_t (by (try simp only [b2i_eq0, b2i_ne0, decide_eq_true_eq] at *); (try simp only [mI, mA, fa_lt, fa_le, fa_eq, Int32.reduceToInt] at *); omega)).symm, (if_pos (by (try simp only [b2i_eq0, b2i_ne0, decide_eq_true_eq] at *); (try simp only [mI, mA, fa_lt, fa_le, fa_eq, Int32.reduceToInt] at *); omega)).symm⟩ | exact ⟨(b2i_f (by (try simp only [b2i_eq0, b2i_ne0, decide_eq_true_eq] at *); (try simp only [mI, mA, fa_lt, fa_le, fa_eq, Int32.reduceToInt] at *); omega)).symm, (if_neg (by (try simp only [b2i_eq0, b2i_ne0, decide_eq_true_eq] at *); (try simp only [mI, mA, fa_lt, fa_le, fa_eq, Int32.reduceToInt] at *); omega)).symm⟩⟩
  · skip
    refine r_iload_n dX9_end_4 rfl rfl ?_
    refine r_aload_n dX9_end_5 rfl rfl ?_
    refine r_getI dX9_end_6 lf_X9_215 rfl rfl ?_
    refine r_icmp_le 14 dX9_end_9 (by decide) (fun q9 => ?_) (fun q9 => ?_)
    · skip
      refine r_aload_n dX9_end_14 rfl rfl ?_
      refine r_iload_n dX9_end_15 rfl rfl ?_
      refine r_putI dX9_end_16 (lp_X9_215 _) rfl rfl ?_
      refine r_iconst (v := 1) dX9_end_19 (by decide) ?_
      exact r_zret dX9_end_20 rfl rfl (Nat.zero_le _) (Nat.zero_le _) ⟨_, rfl, by first | exact ⟨(b2i_t (by (try simp only [b2i_eq0, b2i_ne0, decide_eq_true_eq] at *); (try simp only [mI, mA, fa_lt, fa_le, fa_eq, Int32.reduceToInt] at *); omega)).symm, (if_pos (by (try simp only [b2i_eq0, b2i_ne0, decide_eq_true_eq] at *); (try simp only [mI, mA, fa_lt, fa_le, fa_eq, Int32.reduceToInt] at *); omega)).symm⟩ | exact ⟨(b2i_f (by (try simp only [b2i_eq0, b2i_ne0, decide_eq_true_eq] at *); (try simp only [mI, mA, fa_lt, fa_le, fa_eq, Int32.reduceToInt] at *); omega)).symm, (if_neg (by (try simp only [b2i_eq0, b2i_ne0, decide_eq_true_eq] at *); (try simp only [mI, mA, fa_lt, fa_le, fa_eq, Int32.reduceToInt] at *); omega)).symm⟩⟩
    · skip
      refine r_iconst (v := 0) dX9_end_12 (by decide) ?_
      exact r_zret dX9_end_13 rfl rfl (Nat.zero_le _) (Nat.zero_le _) ⟨_, rfl, by first | exact ⟨(b2i_t (by (try simp only [b2i_eq0, b2i_ne0, decide_eq_true_eq] at *); (try simp only [mI, mA, fa_lt, fa_le, fa_eq, Int32.reduceToInt] at *); omega)).symm, (if_pos (by (try simp only [b2i_eq0, b2i_ne0, decide_eq_true_eq] at *); (try simp only [mI, mA, fa_lt, fa_le, fa_eq, Int32.reduceToInt] at *); omega)).symm⟩ | exact ⟨(b2i_f (by (try simp only [b2i_eq0, b2i_ne0, decide_eq_true_eq] at *); (try simp only [mI, mA, fa_lt, fa_le, fa_eq, Int32.reduceToInt] at *); omega)).symm, (if_neg (by (try simp only [b2i_eq0, b2i_ne0, decide_eq_true_eq] at *); (try simp only [mI, mA, fa_lt, fa_le, fa_eq, Int32.reduceToInt] at *); omega)).symm⟩⟩
