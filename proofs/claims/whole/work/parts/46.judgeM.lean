/-! ===== the reference: judge, branded ===== -/
/-- every brand's codes come to an end, whatever lies on the pile -/
def AllE (S : HS) : Prop := ∀ b, b < 4 → ¬ mA S 46 b = 0 → ∀ q, q < nn (mI S 27) → ∀ p, ∃ N, hEn (setA S (ma 52) p) q b N
def yesM (S : HS) (q j : Nat) : Prop := ¬ mA S 46 j = 0 ∧ ∃ p N, hEn (setA S (ma 52) p) q j N ∧ ¬ (hsI (setA S (ma 52) p) q j N).2.2 0 = 0
def noM (S : HS) (q j : Nat) : Prop := mA S 46 j = 0 ∨ ∃ p N, hEn (setA S (ma 52) p) q j N ∧ (hsI (setA S (ma 52) p) q j N).2.2 0 = 0
set_option maxHeartbeats 4000000 in
theorem c_X9_judge {l : Launch} {G : va_G} {cy : Nat → ClassId} (b q : Nat) (S : HS) (h : ShM S) (hl : 0 ≤ (mI S 27).toInt ∧ (mI S 27).toInt ≤ 400) (hb : b < 4) (hq : q < nn (mI S 27)) (hh : ¬ mA S 46 b = 0) (hA : AllE S) : Cn l G cy yX9_judge cX9_judge 3 (some .int) 2 [.ref 2000, .int (nI b), .int (nI q)] S 0 0 (qI (fun r S2 => ((r = 1 ∧ yesM S q b) ∨ (r = 0 ∧ noM S q b)) ∧ ∃ p, S2 = setA S (ma 52) p)) := by
  refine Cn.of [some (.ref 2000), some (.int (nI b)), some (.int (nI q))] (by decide) rfl (Nat.le_of_ble_eq_true rfl) ?_
  have hbi : (nI b).toInt = b := nI_toInt (by omega)
  have hbc : (nI b).toNatClampNeg = b := nI_clamp (by omega)
  have hq4 : q < 400 := by unfold nn at hq; omega
  have hqi : (nI q).toInt = q := nI_toInt (by omega)
  obtain ⟨N, hE⟩ := hA b hb hh q hq (mA S 52)
  refine r_iload_n dX9_judge_0 rfl rfl ?_
  refine r_iconst (v := 0) dX9_judge_1 (by decide) ?_
  refine r_iconst (v := 3) dX9_judge_2 (by decide) ?_
  refine r_invS3i dX9_judge_3 lm_X9_129 (c_X9_in _ _ _ _) (Nat.le_of_ble_eq_true rfl) (Nat.le_of_ble_eq_true rfl) (Nat.zero_le _) (Nat.zero_le _) (fun r3 S3 hq3 => ?_)
  obtain ⟨rfl, hz3⟩ := hq3
  replace hz3 := hz3.symm
  subst hz3
  refine r_if_eq 26 dX9_judge_6 (by decide) (fun q6 => ?_) (fun q6 => ?_)
  · skip
    exact absurd (show (0 : Int32) ≤ nI b ∧ nI b ≤ 3 from ⟨by rw [fa_le, hbi]; have : (0 : Int32).toInt = 0 := rfl; omega, by rw [fa_le, hbi]; have : (3 : Int32).toInt = 3 := rfl; omega⟩) (b2i_eq0.mp q6)
  · skip
    refine r_aload_n dX9_judge_9 rfl rfl ?_
    refine r_getR dX9_judge_10 lf_X9_120 rfl rfl (shM_R h (j := 46) rfl) (shM_L h (j := 46) rfl) ?_
    refine r_iload_n dX9_judge_13 rfl rfl ?_
    refine r_zald dX9_judge_14 rfl (show vp_in (nI b) 4 from vp_in_nI (by omega) (by omega)) ?_
    rw [hbc]
    refine r_if_eq 26 dX9_judge_15 (by decide) (fun q15 => ?_) (fun q15 => ?_)
    · skip
      exact absurd q15 hh
    · skip
      refine r_aload_n dX9_judge_18 rfl rfl ?_
      refine r_iload_n dX9_judge_19 rfl rfl ?_
      refine r_invV1i dX9_judge_20 lm_X9_258 rfl (c_X9_isLot (nI q) S h hl) (Nat.le_of_ble_eq_true rfl) (Nat.le_of_ble_eq_true rfl) (Nat.zero_le _) (Nat.zero_le _) (fun r20 S20 hq20 => ?_)
      obtain ⟨rfl, hz20⟩ := hq20
      replace hz20 := hz20.symm
      subst hz20
      refine r_if_ne 28 dX9_judge_23 (by decide) (fun q23 => ?_) (fun q23 => ?_)
      · skip
        refine R.heap (S2 := setA S (ma 52) (mA S 52)) (setA_self S (ma 52)).symm ?_
        refine r_aload_n dX9_judge_28 rfl rfl ?_
        refine r_iload_n dX9_judge_29 rfl rfl ?_
        refine r_iload_n dX9_judge_30 rfl rfl ?_
        refine r_invV2i dX9_judge_31 lm_X9_261 rfl (c_X9_holds b q N (setA S (ma 52) (mA S 52)) (h.setA _ _) hb hq4 hE) (Nat.le_of_ble_eq_true rfl) (Nat.le_of_ble_eq_true rfl) (Nat.zero_le _) (Nat.zero_le _) (fun r31 S31 hq31 => ?_)
        obtain ⟨hr31, hz31⟩ := hq31
        rw [setA_setA] at hz31
        subst hz31
        refine r_if_eq 41 dX9_judge_34 (by decide) (fun q34 => ?_) (fun q34 => ?_)
        · skip
          refine r_iconst (v := 0) dX9_judge_41 (by decide) ?_
          exact r_iret dX9_judge_42 rfl (Nat.zero_le _) (Nat.zero_le _) ⟨_, rfl, by
              first
                | exact ⟨Or.inr ⟨rfl, Or.inr ⟨mA S 52, N, hE, by rw [← hr31]; exact q34⟩⟩, _, rfl⟩
                | exact ⟨Or.inl ⟨rfl, hh, mA S 52, N, hE, by rw [← hr31]; exact q34⟩, _, rfl⟩⟩
        · skip
          refine r_iconst (v := 1) dX9_judge_37 (by decide) ?_
          refine r_goto 42 dX9_judge_38 (by decide) ?_
          exact r_iret dX9_judge_42 rfl (Nat.zero_le _) (Nat.zero_le _) ⟨_, rfl, by
              first
                | exact ⟨Or.inr ⟨rfl, Or.inr ⟨mA S 52, N, hE, by rw [← hr31]; exact q34⟩⟩, _, rfl⟩
                | exact ⟨Or.inl ⟨rfl, hh, mA S 52, N, hE, by rw [← hr31]; exact q34⟩, _, rfl⟩⟩
      · skip
        exact absurd (show 0 ≤ (nI q).toInt ∧ (nI q).toInt < (mI S 27).toInt from ⟨by omega, by unfold nn at hq; omega⟩) (b2i_eq0.mp q23)
set_option maxHeartbeats 4000000 in
theorem c_X9_judgeN {l : Launch} {G : va_G} {cy : Nat → ClassId} (a z : Int32) (S : HS) (h : ShM S) (hl : 0 ≤ (mI S 27).toInt ∧ (mI S 27).toInt ≤ 400) (hn : ¬ ((0 ≤ a.toInt ∧ a.toInt ≤ 3) ∧ ¬ mA S 46 a.toNatClampNeg = 0 ∧ 0 ≤ z.toInt ∧ z.toInt < (mI S 27).toInt)) : Cn l G cy yX9_judge cX9_judge 3 (some .int) 2 [.ref 2000, .int a, .int z] S 0 0 (qI (fun r S2 => r = -1 ∧ S2 = S)) := by
  refine Cn.of [some (.ref 2000), some (.int a), some (.int z)] (by decide) rfl (Nat.le_of_ble_eq_true rfl) ?_
  refine r_iload_n dX9_judge_0 rfl rfl ?_
  refine r_iconst (v := 0) dX9_judge_1 (by decide) ?_
  refine r_iconst (v := 3) dX9_judge_2 (by decide) ?_
  refine r_invS3i dX9_judge_3 lm_X9_129 (c_X9_in _ _ _ _) (Nat.le_of_ble_eq_true rfl) (Nat.le_of_ble_eq_true rfl) (Nat.zero_le _) (Nat.zero_le _) (fun r3 S3 hq3 => ?_)
  obtain ⟨rfl, hz3⟩ := hq3
  replace hz3 := hz3.symm
  subst hz3
  refine r_if_eq 26 dX9_judge_6 (by decide) (fun q6 => ?_) (fun q6 => ?_)
  · skip
    refine r_iconst (v := (-1)) dX9_judge_26 (by decide) ?_
    exact r_iret dX9_judge_27 rfl (Nat.zero_le _) (Nat.zero_le _) ⟨_, rfl, ⟨rfl, rfl⟩⟩
  · skip
    have hin : 0 ≤ a.toInt ∧ a.toInt ≤ 3 := by have q := b2i_ne0.mp q6; simp only [fa_le, Int32.reduceToInt] at q; exact q
    refine r_aload_n dX9_judge_9 rfl rfl ?_
    refine r_getR dX9_judge_10 lf_X9_120 rfl rfl (shM_R h (j := 46) rfl) (shM_L h (j := 46) rfl) ?_
    refine r_iload_n dX9_judge_13 rfl rfl ?_
    refine r_zald dX9_judge_14 rfl (show vp_in a 4 from vp_in_iff.mpr ⟨hin.1, by omega⟩) ?_
    refine r_if_eq 26 dX9_judge_15 (by decide) (fun q15 => ?_) (fun q15 => ?_)
    · skip
      refine r_iconst (v := (-1)) dX9_judge_26 (by decide) ?_
      exact r_iret dX9_judge_27 rfl (Nat.zero_le _) (Nat.zero_le _) ⟨_, rfl, ⟨rfl, rfl⟩⟩
    · skip
      refine r_aload_n dX9_judge_18 rfl rfl ?_
      refine r_iload_n dX9_judge_19 rfl rfl ?_
      refine r_invV1i dX9_judge_20 lm_X9_258 rfl (c_X9_isLot z S h hl) (Nat.le_of_ble_eq_true rfl) (Nat.le_of_ble_eq_true rfl) (Nat.zero_le _) (Nat.zero_le _) (fun r20 S20 hq20 => ?_)
      obtain ⟨rfl, hz20⟩ := hq20
      replace hz20 := hz20.symm
      subst hz20
      refine r_if_ne 28 dX9_judge_23 (by decide) (fun q23 => ?_) (fun q23 => ?_)
      · skip
        exact absurd ⟨hin, q15, b2i_ne0.mp q23⟩ hn
      · skip
        refine r_iconst (v := (-1)) dX9_judge_26 (by decide) ?_
        exact r_iret dX9_judge_27 rfl (Nat.zero_le _) (Nat.zero_le _) ⟨_, rfl, ⟨rfl, rfl⟩⟩
set_option maxHeartbeats 4000000 in
theorem c_X9_branded {l : Launch} {G : va_G} {cy : Nat → ClassId} (q : Nat) (S : HS) (h : ShM S) (hl : 0 ≤ (mI S 27).toInt ∧ (mI S 27).toInt ≤ 400) (hq : q < nn (mI S 27)) (hA : AllE S) : Cn l G cy yX9_branded cX9_branded 3 (some .int) 2 [.ref 2000, .int (nI q)] S 0 0 (qI (fun r S2 => ((∃ i, i < 4 ∧ (∀ j, j < i → noM S q j) ∧ yesM S q i ∧ r = nI i) ∨ ((∀ j, j < 4 → noM S q j) ∧ r = -1)) ∧ ∃ p, S2 = setA S (ma 52) p)) := by
  refine Cn.of [some (.ref 2000), some (.int (nI q)), none] (by decide) rfl (Nat.le_of_ble_eq_true rfl) ?_
  have hq4 : q < 400 := by unfold nn at hq; omega
  have hqi : (nI q).toInt = q := nI_toInt (by omega)
  refine R.heap (S2 := setA S (ma 52) (mA S 52)) (setA_self S (ma 52)).symm ?_
  refine r_iconst (v := 0) dX9_branded_0 (by decide) ?_
  refine r_ist2 dX9_branded_1 (Nat.le_of_ble_eq_true rfl) rfl ?_
  refine R.for (α := (Nat → Int32)) (4) (fun i a => [some (.ref 2000), some (.int (nI q)), some (.int (nI i))]) (fun i a => (setA S (ma 52) a)) (fun i a => ∀ j, j < i → noM S q j) ?_ ?_ 0 (mA S 52) (Nat.zero_le _) (fun j hj => absurd hj (Nat.not_lt_zero _))
  · intro a hI
    have hsh : ShM (setA S (ma 52) a) := h.setA _ _
    refine r_iload_n dX9_branded_2 rfl rfl ?_
    refine r_iconst (v := 4) dX9_branded_3 (by decide) ?_
    refine r_icmp_ge 41 dX9_branded_4 (by decide) (fun q4 => ?_) (fun q4 => ?_)
    · skip
      refine r_iconst (v := (-1)) dX9_branded_41 (by decide) ?_
      exact r_iret dX9_branded_42 rfl (Nat.zero_le _) (Nat.zero_le _) ⟨_, rfl, ⟨Or.inr ⟨hI, rfl⟩, _, rfl⟩⟩
    · skip
      exact absurd (by decide) q4
  · intro i a hi hI ih
    have hsh : ShM (setA S (ma 52) a) := h.setA _ _
    have hii : (nI i).toInt = i := nI_toInt (by omega)
    have hic : (nI i).toNatClampNeg = i := nI_clamp (by omega)
    have hst : noM S q i → ∀ j, j < i + 1 → noM S q j := fun z j hj => by
      rcases Nat.lt_succ_iff_lt_or_eq.mp hj with w | w
      · exact hI j w
      · rw [w]; exact z
    refine r_iload_n dX9_branded_2 rfl rfl ?_
    refine r_iconst (v := 4) dX9_branded_3 (by decide) ?_
    refine r_icmp_ge 41 dX9_branded_4 (by decide) (fun q4 => ?_) (fun q4 => ?_)
    · skip
      exact absurd q4 (by rw [fa_le, hii]; have : (4 : Int32).toInt = 4 := rfl; omega)
    · skip
      refine r_aload_n dX9_branded_7 rfl rfl ?_
      refine r_iload_n dX9_branded_8 rfl rfl ?_
      refine r_invV1i dX9_branded_9 lm_X9_258 rfl (c_X9_isLot (nI q) (setA S (ma 52) a) hsh hl) (Nat.le_of_ble_eq_true rfl) (Nat.le_of_ble_eq_true rfl) (Nat.zero_le _) (Nat.zero_le _) (fun r9 S9 hq9 => ?_)
      obtain ⟨rfl, hz9⟩ := hq9
      replace hz9 := hz9.symm
      subst hz9
      refine r_if_eq 41 dX9_branded_12 (by decide) (fun q12 => ?_) (fun q12 => ?_)
      · skip
        exact absurd (show 0 ≤ (nI q).toInt ∧ (nI q).toInt < (mI S 27).toInt from ⟨by omega, by unfold nn at hq; omega⟩) (b2i_eq0.mp q12)
      · skip
        refine r_aload_n dX9_branded_15 rfl rfl ?_
        refine r_getR dX9_branded_16 lf_X9_120 rfl rfl (shM_R hsh (j := 46) rfl) (shM_L hsh (j := 46) rfl) ?_
        refine r_iload_n dX9_branded_19 rfl rfl ?_
        refine r_zald dX9_branded_20 rfl (show vp_in (nI i) 4 from vp_in_nI (by omega) (by omega)) ?_
        rw [hic, sA_setn (show ma 46 ≠ ma 52 by decide)]
        refine r_if_eq 35 dX9_branded_21 (by decide) (fun q21 => ?_) (fun q21 => ?_)
        · skip
          have hno : mA S 46 i = 0 := q21
          refine r_in2 dX9_branded_35 (show _ + Int32.ofInt 1 = _ + 1 from rfl) (Nat.le_of_ble_eq_true rfl) rfl ?_
          refine r_goto 2 dX9_branded_38 (by decide) ?_
          rw [nI_1 i]
          first
            | (have q2 := hno
               exact ih a (hst (Or.inl q2)))
            | (have q2 := hr27
               exact ih _ (hst (Or.inr ⟨a, N, hE, by rw [← q2]; exact q30⟩)))
        · skip
          obtain ⟨N, hE⟩ := hA i (by omega) q21 q hq a
          refine r_aload_n dX9_branded_24 rfl rfl ?_
          refine r_iload_n dX9_branded_25 rfl rfl ?_
          refine r_iload_n dX9_branded_26 rfl rfl ?_
          refine r_invV2i dX9_branded_27 lm_X9_261 rfl (c_X9_holds i q N (setA S (ma 52) a) hsh (by omega) hq4 hE) (Nat.le_of_ble_eq_true rfl) (Nat.le_of_ble_eq_true rfl) (Nat.zero_le _) (Nat.zero_le _) (fun r27 S27 hq27 => ?_)
          obtain ⟨hr27, hz27⟩ := hq27
          rw [setA_setA] at hz27
          subst hz27
          refine r_if_eq 35 dX9_branded_30 (by decide) (fun q30 => ?_) (fun q30 => ?_)
          · skip
            refine r_in2 dX9_branded_35 (show _ + Int32.ofInt 1 = _ + 1 from rfl) (Nat.le_of_ble_eq_true rfl) rfl ?_
            refine r_goto 2 dX9_branded_38 (by decide) ?_
            rw [nI_1 i]
            first
              | (have q2 := hno
                 exact ih a (hst (Or.inl q2)))
              | (have q2 := hr27
                 exact ih _ (hst (Or.inr ⟨a, N, hE, by rw [← q2]; exact q30⟩)))
          · skip
            refine r_iload_n dX9_branded_33 rfl rfl ?_
            exact r_iret dX9_branded_34 rfl (Nat.zero_le _) (Nat.zero_le _) ⟨_, rfl, ⟨Or.inl ⟨i, by omega, hI, ⟨q21, a, N, hE, by rw [← hr27]; exact q30⟩, rfl⟩, _, rfl⟩⟩
set_option maxHeartbeats 4000000 in
theorem c_X9_brandedN {l : Launch} {G : va_G} {cy : Nat → ClassId} (z : Int32) (S : HS) (h : ShM S) (hl : 0 ≤ (mI S 27).toInt ∧ (mI S 27).toInt ≤ 400) (hn : ¬ (0 ≤ z.toInt ∧ z.toInt < (mI S 27).toInt)) : Cn l G cy yX9_branded cX9_branded 3 (some .int) 2 [.ref 2000, .int z] S 0 0 (qI (fun r S2 => r = -1 ∧ S2 = S)) := by
  refine Cn.of [some (.ref 2000), some (.int z), none] (by decide) rfl (Nat.le_of_ble_eq_true rfl) ?_
  refine r_iconst (v := 0) dX9_branded_0 (by decide) ?_
  refine r_ist2 dX9_branded_1 (Nat.le_of_ble_eq_true rfl) rfl ?_
  refine r_iload_n dX9_branded_2 rfl rfl ?_
  refine r_iconst (v := 4) dX9_branded_3 (by decide) ?_
  refine r_icmp_ge 41 dX9_branded_4 (by decide) (fun q4 => ?_) (fun q4 => ?_)
  · skip
    exact absurd q4 (by decide)
  · skip
    refine r_aload_n dX9_branded_7 rfl rfl ?_
    refine r_iload_n dX9_branded_8 rfl rfl ?_
    refine r_invV1i dX9_branded_9 lm_X9_258 rfl (c_X9_isLot z S h hl) (Nat.le_of_ble_eq_true rfl) (Nat.le_of_ble_eq_true rfl) (Nat.zero_le _) (Nat.zero_le _) (fun r9 S9 hq9 => ?_)
    obtain ⟨rfl, hz9⟩ := hq9
    replace hz9 := hz9.symm
    subst hz9
    refine r_if_eq 41 dX9_branded_12 (by decide) (fun q12 => ?_) (fun q12 => ?_)
    · skip
      refine r_iconst (v := (-1)) dX9_branded_41 (by decide) ?_
      exact r_iret dX9_branded_42 rfl (Nat.zero_le _) (Nat.zero_le _) ⟨_, rfl, ⟨rfl, rfl⟩⟩
    · skip
      exact absurd (b2i_ne0.mp q12) hn
