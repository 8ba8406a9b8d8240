/-! ===== contracts of leaves: tests on numbers ===== -/
def b2i (p : Prop) [Decidable p] : Int32 := if p then 1 else 0
theorem b2i_t {p : Prop} [Decidable p] (h : p) : b2i p = 1 := if_pos h
theorem b2i_f {p : Prop} [Decidable p] (h : ¬ p) : b2i p = 0 := if_neg h
set_option maxHeartbeats 1000000 in
theorem c_X0_isHand {l : Launch} {G : va_G} {cy : Nat → ClassId} (a : Int32) (S : HS) : Cn l G cy yX0_isHand cX0_isHand 1 (some .boolean) 0 [.int a] S 0 0 (qI (fun r S2 => r = b2i (0 ≤ a ∧ a < 8) ∧ S2 = S)) := by
  refine Cn.of [some (.int a)] (by decide) rfl (Nat.le_of_ble_eq_true rfl) ?_
  refine r_iload_n dX0_isHand_0 rfl rfl ?_
  refine r_if_lt 14 dX0_isHand_1 (by decide) (fun q1 => ?_) (fun q1 => ?_)
  · skip
    refine r_iconst (v := 0) dX0_isHand_14 (by decide) ?_
    exact r_zret dX0_isHand_15 rfl rfl (Nat.zero_le _) (Nat.zero_le _) ⟨_, rfl, ⟨by first | exact (b2i_t (by simp only [fa_lt, fa_le, Int32.reduceToInt] at *; omega)).symm | exact (b2i_f (by simp only [fa_lt, fa_le, Int32.reduceToInt] at *; omega)).symm, rfl⟩⟩
  · skip
    refine r_iload_n dX0_isHand_4 rfl rfl ?_
    refine r_bipush (v := 8) dX0_isHand_5 (by decide) ?_
    refine r_icmp_ge 14 dX0_isHand_7 (by decide) (fun q7 => ?_) (fun q7 => ?_)
    · skip
      refine r_iconst (v := 0) dX0_isHand_14 (by decide) ?_
      exact r_zret dX0_isHand_15 rfl rfl (Nat.zero_le _) (Nat.zero_le _) ⟨_, rfl, ⟨by first | exact (b2i_t (by simp only [fa_lt, fa_le, Int32.reduceToInt] at *; omega)).symm | exact (b2i_f (by simp only [fa_lt, fa_le, Int32.reduceToInt] at *; omega)).symm, rfl⟩⟩
    · skip
      refine r_iconst (v := 1) dX0_isHand_10 (by decide) ?_
      refine r_goto 15 dX0_isHand_11 (by decide) ?_
      exact r_zret dX0_isHand_15 rfl rfl (Nat.zero_le _) (Nat.zero_le _) ⟨_, rfl, ⟨by first | exact (b2i_t (by simp only [fa_lt, fa_le, Int32.reduceToInt] at *; omega)).symm | exact (b2i_f (by simp only [fa_lt, fa_le, Int32.reduceToInt] at *; omega)).symm, rfl⟩⟩
set_option maxHeartbeats 1000000 in
theorem c_X4_isCell {l : Launch} {G : va_G} {cy : Nat → ClassId} (a : Int32) (S : HS) : Cn l G cy yX4_isCell cX4_isCell 1 (some .boolean) 0 [.int a] S 0 0 (qI (fun r S2 => r = b2i (0 ≤ a ∧ a < 36) ∧ S2 = S)) := by
  refine Cn.of [some (.int a)] (by decide) rfl (Nat.le_of_ble_eq_true rfl) ?_
  refine r_iload_n dX4_isCell_0 rfl rfl ?_
  refine r_if_lt 14 dX4_isCell_1 (by decide) (fun q1 => ?_) (fun q1 => ?_)
  · skip
    refine r_iconst (v := 0) dX4_isCell_14 (by decide) ?_
    exact r_zret dX4_isCell_15 rfl rfl (Nat.zero_le _) (Nat.zero_le _) ⟨_, rfl, ⟨by first | exact (b2i_t (by simp only [fa_lt, fa_le, Int32.reduceToInt] at *; omega)).symm | exact (b2i_f (by simp only [fa_lt, fa_le, Int32.reduceToInt] at *; omega)).symm, rfl⟩⟩
  · skip
    refine r_iload_n dX4_isCell_4 rfl rfl ?_
    refine r_bipush (v := 36) dX4_isCell_5 (by decide) ?_
    refine r_icmp_ge 14 dX4_isCell_7 (by decide) (fun q7 => ?_) (fun q7 => ?_)
    · skip
      refine r_iconst (v := 0) dX4_isCell_14 (by decide) ?_
      exact r_zret dX4_isCell_15 rfl rfl (Nat.zero_le _) (Nat.zero_le _) ⟨_, rfl, ⟨by first | exact (b2i_t (by simp only [fa_lt, fa_le, Int32.reduceToInt] at *; omega)).symm | exact (b2i_f (by simp only [fa_lt, fa_le, Int32.reduceToInt] at *; omega)).symm, rfl⟩⟩
    · skip
      refine r_iconst (v := 1) dX4_isCell_10 (by decide) ?_
      refine r_goto 15 dX4_isCell_11 (by decide) ?_
      exact r_zret dX4_isCell_15 rfl rfl (Nat.zero_le _) (Nat.zero_le _) ⟨_, rfl, ⟨by first | exact (b2i_t (by simp only [fa_lt, fa_le, Int32.reduceToInt] at *; omega)).symm | exact (b2i_f (by simp only [fa_lt, fa_le, Int32.reduceToInt] at *; omega)).symm, rfl⟩⟩
set_option maxHeartbeats 1000000 in
theorem c_X1_isDigit {l : Launch} {G : va_G} {cy : Nat → ClassId} (a : Int32) (S : HS) : Cn l G cy yX1_isDigit cX1_isDigit 1 (some .boolean) 0 [.int a] S 0 0 (qI (fun r S2 => r = b2i (48 ≤ a ∧ a ≤ 57) ∧ S2 = S)) := by
  refine Cn.of [some (.int a)] (by decide) rfl (Nat.le_of_ble_eq_true rfl) ?_
  refine r_iload_n dX1_isDigit_0 rfl rfl ?_
  refine r_bipush (v := 48) dX1_isDigit_1 (by decide) ?_
  refine r_icmp_lt 16 dX1_isDigit_3 (by decide) (fun q3 => ?_) (fun q3 => ?_)
  · skip
    refine r_iconst (v := 0) dX1_isDigit_16 (by decide) ?_
    exact r_zret dX1_isDigit_17 rfl rfl (Nat.zero_le _) (Nat.zero_le _) ⟨_, rfl, ⟨by first | exact (b2i_t (by simp only [fa_lt, fa_le, Int32.reduceToInt] at *; omega)).symm | exact (b2i_f (by simp only [fa_lt, fa_le, Int32.reduceToInt] at *; omega)).symm, rfl⟩⟩
  · skip
    refine r_iload_n dX1_isDigit_6 rfl rfl ?_
    refine r_bipush (v := 57) dX1_isDigit_7 (by decide) ?_
    refine r_icmp_gt 16 dX1_isDigit_9 (by decide) (fun q9 => ?_) (fun q9 => ?_)
    · skip
      refine r_iconst (v := 0) dX1_isDigit_16 (by decide) ?_
      exact r_zret dX1_isDigit_17 rfl rfl (Nat.zero_le _) (Nat.zero_le _) ⟨_, rfl, ⟨by first | exact (b2i_t (by simp only [fa_lt, fa_le, Int32.reduceToInt] at *; omega)).symm | exact (b2i_f (by simp only [fa_lt, fa_le, Int32.reduceToInt] at *; omega)).symm, rfl⟩⟩
    · skip
      refine r_iconst (v := 1) dX1_isDigit_12 (by decide) ?_
      refine r_goto 17 dX1_isDigit_13 (by decide) ?_
      exact r_zret dX1_isDigit_17 rfl rfl (Nat.zero_le _) (Nat.zero_le _) ⟨_, rfl, ⟨by first | exact (b2i_t (by simp only [fa_lt, fa_le, Int32.reduceToInt] at *; omega)).symm | exact (b2i_f (by simp only [fa_lt, fa_le, Int32.reduceToInt] at *; omega)).symm, rfl⟩⟩
set_option maxHeartbeats 1000000 in
theorem c_X8_isWithin {l : Launch} {G : va_G} {cy : Nat → ClassId} (a lo hi : Int32) (S : HS) : Cn l G cy yX8_isWithin cX8_isWithin 3 (some .boolean) 0 [.int a, .int lo, .int hi] S 0 0 (qI (fun r S2 => r = b2i (lo ≤ a ∧ a ≤ hi) ∧ S2 = S)) := by
  refine Cn.of [some (.int a), some (.int lo), some (.int hi)] (by decide) rfl (Nat.le_of_ble_eq_true rfl) ?_
  refine r_iload_n dX8_isWithin_0 rfl rfl ?_
  refine r_iload_n dX8_isWithin_1 rfl rfl ?_
  refine r_icmp_lt 14 dX8_isWithin_2 (by decide) (fun q2 => ?_) (fun q2 => ?_)
  · skip
    refine r_iconst (v := 0) dX8_isWithin_14 (by decide) ?_
    exact r_zret dX8_isWithin_15 rfl rfl (Nat.zero_le _) (Nat.zero_le _) ⟨_, rfl, ⟨by first | exact (b2i_t (by simp only [fa_lt, fa_le, Int32.reduceToInt] at *; omega)).symm | exact (b2i_f (by simp only [fa_lt, fa_le, Int32.reduceToInt] at *; omega)).symm, rfl⟩⟩
  · skip
    refine r_iload_n dX8_isWithin_5 rfl rfl ?_
    refine r_iload_n dX8_isWithin_6 rfl rfl ?_
    refine r_icmp_gt 14 dX8_isWithin_7 (by decide) (fun q7 => ?_) (fun q7 => ?_)
    · skip
      refine r_iconst (v := 0) dX8_isWithin_14 (by decide) ?_
      exact r_zret dX8_isWithin_15 rfl rfl (Nat.zero_le _) (Nat.zero_le _) ⟨_, rfl, ⟨by first | exact (b2i_t (by simp only [fa_lt, fa_le, Int32.reduceToInt] at *; omega)).symm | exact (b2i_f (by simp only [fa_lt, fa_le, Int32.reduceToInt] at *; omega)).symm, rfl⟩⟩
    · skip
      refine r_iconst (v := 1) dX8_isWithin_10 (by decide) ?_
      refine r_goto 15 dX8_isWithin_11 (by decide) ?_
      exact r_zret dX8_isWithin_15 rfl rfl (Nat.zero_le _) (Nat.zero_le _) ⟨_, rfl, ⟨by first | exact (b2i_t (by simp only [fa_lt, fa_le, Int32.reduceToInt] at *; omega)).symm | exact (b2i_f (by simp only [fa_lt, fa_le, Int32.reduceToInt] at *; omega)).symm, rfl⟩⟩
set_option maxHeartbeats 1000000 in
theorem c_X9_in {l : Launch} {G : va_G} {cy : Nat → ClassId} (a lo hi : Int32) (S : HS) : Cn l G cy yX9_in cX9_in 3 (some .boolean) 0 [.int a, .int lo, .int hi] S 0 0 (qI (fun r S2 => r = b2i (lo ≤ a ∧ a ≤ hi) ∧ S2 = S)) := by
  refine Cn.of [some (.int a), some (.int lo), some (.int hi)] (by decide) rfl (Nat.le_of_ble_eq_true rfl) ?_
  refine r_iload_n dX9_in_0 rfl rfl ?_
  refine r_iload_n dX9_in_1 rfl rfl ?_
  refine r_icmp_lt 14 dX9_in_2 (by decide) (fun q2 => ?_) (fun q2 => ?_)
  · skip
    refine r_iconst (v := 0) dX9_in_14 (by decide) ?_
    exact r_zret dX9_in_15 rfl rfl (Nat.zero_le _) (Nat.zero_le _) ⟨_, rfl, ⟨by first | exact (b2i_t (by simp only [fa_lt, fa_le, Int32.reduceToInt] at *; omega)).symm | exact (b2i_f (by simp only [fa_lt, fa_le, Int32.reduceToInt] at *; omega)).symm, rfl⟩⟩
  · skip
    refine r_iload_n dX9_in_5 rfl rfl ?_
    refine r_iload_n dX9_in_6 rfl rfl ?_
    refine r_icmp_gt 14 dX9_in_7 (by decide) (fun q7 => ?_) (fun q7 => ?_)
    · skip
      refine r_iconst (v := 0) dX9_in_14 (by decide) ?_
      exact r_zret dX9_in_15 rfl rfl (Nat.zero_le _) (Nat.zero_le _) ⟨_, rfl, ⟨by first | exact (b2i_t (by simp only [fa_lt, fa_le, Int32.reduceToInt] at *; omega)).symm | exact (b2i_f (by simp only [fa_lt, fa_le, Int32.reduceToInt] at *; omega)).symm, rfl⟩⟩
    · skip
      refine r_iconst (v := 1) dX9_in_10 (by decide) ?_
      refine r_goto 15 dX9_in_11 (by decide) ?_
      exact r_zret dX9_in_15 rfl rfl (Nat.zero_le _) (Nat.zero_le _) ⟨_, rfl, ⟨by first | exact (b2i_t (by simp only [fa_lt, fa_le, Int32.reduceToInt] at *; omega)).symm | exact (b2i_f (by simp only [fa_lt, fa_le, Int32.reduceToInt] at *; omega)).symm, rfl⟩⟩
