/-! ===== the reference: gales, drift, the best yard ===== -/
def besX (w c : Int32) : Int32 := c - c / 6 * 6 + (if w.toInt = 1 then 1 else if w.toInt = 2 then -1 else 0)
def besY (w c : Int32) : Int32 := c / 6 + (if w.toInt = 3 then 1 else if w.toInt = 4 then -1 else 0)
def besF (w c : Int32) : Int32 := if (0 ≤ (besX w c).toInt ∧ (besX w c).toInt ≤ 5) ∧ 0 ≤ (besY w c).toInt ∧ (besY w c).toInt ≤ 5 then 6 * besY w c + besX w c else c
theorem besF_in {w c : Int32} (hc : 0 ≤ c.toInt ∧ c.toInt < 36) : 0 ≤ (besF w c).toInt ∧ (besF w c).toInt < 36 := by
  unfold besF
  split
  · rename_i h
    have e1 : (6 * besY w c).toInt = 6 * (besY w c).toInt := by
      rw [fb_mulI] <;> simp only [Int32.reduceToInt] <;> omega
    rw [fb_addI] <;> rw [e1] <;> omega
  · exact hc
def stS (S : HS) : Nat → HS
  | 0 => S
  | i + 1 => if ¬ mA (stS S i) 3 i = -1 ∧ ¬ mA (stS S i) 1 (mA (stS S i) 3 i).toNatClampNeg = 0 then setA (setA (stS S i) (ma 2) (upd (mA (stS S i) 2) i (mA (stS S i) 2 i - mA (stS S i) 2 i / 5))) (ma 7) (upd (mA (stS S i) 7) i (mA (stS S i) 7 i + mA (stS S i) 2 i / 5)) else stS S i
theorem stS_f {S : HS} : ∀ i, sL (stS S i) = sL S ∧ sR (stS S i) = sR S ∧ sI (stS S i) = sI S ∧ sA (stS S i) (ma 3) = sA S (ma 3) ∧ sA (stS S i) (ma 1) = sA S (ma 1)
  | 0 => ⟨rfl, rfl, rfl, rfl, rfl⟩
  | i + 1 => by
    obtain ⟨h1, h2, h3, h4, h5⟩ := stS_f (S := S) i
    have e : stS S (i + 1) = if ¬ mA (stS S i) 3 i = -1 ∧ ¬ mA (stS S i) 1 (mA (stS S i) 3 i).toNatClampNeg = 0 then setA (setA (stS S i) (ma 2) (upd (mA (stS S i) 2) i (mA (stS S i) 2 i - mA (stS S i) 2 i / 5))) (ma 7) (upd (mA (stS S i) 7) i (mA (stS S i) 7 i + mA (stS S i) 2 i / 5)) else stS S i := rfl
    rw [e]
    split
    · exact ⟨h1, h2, h3, h4, h5⟩
    · exact ⟨h1, h2, h3, h4, h5⟩
/-- best yard so far, among the first n -/
def byF (lf bd : Nat → Int32) : Nat → Int32
  | 0 => -1
  | i + 1 => if 0 < (lf i).toInt ∧ (byF lf bd i = -1 ∨ (bd (byF lf bd i).toNatClampNeg).toInt < (bd i).toInt) then nI i else byF lf bd i
theorem byF_in {lf bd : Nat → Int32} : ∀ {n : Nat}, n ≤ 4 → byF lf bd n = -1 ∨ (0 ≤ (byF lf bd n).toInt ∧ (byF lf bd n).toInt < n)
  | 0, _ => Or.inl rfl
  | n + 1, h => by
    have ih := byF_in (lf := lf) (bd := bd) (n := n) (by omega)
    unfold byF
    split
    · have e : (nI n).toInt = n := nI_toInt (by omega)
      exact Or.inr ⟨by omega, by omega⟩
    · rcases ih with q | q
      · exact Or.inl q
      · exact Or.inr ⟨q.1, by omega⟩
set_option maxHeartbeats 4000000 in
theorem c_X9_beside {l : Launch} {G : va_G} {cy : Nat → ClassId} (c : Int32) (S : HS) (h : ShM S) : Cn l G cy yX9_beside cX9_beside 4 (some .int) 1 [.ref 2000, .int c] S 0 0 (qI (fun r S2 => r = besF (mI S 28) c ∧ S2 = S)) := by
  refine Cn.of [some (.ref 2000), some (.int c), none, none] (by decide) rfl (Nat.le_of_ble_eq_true rfl) ?_
  refine r_iload_n dX9_beside_0 rfl rfl ?_
  refine r_bipush (v := 6) dX9_beside_1 (by decide) ?_
  refine r_irem dX9_beside_3 (by decide) ?_
  refine r_aload_n dX9_beside_4 rfl rfl ?_
  refine r_getI dX9_beside_5 lf_X9_133 rfl rfl ?_
  refine r_iconst (v := 1) dX9_beside_8 (by decide) ?_
  refine r_icmp_ne 16 dX9_beside_9 (by decide) (fun q9 => ?_) (fun q9 => ?_)
  · skip
    refine r_aload_n dX9_beside_16 rfl rfl ?_
    refine r_getI dX9_beside_17 lf_X9_133 rfl rfl ?_
    refine r_iconst (v := 2) dX9_beside_20 (by decide) ?_
    refine r_icmp_ne 28 dX9_beside_21 (by decide) (fun q21 => ?_) (fun q21 => ?_)
    · skip
      refine r_iconst (v := 0) dX9_beside_28 (by decide) ?_
      refine r_iadd dX9_beside_29 ?_
      rw [show (c - c / 6 * 6 + _ : Int32) = besX (mI S 28) c from by unfold besX; first | (rw [if_pos (by (try simp only [b2i_eq0, b2i_ne0, decide_eq_true_eq] at *); (try simp only [mI, mA, sI_setA, sI_setQ, sI_setR, sA_setI, sA_setR, sA_setQ, fa_lt, fa_le, fa_eq, Int32.reduceToInt] at *); omega)]; done) | (rw [if_neg (by (try simp only [b2i_eq0, b2i_ne0, decide_eq_true_eq] at *); (try simp only [mI, mA, sI_setA, sI_setQ, sI_setR, sA_setI, sA_setR, sA_setQ, fa_lt, fa_le, fa_eq, Int32.reduceToInt] at *); omega), if_pos (by (try simp only [b2i_eq0, b2i_ne0, decide_eq_true_eq] at *); (try simp only [mI, mA, sI_setA, sI_setQ, sI_setR, sA_setI, sA_setR, sA_setQ, fa_lt, fa_le, fa_eq, Int32.reduceToInt] at *); omega)]; done) | (rw [if_neg (by (try simp only [b2i_eq0, b2i_ne0, decide_eq_true_eq] at *); (try simp only [mI, mA, sI_setA, sI_setQ, sI_setR, sA_setI, sA_setR, sA_setQ, fa_lt, fa_le, fa_eq, Int32.reduceToInt] at *); omega), if_neg (by (try simp only [b2i_eq0, b2i_ne0, decide_eq_true_eq] at *); (try simp only [mI, mA, sI_setA, sI_setQ, sI_setR, sA_setI, sA_setR, sA_setQ, fa_lt, fa_le, fa_eq, Int32.reduceToInt] at *); omega)]; done)]
      refine r_ist2 dX9_beside_30 (Nat.le_of_ble_eq_true rfl) rfl ?_
      refine r_iload_n dX9_beside_31 rfl rfl ?_
      refine r_bipush (v := 6) dX9_beside_32 (by decide) ?_
      refine r_idiv dX9_beside_34 (by decide) ?_
      refine r_aload_n dX9_beside_35 rfl rfl ?_
      refine r_getI dX9_beside_36 lf_X9_133 rfl rfl ?_
      refine r_iconst (v := 3) dX9_beside_39 (by decide) ?_
      refine r_icmp_ne 47 dX9_beside_40 (by decide) (fun q40 => ?_) (fun q40 => ?_)
      · skip
        refine r_aload_n dX9_beside_47 rfl rfl ?_
        refine r_getI dX9_beside_48 lf_X9_133 rfl rfl ?_
        refine r_iconst (v := 4) dX9_beside_51 (by decide) ?_
        refine r_icmp_ne 59 dX9_beside_52 (by decide) (fun q52 => ?_) (fun q52 => ?_)
        · skip
          refine r_iconst (v := 0) dX9_beside_59 (by decide) ?_
          refine r_iadd dX9_beside_60 ?_
          rw [show (c / 6 + _ : Int32) = besY (mI S 28) c from by unfold besY; first | (rw [if_pos (by (try simp only [b2i_eq0, b2i_ne0, decide_eq_true_eq] at *); (try simp only [mI, mA, sI_setA, sI_setQ, sI_setR, sA_setI, sA_setR, sA_setQ, fa_lt, fa_le, fa_eq, Int32.reduceToInt] at *); omega)]; done) | (rw [if_neg (by (try simp only [b2i_eq0, b2i_ne0, decide_eq_true_eq] at *); (try simp only [mI, mA, sI_setA, sI_setQ, sI_setR, sA_setI, sA_setR, sA_setQ, fa_lt, fa_le, fa_eq, Int32.reduceToInt] at *); omega), if_pos (by (try simp only [b2i_eq0, b2i_ne0, decide_eq_true_eq] at *); (try simp only [mI, mA, sI_setA, sI_setQ, sI_setR, sA_setI, sA_setR, sA_setQ, fa_lt, fa_le, fa_eq, Int32.reduceToInt] at *); omega)]; done) | (rw [if_neg (by (try simp only [b2i_eq0, b2i_ne0, decide_eq_true_eq] at *); (try simp only [mI, mA, sI_setA, sI_setQ, sI_setR, sA_setI, sA_setR, sA_setQ, fa_lt, fa_le, fa_eq, Int32.reduceToInt] at *); omega), if_neg (by (try simp only [b2i_eq0, b2i_ne0, decide_eq_true_eq] at *); (try simp only [mI, mA, sI_setA, sI_setQ, sI_setR, sA_setI, sA_setR, sA_setQ, fa_lt, fa_le, fa_eq, Int32.reduceToInt] at *); omega)]; done)]
          refine r_ist3 dX9_beside_61 (Nat.le_of_ble_eq_true rfl) rfl ?_
          refine r_iload_n dX9_beside_62 rfl rfl ?_
          refine r_iconst (v := 0) dX9_beside_63 (by decide) ?_
          refine r_iconst (v := 5) dX9_beside_64 (by decide) ?_
          refine r_invS3i dX9_beside_65 lm_X9_129 (c_X9_in _ _ _ _) (Nat.le_of_ble_eq_true rfl) (Nat.le_of_ble_eq_true rfl) (Nat.zero_le _) (Nat.zero_le _) (fun r65 S65 hq65 => ?_)
          obtain ⟨rfl, hz65⟩ := hq65
          replace hz65 := hz65.symm
          subst hz65
          refine r_if_eq 89 dX9_beside_68 (by decide) (fun q68 => ?_) (fun q68 => ?_)
          · skip
            refine r_iload_n dX9_beside_89 rfl rfl ?_
            exact r_iret dX9_beside_90 rfl (Nat.zero_le _) (Nat.zero_le _) ⟨_, rfl, ⟨by unfold besF; first | exact (if_pos (by (try simp only [b2i_eq0, b2i_ne0, decide_eq_true_eq] at *); (try simp only [mI, mA, sI_setA, sI_setQ, sI_setR, sA_setI, sA_setR, sA_setQ, fa_lt, fa_le, fa_eq, Int32.reduceToInt] at *); omega)).symm | exact (if_neg (by (try simp only [b2i_eq0, b2i_ne0, decide_eq_true_eq] at *); (try simp only [mI, mA, sI_setA, sI_setQ, sI_setR, sA_setI, sA_setR, sA_setQ, fa_lt, fa_le, fa_eq, Int32.reduceToInt] at *); omega)).symm, rfl⟩⟩
          · skip
            refine r_iload_n dX9_beside_71 rfl rfl ?_
            refine r_iconst (v := 0) dX9_beside_72 (by decide) ?_
            refine r_iconst (v := 5) dX9_beside_73 (by decide) ?_
            refine r_invS3i dX9_beside_74 lm_X9_129 (c_X9_in _ _ _ _) (Nat.le_of_ble_eq_true rfl) (Nat.le_of_ble_eq_true rfl) (Nat.zero_le _) (Nat.zero_le _) (fun r74 S74 hq74 => ?_)
            obtain ⟨rfl, hz74⟩ := hq74
            replace hz74 := hz74.symm
            subst hz74
            refine r_if_eq 89 dX9_beside_77 (by decide) (fun q77 => ?_) (fun q77 => ?_)
            · skip
              refine r_iload_n dX9_beside_89 rfl rfl ?_
              exact r_iret dX9_beside_90 rfl (Nat.zero_le _) (Nat.zero_le _) ⟨_, rfl, ⟨by unfold besF; first | exact (if_pos (by (try simp only [b2i_eq0, b2i_ne0, decide_eq_true_eq] at *); (try simp only [mI, mA, sI_setA, sI_setQ, sI_setR, sA_setI, sA_setR, sA_setQ, fa_lt, fa_le, fa_eq, Int32.reduceToInt] at *); omega)).symm | exact (if_neg (by (try simp only [b2i_eq0, b2i_ne0, decide_eq_true_eq] at *); (try simp only [mI, mA, sI_setA, sI_setQ, sI_setR, sA_setI, sA_setR, sA_setQ, fa_lt, fa_le, fa_eq, Int32.reduceToInt] at *); omega)).symm, rfl⟩⟩
            · skip
              refine r_bipush (v := 6) dX9_beside_80 (by decide) ?_
              refine r_iload_n dX9_beside_82 rfl rfl ?_
              refine r_imul dX9_beside_83 ?_
              refine r_iload_n dX9_beside_84 rfl rfl ?_
              refine r_iadd dX9_beside_85 ?_
              refine r_goto 90 dX9_beside_86 (by decide) ?_
              exact r_iret dX9_beside_90 rfl (Nat.zero_le _) (Nat.zero_le _) ⟨_, rfl, ⟨by unfold besF; first | exact (if_pos (by (try simp only [b2i_eq0, b2i_ne0, decide_eq_true_eq] at *); (try simp only [mI, mA, sI_setA, sI_setQ, sI_setR, sA_setI, sA_setR, sA_setQ, fa_lt, fa_le, fa_eq, Int32.reduceToInt] at *); omega)).symm | exact (if_neg (by (try simp only [b2i_eq0, b2i_ne0, decide_eq_true_eq] at *); (try simp only [mI, mA, sI_setA, sI_setQ, sI_setR, sA_setI, sA_setR, sA_setQ, fa_lt, fa_le, fa_eq, Int32.reduceToInt] at *); omega)).symm, rfl⟩⟩
        · skip
          refine r_iconst (v := (-1)) dX9_beside_55 (by decide) ?_
          refine r_goto 60 dX9_beside_56 (by decide) ?_
          refine r_iadd dX9_beside_60 ?_
          rw [show (c / 6 + _ : Int32) = besY (mI S 28) c from by unfold besY; first | (rw [if_pos (by (try simp only [b2i_eq0, b2i_ne0, decide_eq_true_eq] at *); (try simp only [mI, mA, sI_setA, sI_setQ, sI_setR, sA_setI, sA_setR, sA_setQ, fa_lt, fa_le, fa_eq, Int32.reduceToInt] at *); omega)]; done) | (rw [if_neg (by (try simp only [b2i_eq0, b2i_ne0, decide_eq_true_eq] at *); (try simp only [mI, mA, sI_setA, sI_setQ, sI_setR, sA_setI, sA_setR, sA_setQ, fa_lt, fa_le, fa_eq, Int32.reduceToInt] at *); omega), if_pos (by (try simp only [b2i_eq0, b2i_ne0, decide_eq_true_eq] at *); (try simp only [mI, mA, sI_setA, sI_setQ, sI_setR, sA_setI, sA_setR, sA_setQ, fa_lt, fa_le, fa_eq, Int32.reduceToInt] at *); omega)]; done) | (rw [if_neg (by (try simp only [b2i_eq0, b2i_ne0, decide_eq_true_eq] at *); (try simp only [mI, mA, sI_setA, sI_setQ, sI_setR, sA_setI, sA_setR, sA_setQ, fa_lt, fa_le, fa_eq, Int32.reduceToInt] at *); omega), if_neg (by (try simp only [b2i_eq0, b2i_ne0, decide_eq_true_eq] at *); (try simp only [mI, mA, sI_setA, sI_setQ, sI_setR, sA_setI, sA_setR, sA_setQ, fa_lt, fa_le, fa_eq, Int32.reduceToInt] at *); omega)]; done)]
          refine r_ist3 dX9_beside_61 (Nat.le_of_ble_eq_true rfl) rfl ?_
          refine r_iload_n dX9_beside_62 rfl rfl ?_
          refine r_iconst (v := 0) dX9_beside_63 (by decide) ?_
          refine r_iconst (v := 5) dX9_beside_64 (by decide) ?_
          refine r_invS3i dX9_beside_65 lm_X9_129 (c_X9_in _ _ _ _) (Nat.le_of_ble_eq_true rfl) (Nat.le_of_ble_eq_true rfl) (Nat.zero_le _) (Nat.zero_le _) (fun r65 S65 hq65 => ?_)
          obtain ⟨rfl, hz65⟩ := hq65
          replace hz65 := hz65.symm
          subst hz65
          refine r_if_eq 89 dX9_beside_68 (by decide) (fun q68 => ?_) (fun q68 => ?_)
          · skip
            refine r_iload_n dX9_beside_89 rfl rfl ?_
            exact r_iret dX9_beside_90 rfl (Nat.zero_le _) (Nat.zero_le _) ⟨_, rfl, ⟨by unfold besF; first | exact (if_pos (by (try simp only [b2i_eq0, b2i_ne0, decide_eq_true_eq] at *); (try simp only [mI, mA, sI_setA, sI_setQ, sI_setR, sA_setI, sA_setR, sA_setQ, fa_lt, fa_le, fa_eq, Int32.reduceToInt] at *); omega)).symm | exact (if_neg (by (try simp only [b2i_eq0, b2i_ne0, decide_eq_true_eq] at *); (try simp only [mI, mA, sI_setA, sI_setQ, sI_setR, sA_setI, sA_setR, sA_setQ, fa_lt, fa_le, fa_eq, Int32.reduceToInt] at *); omega)).symm, rfl⟩⟩
          · skip
            refine r_iload_n dX9_beside_71 rfl rfl ?_
            refine r_iconst (v := 0) dX9_beside_72 (by decide) ?_
            refine r_iconst (v := 5) dX9_beside_73 (by decide) ?_
            refine r_invS3i dX9_beside_74 lm_X9_129 (c_X9_in _ _ _ _) (Nat.le_of_ble_eq_true rfl) (Nat.le_of_ble_eq_true rfl) (Nat.zero_le _) (Nat.zero_le _) (fun r74 S74 hq74 => ?_)
            obtain ⟨rfl, hz74⟩ := hq74
            replace hz74 := hz74.symm
            subst hz74
            refine r_if_eq 89 dX9_beside_77 (by decide) (fun q77 => ?_) (fun q77 => ?_)
            · skip
              refine r_iload_n dX9_beside_89 rfl rfl ?_
              exact r_iret dX9_beside_90 rfl (Nat.zero_le _) (Nat.zero_le _) ⟨_, rfl, ⟨by unfold besF; first | exact (if_pos (by (try simp only [b2i_eq0, b2i_ne0, decide_eq_true_eq] at *); (try simp only [mI, mA, sI_setA, sI_setQ, sI_setR, sA_setI, sA_setR, sA_setQ, fa_lt, fa_le, fa_eq, Int32.reduceToInt] at *); omega)).symm | exact (if_neg (by (try simp only [b2i_eq0, b2i_ne0, decide_eq_true_eq] at *); (try simp only [mI, mA, sI_setA, sI_setQ, sI_setR, sA_setI, sA_setR, sA_setQ, fa_lt, fa_le, fa_eq, Int32.reduceToInt] at *); omega)).symm, rfl⟩⟩
            · skip
              refine r_bipush (v := 6) dX9_beside_80 (by decide) ?_
              refine r_iload_n dX9_beside_82 rfl rfl ?_
              refine r_imul dX9_beside_83 ?_
              refine r_iload_n dX9_beside_84 rfl rfl ?_
              refine r_iadd dX9_beside_85 ?_
              refine r_goto 90 dX9_beside_86 (by decide) ?_
              exact r_iret dX9_beside_90 rfl (Nat.zero_le _) (Nat.zero_le _) ⟨_, rfl, ⟨by unfold besF; first | exact (if_pos (by (try simp only [b2i_eq0, b2i_ne0, decide_eq_true_eq] at *); (try simp only [mI, mA, sI_setA, sI_setQ, sI_setR, sA_setI, sA_setR, sA_setQ, fa_lt, fa_le, fa_eq, Int32.reduceToInt] at *); omega)).symm | exact (if_neg (by (try simp only [b2i_eq0, b2i_ne0, decide_eq_true_eq] at *); (try simp only [mI, mA, sI_setA, sI_setQ, sI_setR, sA_setI, sA_setR, sA_setQ, fa_lt, fa_le, fa_eq, Int32.reduceToInt] at *); omega)).symm, rfl⟩⟩
      · skip
        refine r_iconst (v := 1) dX9_beside_43 (by decide) ?_
        refine r_goto 60 dX9_beside_44 (by decide) ?_
        refine r_iadd dX9_beside_60 ?_
        rw [show (c / 6 + _ : Int32) = besY (mI S 28) c from by unfold besY; first | (rw [if_pos (by (try simp only [b2i_eq0, b2i_ne0, decide_eq_true_eq] at *); (try simp only [mI, mA, sI_setA, sI_setQ, sI_setR, sA_setI, sA_setR, sA_setQ, fa_lt, fa_le, fa_eq, Int32.reduceToInt] at *); omega)]; done) | (rw [if_neg (by (try simp only [b2i_eq0, b2i_ne0, decide_eq_true_eq] at *); (try simp only [mI, mA, sI_setA, sI_setQ, sI_setR, sA_setI, sA_setR, sA_setQ, fa_lt, fa_le, fa_eq, Int32.reduceToInt] at *); omega), if_pos (by (try simp only [b2i_eq0, b2i_ne0, decide_eq_true_eq] at *); (try simp only [mI, mA, sI_setA, sI_setQ, sI_setR, sA_setI, sA_setR, sA_setQ, fa_lt, fa_le, fa_eq, Int32.reduceToInt] at *); omega)]; done) | (rw [if_neg (by (try simp only [b2i_eq0, b2i_ne0, decide_eq_true_eq] at *); (try simp only [mI, mA, sI_setA, sI_setQ, sI_setR, sA_setI, sA_setR, sA_setQ, fa_lt, fa_le, fa_eq, Int32.reduceToInt] at *); omega), if_neg (by (try simp only [b2i_eq0, b2i_ne0, decide_eq_true_eq] at *); (try simp only [mI, mA, sI_setA, sI_setQ, sI_setR, sA_setI, sA_setR, sA_setQ, fa_lt, fa_le, fa_eq, Int32.reduceToInt] at *); omega)]; done)]
        refine r_ist3 dX9_beside_61 (Nat.le_of_ble_eq_true rfl) rfl ?_
        refine r_iload_n dX9_beside_62 rfl rfl ?_
        refine r_iconst (v := 0) dX9_beside_63 (by decide) ?_
        refine r_iconst (v := 5) dX9_beside_64 (by decide) ?_
        refine r_invS3i dX9_beside_65 lm_X9_129 (c_X9_in _ _ _ _) (Nat.le_of_ble_eq_true rfl) (Nat.le_of_ble_eq_true rfl) (Nat.zero_le _) (Nat.zero_le _) (fun r65 S65 hq65 => ?_)
        obtain ⟨rfl, hz65⟩ := hq65
        replace hz65 := hz65.symm
        subst hz65
        refine r_if_eq 89 dX9_beside_68 (by decide) (fun q68 => ?_) (fun q68 => ?_)
        · skip
          refine r_iload_n dX9_beside_89 rfl rfl ?_
          exact r_iret dX9_beside_90 rfl (Nat.zero_le _) (Nat.zero_le _) ⟨_, rfl, ⟨by unfold besF; first | exact (if_pos (by (try simp only [b2i_eq0, b2i_ne0, decide_eq_true_eq] at *); (try simp only [mI, mA, sI_setA, sI_setQ, sI_setR, sA_setI, sA_setR, sA_setQ, fa_lt, fa_le, fa_eq, Int32.reduceToInt] at *); omega)).symm | exact (if_neg (by (try simp only [b2i_eq0, b2i_ne0, decide_eq_true_eq] at *); (try simp only [mI, mA, sI_setA, sI_setQ, sI_setR, sA_setI, sA_setR, sA_setQ, fa_lt, fa_le, fa_eq, Int32.reduceToInt] at *); omega)).symm, rfl⟩⟩
        · skip
          refine r_iload_n dX9_beside_71 rfl rfl ?_
          refine r_iconst (v := 0) dX9_beside_72 (by decide) ?_
          refine r_iconst (v := 5) dX9_beside_73 (by decide) ?_
          refine r_invS3i dX9_beside_74 lm_X9_129 (c_X9_in _ _ _ _) (Nat.le_of_ble_eq_true rfl) (Nat.le_of_ble_eq_true rfl) (Nat.zero_le _) (Nat.zero_le _) (fun r74 S74 hq74 => ?_)
          obtain ⟨rfl, hz74⟩ := hq74
          replace hz74 := hz74.symm
          subst hz74
          refine r_if_eq 89 dX9_beside_77 (by decide) (fun q77 => ?_) (fun q77 => ?_)
          · skip
            refine r_iload_n dX9_beside_89 rfl rfl ?_
            exact r_iret dX9_beside_90 rfl (Nat.zero_le _) (Nat.zero_le _) ⟨_, rfl, ⟨by unfold besF; first | exact (if_pos (by (try simp only [b2i_eq0, b2i_ne0, decide_eq_true_eq] at *); (try simp only [mI, mA, sI_setA, sI_setQ, sI_setR, sA_setI, sA_setR, sA_setQ, fa_lt, fa_le, fa_eq, Int32.reduceToInt] at *); omega)).symm | exact (if_neg (by (try simp only [b2i_eq0, b2i_ne0, decide_eq_true_eq] at *); (try simp only [mI, mA, sI_setA, sI_setQ, sI_setR, sA_setI, sA_setR, sA_setQ, fa_lt, fa_le, fa_eq, Int32.reduceToInt] at *); omega)).symm, rfl⟩⟩
          · skip
            refine r_bipush (v := 6) dX9_beside_80 (by decide) ?_
            refine r_iload_n dX9_beside_82 rfl rfl ?_
            refine r_imul dX9_beside_83 ?_
            refine r_iload_n dX9_beside_84 rfl rfl ?_
            refine r_iadd dX9_beside_85 ?_
            refine r_goto 90 dX9_beside_86 (by decide) ?_
            exact r_iret dX9_beside_90 rfl (Nat.zero_le _) (Nat.zero_le _) ⟨_, rfl, ⟨by unfold besF; first | exact (if_pos (by (try simp only [b2i_eq0, b2i_ne0, decide_eq_true_eq] at *); (try simp only [mI, mA, sI_setA, sI_setQ, sI_setR, sA_setI, sA_setR, sA_setQ, fa_lt, fa_le, fa_eq, Int32.reduceToInt] at *); omega)).symm | exact (if_neg (by (try simp only [b2i_eq0, b2i_ne0, decide_eq_true_eq] at *); (try simp only [mI, mA, sI_setA, sI_setQ, sI_setR, sA_setI, sA_setR, sA_setQ, fa_lt, fa_le, fa_eq, Int32.reduceToInt] at *); omega)).symm, rfl⟩⟩
    · skip
      refine r_iconst (v := (-1)) dX9_beside_24 (by decide) ?_
      refine r_goto 29 dX9_beside_25 (by decide) ?_
      refine r_iadd dX9_beside_29 ?_
      rw [show (c - c / 6 * 6 + _ : Int32) = besX (mI S 28) c from by unfold besX; first | (rw [if_pos (by (try simp only [b2i_eq0, b2i_ne0, decide_eq_true_eq] at *); (try simp only [mI, mA, sI_setA, sI_setQ, sI_setR, sA_setI, sA_setR, sA_setQ, fa_lt, fa_le, fa_eq, Int32.reduceToInt] at *); omega)]; done) | (rw [if_neg (by (try simp only [b2i_eq0, b2i_ne0, decide_eq_true_eq] at *); (try simp only [mI, mA, sI_setA, sI_setQ, sI_setR, sA_setI, sA_setR, sA_setQ, fa_lt, fa_le, fa_eq, Int32.reduceToInt] at *); omega), if_pos (by (try simp only [b2i_eq0, b2i_ne0, decide_eq_true_eq] at *); (try simp only [mI, mA, sI_setA, sI_setQ, sI_setR, sA_setI, sA_setR, sA_setQ, fa_lt, fa_le, fa_eq, Int32.reduceToInt] at *); omega)]; done) | (rw [if_neg (by (try simp only [b2i_eq0, b2i_ne0, decide_eq_true_eq] at *); (try simp only [mI, mA, sI_setA, sI_setQ, sI_setR, sA_setI, sA_setR, sA_setQ, fa_lt, fa_le, fa_eq, Int32.reduceToInt] at *); omega), if_neg (by (try simp only [b2i_eq0, b2i_ne0, decide_eq_true_eq] at *); (try simp only [mI, mA, sI_setA, sI_setQ, sI_setR, sA_setI, sA_setR, sA_setQ, fa_lt, fa_le, fa_eq, Int32.reduceToInt] at *); omega)]; done)]
      refine r_ist2 dX9_beside_30 (Nat.le_of_ble_eq_true rfl) rfl ?_
      refine r_iload_n dX9_beside_31 rfl rfl ?_
      refine r_bipush (v := 6) dX9_beside_32 (by decide) ?_
      refine r_idiv dX9_beside_34 (by decide) ?_
      refine r_aload_n dX9_beside_35 rfl rfl ?_
      refine r_getI dX9_beside_36 lf_X9_133 rfl rfl ?_
      refine r_iconst (v := 3) dX9_beside_39 (by decide) ?_
      refine r_icmp_ne 47 dX9_beside_40 (by decide) (fun q40 => ?_) (fun q40 => ?_)
      · skip
        refine r_aload_n dX9_beside_47 rfl rfl ?_
        refine r_getI dX9_beside_48 lf_X9_133 rfl rfl ?_
        refine r_iconst (v := 4) dX9_beside_51 (by decide) ?_
        refine r_icmp_ne 59 dX9_beside_52 (by decide) (fun q52 => ?_) (fun q52 => ?_)
        · skip
          refine r_iconst (v := 0) dX9_beside_59 (by decide) ?_
          refine r_iadd dX9_beside_60 ?_
          rw [show (c / 6 + _ : Int32) = besY (mI S 28) c from by unfold besY; first | (rw [if_pos (by (try simp only [b2i_eq0, b2i_ne0, decide_eq_true_eq] at *); (try simp only [mI, mA, sI_setA, sI_setQ, sI_setR, sA_setI, sA_setR, sA_setQ, fa_lt, fa_le, fa_eq, Int32.reduceToInt] at *); omega)]; done) | (rw [if_neg (by (try simp only [b2i_eq0, b2i_ne0, decide_eq_true_eq] at *); (try simp only [mI, mA, sI_setA, sI_setQ, sI_setR, sA_setI, sA_setR, sA_setQ, fa_lt, fa_le, fa_eq, Int32.reduceToInt] at *); omega), if_pos (by (try simp only [b2i_eq0, b2i_ne0, decide_eq_true_eq] at *); (try simp only [mI, mA, sI_setA, sI_setQ, sI_setR, sA_setI, sA_setR, sA_setQ, fa_lt, fa_le, fa_eq, Int32.reduceToInt] at *); omega)]; done) | (rw [if_neg (by (try simp only [b2i_eq0, b2i_ne0, decide_eq_true_eq] at *); (try simp only [mI, mA, sI_setA, sI_setQ, sI_setR, sA_setI, sA_setR, sA_setQ, fa_lt, fa_le, fa_eq, Int32.reduceToInt] at *); omega), if_neg (by (try simp only [b2i_eq0, b2i_ne0, decide_eq_true_eq] at *); (try simp only [mI, mA, sI_setA, sI_setQ, sI_setR, sA_setI, sA_setR, sA_setQ, fa_lt, fa_le, fa_eq, Int32.reduceToInt] at *); omega)]; done)]
          refine r_ist3 dX9_beside_61 (Nat.le_of_ble_eq_true rfl) rfl ?_
          refine r_iload_n dX9_beside_62 rfl rfl ?_
          refine r_iconst (v := 0) dX9_beside_63 (by decide) ?_
          refine r_iconst (v := 5) dX9_beside_64 (by decide) ?_
          refine r_invS3i dX9_beside_65 lm_X9_129 (c_X9_in _ _ _ _) (Nat.le_of_ble_eq_true rfl) (Nat.le_of_ble_eq_true rfl) (Nat.zero_le _) (Nat.zero_le _) (fun r65 S65 hq65 => ?_)
          obtain ⟨rfl, hz65⟩ := hq65
          replace hz65 := hz65.symm
          subst hz65
          refine r_if_eq 89 dX9_beside_68 (by decide) (fun q68 => ?_) (fun q68 => ?_)
          · skip
            refine r_iload_n dX9_beside_89 rfl rfl ?_
            exact r_iret dX9_beside_90 rfl (Nat.zero_le _) (Nat.zero_le _) ⟨_, rfl, ⟨by unfold besF; first | exact (if_pos (by (try simp only [b2i_eq0, b2i_ne0, decide_eq_true_eq] at *); (try simp only [mI, mA, sI_setA, sI_setQ, sI_setR, sA_setI, sA_setR, sA_setQ, fa_lt, fa_le, fa_eq, Int32.reduceToInt] at *); omega)).symm | exact (if_neg (by (try simp only [b2i_eq0, b2i_ne0, decide_eq_true_eq] at *); (try simp only [mI, mA, sI_setA, sI_setQ, sI_setR, sA_setI, sA_setR, sA_setQ, fa_lt, fa_le, fa_eq, Int32.reduceToInt] at *); omega)).symm, rfl⟩⟩
          · skip
            refine r_iload_n dX9_beside_71 rfl rfl ?_
            refine r_iconst (v := 0) dX9_beside_72 (by decide) ?_
            refine r_iconst (v := 5) dX9_beside_73 (by decide) ?_
            refine r_invS3i dX9_beside_74 lm_X9_129 (c_X9_in _ _ _ _) (Nat.le_of_ble_eq_true rfl) (Nat.le_of_ble_eq_true rfl) (Nat.zero_le _) (Nat.zero_le _) (fun r74 S74 hq74 => ?_)
            obtain ⟨rfl, hz74⟩ := hq74
            replace hz74 := hz74.symm
            subst hz74
            refine r_if_eq 89 dX9_beside_77 (by decide) (fun q77 => ?_) (fun q77 => ?_)
            · skip
              refine r_iload_n dX9_beside_89 rfl rfl ?_
              exact r_iret dX9_beside_90 rfl (Nat.zero_le _) (Nat.zero_le _) ⟨_, rfl, ⟨by unfold besF; first | exact (if_pos (by (try simp only [b2i_eq0, b2i_ne0, decide_eq_true_eq] at *); (try simp only [mI, mA, sI_setA, sI_setQ, sI_setR, sA_setI, sA_setR, sA_setQ, fa_lt, fa_le, fa_eq, Int32.reduceToInt] at *); omega)).symm | exact (if_neg (by (try simp only [b2i_eq0, b2i_ne0, decide_eq_true_eq] at *); (try simp only [mI, mA, sI_setA, sI_setQ, sI_setR, sA_setI, sA_setR, sA_setQ, fa_lt, fa_le, fa_eq, Int32.reduceToInt] at *); omega)).symm, rfl⟩⟩
            · skip
              refine r_bipush (v := 6) dX9_beside_80 (by decide) ?_
              refine r_iload_n dX9_beside_82 rfl rfl ?_
              refine r_imul dX9_beside_83 ?_
              refine r_iload_n dX9_beside_84 rfl rfl ?_
              refine r_iadd dX9_beside_85 ?_
              refine r_goto 90 dX9_beside_86 (by decide) ?_
              exact r_iret dX9_beside_90 rfl (Nat.zero_le _) (Nat.zero_le _) ⟨_, rfl, ⟨by unfold besF; first | exact (if_pos (by (try simp only [b2i_eq0, b2i_ne0, decide_eq_true_eq] at *); (try simp only [mI, mA, sI_setA, sI_setQ, sI_setR, sA_setI, sA_setR, sA_setQ, fa_lt, fa_le, fa_eq, Int32.reduceToInt] at *); omega)).symm | exact (if_neg (by (try simp only [b2i_eq0, b2i_ne0, decide_eq_true_eq] at *); (try simp only [mI, mA, sI_setA, sI_setQ, sI_setR, sA_setI, sA_setR, sA_setQ, fa_lt, fa_le, fa_eq, Int32.reduceToInt] at *); omega)).symm, rfl⟩⟩
        · skip
          refine r_iconst (v := (-1)) dX9_beside_55 (by decide) ?_
          refine r_goto 60 dX9_beside_56 (by decide) ?_
          refine r_iadd dX9_beside_60 ?_
          rw [show (c / 6 + _ : Int32) = besY (mI S 28) c from by unfold besY; first | (rw [if_pos (by (try simp only [b2i_eq0, b2i_ne0, decide_eq_true_eq] at *); (try simp only [mI, mA, sI_setA, sI_setQ, sI_setR, sA_setI, sA_setR, sA_setQ, fa_lt, fa_le, fa_eq, Int32.reduceToInt] at *); omega)]; done) | (rw [if_neg (by (try simp only [b2i_eq0, b2i_ne0, decide_eq_true_eq] at *); (try simp only [mI, mA, sI_setA, sI_setQ, sI_setR, sA_setI, sA_setR, sA_setQ, fa_lt, fa_le, fa_eq, Int32.reduceToInt] at *); omega), if_pos (by (try simp only [b2i_eq0, b2i_ne0, decide_eq_true_eq] at *); (try simp only [mI, mA, sI_setA, sI_setQ, sI_setR, sA_setI, sA_setR, sA_setQ, fa_lt, fa_le, fa_eq, Int32.reduceToInt] at *); omega)]; done) | (rw [if_neg (by (try simp only [b2i_eq0, b2i_ne0, decide_eq_true_eq] at *); (try simp only [mI, mA, sI_setA, sI_setQ, sI_setR, sA_setI, sA_setR, sA_setQ, fa_lt, fa_le, fa_eq, Int32.reduceToInt] at *); omega), if_neg (by (try simp only [b2i_eq0, b2i_ne0, decide_eq_true_eq] at *); (try simp only [mI, mA, sI_setA, sI_setQ, sI_setR, sA_setI, sA_setR, sA_setQ, fa_lt, fa_le, fa_eq, Int32.reduceToInt] at *); omega)]; done)]
          refine r_ist3 dX9_beside_61 (Nat.le_of_ble_eq_true rfl) rfl ?_
          refine r_iload_n dX9_beside_62 rfl rfl ?_
          refine r_iconst (v := 0) dX9_beside_63 (by decide) ?_
          refine r_iconst (v := 5) dX9_beside_64 (by decide) ?_
          refine r_invS3i dX9_beside_65 lm_X9_129 (c_X9_in _ _ _ _) (Nat.le_of_ble_eq_true rfl) (Nat.le_of_ble_eq_true rfl) (Nat.zero_le _) (Nat.zero_le _) (fun r65 S65 hq65 => ?_)
          obtain ⟨rfl, hz65⟩ := hq65
          replace hz65 := hz65.symm
          subst hz65
          refine r_if_eq 89 dX9_beside_68 (by decide) (fun q68 => ?_) (fun q68 => ?_)
          · skip
            refine r_iload_n dX9_beside_89 rfl rfl ?_
            exact r_iret dX9_beside_90 rfl (Nat.zero_le _) (Nat.zero_le _) ⟨_, rfl, ⟨by unfold besF; first | exact (if_pos (by (try simp only [b2i_eq0, b2i_ne0, decide_eq_true_eq] at *); (try simp only [mI, mA, sI_setA, sI_setQ, sI_setR, sA_setI, sA_setR, sA_setQ, fa_lt, fa_le, fa_eq, Int32.reduceToInt] at *); omega)).symm | exact (if_neg (by (try simp only [b2i_eq0, b2i_ne0, decide_eq_true_eq] at *); (try simp only [mI, mA, sI_setA, sI_setQ, sI_setR, sA_setI, sA_setR, sA_setQ, fa_lt, fa_le, fa_eq, Int32.reduceToInt] at *); omega)).symm, rfl⟩⟩
          · skip
            refine r_iload_n dX9_beside_71 rfl rfl ?_
            refine r_iconst (v := 0) dX9_beside_72 (by decide) ?_
            refine r_iconst (v := 5) dX9_beside_73 (by decide) ?_
            refine r_invS3i dX9_beside_74 lm_X9_129 (c_X9_in _ _ _ _) (Nat.le_of_ble_eq_true rfl) (Nat.le_of_ble_eq_true rfl) (Nat.zero_le _) (Nat.zero_le _) (fun r74 S74 hq74 => ?_)
            obtain ⟨rfl, hz74⟩ := hq74
            replace hz74 := hz74.symm
            subst hz74
            refine r_if_eq 89 dX9_beside_77 (by decide) (fun q77 => ?_) (fun q77 => ?_)
            · skip
              refine r_iload_n dX9_beside_89 rfl rfl ?_
              exact r_iret dX9_beside_90 rfl (Nat.zero_le _) (Nat.zero_le _) ⟨_, rfl, ⟨by unfold besF; first | exact (if_pos (by (try simp only [b2i_eq0, b2i_ne0, decide_eq_true_eq] at *); (try simp only [mI, mA, sI_setA, sI_setQ, sI_setR, sA_setI, sA_setR, sA_setQ, fa_lt, fa_le, fa_eq, Int32.reduceToInt] at *); omega)).symm | exact (if_neg (by (try simp only [b2i_eq0, b2i_ne0, decide_eq_true_eq] at *); (try simp only [mI, mA, sI_setA, sI_setQ, sI_setR, sA_setI, sA_setR, sA_setQ, fa_lt, fa_le, fa_eq, Int32.reduceToInt] at *); omega)).symm, rfl⟩⟩
            · skip
              refine r_bipush (v := 6) dX9_beside_80 (by decide) ?_
              refine r_iload_n dX9_beside_82 rfl rfl ?_
              refine r_imul dX9_beside_83 ?_
              refine r_iload_n dX9_beside_84 rfl rfl ?_
              refine r_iadd dX9_beside_85 ?_
              refine r_goto 90 dX9_beside_86 (by decide) ?_
              exact r_iret dX9_beside_90 rfl (Nat.zero_le _) (Nat.zero_le _) ⟨_, rfl, ⟨by unfold besF; first | exact (if_pos (by (try simp only [b2i_eq0, b2i_ne0, decide_eq_true_eq] at *); (try simp only [mI, mA, sI_setA, sI_setQ, sI_setR, sA_setI, sA_setR, sA_setQ, fa_lt, fa_le, fa_eq, Int32.reduceToInt] at *); omega)).symm | exact (if_neg (by (try simp only [b2i_eq0, b2i_ne0, decide_eq_true_eq] at *); (try simp only [mI, mA, sI_setA, sI_setQ, sI_setR, sA_setI, sA_setR, sA_setQ, fa_lt, fa_le, fa_eq, Int32.reduceToInt] at *); omega)).symm, rfl⟩⟩
      · skip
        refine r_iconst (v := 1) dX9_beside_43 (by decide) ?_
        refine r_goto 60 dX9_beside_44 (by decide) ?_
        refine r_iadd dX9_beside_60 ?_
        rw [show (c / 6 + _ : Int32) = besY (mI S 28) c from by unfold besY; first | (rw [if_pos (by (try simp only [b2i_eq0, b2i_ne0, decide_eq_true_eq] at *); (try simp only [mI, mA, sI_setA, sI_setQ, sI_setR, sA_setI, sA_setR, sA_setQ, fa_lt, fa_le, fa_eq, Int32.reduceToInt] at *); omega)]; done) | (rw [if_neg (by (try simp only [b2i_eq0, b2i_ne0, decide_eq_true_eq] at *); (try simp only [mI, mA, sI_setA, sI_setQ, sI_setR, sA_setI, sA_setR, sA_setQ, fa_lt, fa_le, fa_eq, Int32.reduceToInt] at *); omega), if_pos (by (try simp only [b2i_eq0, b2i_ne0, decide_eq_true_eq] at *); (try simp only [mI, mA, sI_setA, sI_setQ, sI_setR, sA_setI, sA_setR, sA_setQ, fa_lt, fa_le, fa_eq, Int32.reduceToInt] at *); omega)]; done) | (rw [if_neg (by (try simp only [b2i_eq0, b2i_ne0, decide_eq_true_eq] at *); (try simp only [mI, mA, sI_setA, sI_setQ, sI_setR, sA_setI, sA_setR, sA_setQ, fa_lt, fa_le, fa_eq, Int32.reduceToInt] at *); omega), if_neg (by (try simp only [b2i_eq0, b2i_ne0, decide_eq_true_eq] at *); (try simp only [mI, mA, sI_setA, sI_setQ, sI_setR, sA_setI, sA_setR, sA_setQ, fa_lt, fa_le, fa_eq, Int32.reduceToInt] at *); omega)]; done)]
        refine r_ist3 dX9_beside_61 (Nat.le_of_ble_eq_true rfl) rfl ?_
        refine r_iload_n dX9_beside_62 rfl rfl ?_
        refine r_iconst (v := 0) dX9_beside_63 (by decide) ?_
        refine r_iconst (v := 5) dX9_beside_64 (by decide) ?_
        refine r_invS3i dX9_beside_65 lm_X9_129 (c_X9_in _ _ _ _) (Nat.le_of_ble_eq_true rfl) (Nat.le_of_ble_eq_true rfl) (Nat.zero_le _) (Nat.zero_le _) (fun r65 S65 hq65 => ?_)
        obtain ⟨rfl, hz65⟩ := hq65
        replace hz65 := hz65.symm
        subst hz65
        refine r_if_eq 89 dX9_beside_68 (by decide) (fun q68 => ?_) (fun q68 => ?_)
        · skip
          refine r_iload_n dX9_beside_89 rfl rfl ?_
          exact r_iret dX9_beside_90 rfl (Nat.zero_le _) (Nat.zero_le _) ⟨_, rfl, ⟨by unfold besF; first | exact (if_pos (by (try simp only [b2i_eq0, b2i_ne0, decide_eq_true_eq] at *); (try simp only [mI, mA, sI_setA, sI_setQ, sI_setR, sA_setI, sA_setR, sA_setQ, fa_lt, fa_le, fa_eq, Int32.reduceToInt] at *); omega)).symm | exact (if_neg (by (try simp only [b2i_eq0, b2i_ne0, decide_eq_true_eq] at *); (try simp only [mI, mA, sI_setA, sI_setQ, sI_setR, sA_setI, sA_setR, sA_setQ, fa_lt, fa_le, fa_eq, Int32.reduceToInt] at *); omega)).symm, rfl⟩⟩
        · skip
          refine r_iload_n dX9_beside_71 rfl rfl ?_
          refine r_iconst (v := 0) dX9_beside_72 (by decide) ?_
          refine r_iconst (v := 5) dX9_beside_73 (by decide) ?_
          refine r_invS3i dX9_beside_74 lm_X9_129 (c_X9_in _ _ _ _) (Nat.le_of_ble_eq_true rfl) (Nat.le_of_ble_eq_true rfl) (Nat.zero_le _) (Nat.zero_le _) (fun r74 S74 hq74 => ?_)
          obtain ⟨rfl, hz74⟩ := hq74
          replace hz74 := hz74.symm
          subst hz74
          refine r_if_eq 89 dX9_beside_77 (by decide) (fun q77 => ?_) (fun q77 => ?_)
          · skip
            refine r_iload_n dX9_beside_89 rfl rfl ?_
            exact r_iret dX9_beside_90 rfl (Nat.zero_le _) (Nat.zero_le _) ⟨_, rfl, ⟨by unfold besF; first | exact (if_pos (by (try simp only [b2i_eq0, b2i_ne0, decide_eq_true_eq] at *); (try simp only [mI, mA, sI_setA, sI_setQ, sI_setR, sA_setI, sA_setR, sA_setQ, fa_lt, fa_le, fa_eq, Int32.reduceToInt] at *); omega)).symm | exact (if_neg (by (try simp only [b2i_eq0, b2i_ne0, decide_eq_true_eq] at *); (try simp only [mI, mA, sI_setA, sI_setQ, sI_setR, sA_setI, sA_setR, sA_setQ, fa_lt, fa_le, fa_eq, Int32.reduceToInt] at *); omega)).symm, rfl⟩⟩
          · skip
            refine r_bipush (v := 6) dX9_beside_80 (by decide) ?_
            refine r_iload_n dX9_beside_82 rfl rfl ?_
            refine r_imul dX9_beside_83 ?_
            refine r_iload_n dX9_beside_84 rfl rfl ?_
            refine r_iadd dX9_beside_85 ?_
            refine r_goto 90 dX9_beside_86 (by decide) ?_
            exact r_iret dX9_beside_90 rfl (Nat.zero_le _) (Nat.zero_le _) ⟨_, rfl, ⟨by unfold besF; first | exact (if_pos (by (try simp only [b2i_eq0, b2i_ne0, decide_eq_true_eq] at *); (try simp only [mI, mA, sI_setA, sI_setQ, sI_setR, sA_setI, sA_setR, sA_setQ, fa_lt, fa_le, fa_eq, Int32.reduceToInt] at *); omega)).symm | exact (if_neg (by (try simp only [b2i_eq0, b2i_ne0, decide_eq_true_eq] at *); (try simp only [mI, mA, sI_setA, sI_setQ, sI_setR, sA_setI, sA_setR, sA_setQ, fa_lt, fa_le, fa_eq, Int32.reduceToInt] at *); omega)).symm, rfl⟩⟩
  · skip
    refine r_iconst (v := 1) dX9_beside_12 (by decide) ?_
    refine r_goto 29 dX9_beside_13 (by decide) ?_
    refine r_iadd dX9_beside_29 ?_
    rw [show (c - c / 6 * 6 + _ : Int32) = besX (mI S 28) c from by unfold besX; first | (rw [if_pos (by (try simp only [b2i_eq0, b2i_ne0, decide_eq_true_eq] at *); (try simp only [mI, mA, sI_setA, sI_setQ, sI_setR, sA_setI, sA_setR, sA_setQ, fa_lt, fa_le, fa_eq, Int32.reduceToInt] at *); omega)]; done) | (rw [if_neg (by (try simp only [b2i_eq0, b2i_ne0, decide_eq_true_eq] at *); (try simp only [mI, mA, sI_setA, sI_setQ, sI_setR, sA_setI, sA_setR, sA_setQ, fa_lt, fa_le, fa_eq, Int32.reduceToInt] at *); omega), if_pos (by (try simp only [b2i_eq0, b2i_ne0, decide_eq_true_eq] at *); (try simp only [mI, mA, sI_setA, sI_setQ, sI_setR, sA_setI, sA_setR, sA_setQ, fa_lt, fa_le, fa_eq, Int32.reduceToInt] at *); omega)]; done) | (rw [if_neg (by (try simp only [b2i_eq0, b2i_ne0, decide_eq_true_eq] at *); (try simp only [mI, mA, sI_setA, sI_setQ, sI_setR, sA_setI, sA_setR, sA_setQ, fa_lt, fa_le, fa_eq, Int32.reduceToInt] at *); omega), if_neg (by (try simp only [b2i_eq0, b2i_ne0, decide_eq_true_eq] at *); (try simp only [mI, mA, sI_setA, sI_setQ, sI_setR, sA_setI, sA_setR, sA_setQ, fa_lt, fa_le, fa_eq, Int32.reduceToInt] at *); omega)]; done)]
    refine r_ist2 dX9_beside_30 (Nat.le_of_ble_eq_true rfl) rfl ?_
    refine r_iload_n dX9_beside_31 rfl rfl ?_
    refine r_bipush (v := 6) dX9_beside_32 (by decide) ?_
    refine r_idiv dX9_beside_34 (by decide) ?_
    refine r_aload_n dX9_beside_35 rfl rfl ?_
    refine r_getI dX9_beside_36 lf_X9_133 rfl rfl ?_
    refine r_iconst (v := 3) dX9_beside_39 (by decide) ?_
    refine r_icmp_ne 47 dX9_beside_40 (by decide) (fun q40 => ?_) (fun q40 => ?_)
    · skip
      refine r_aload_n dX9_beside_47 rfl rfl ?_
      refine r_getI dX9_beside_48 lf_X9_133 rfl rfl ?_
      refine r_iconst (v := 4) dX9_beside_51 (by decide) ?_
      refine r_icmp_ne 59 dX9_beside_52 (by decide) (fun q52 => ?_) (fun q52 => ?_)
      · skip
        refine r_iconst (v := 0) dX9_beside_59 (by decide) ?_
        refine r_iadd dX9_beside_60 ?_
        rw [show (c / 6 + _ : Int32) = besY (mI S 28) c from by unfold besY; first | (rw [if_pos (by (try simp only [b2i_eq0, b2i_ne0, decide_eq_true_eq] at *); (try simp only [mI, mA, sI_setA, sI_setQ, sI_setR, sA_setI, sA_setR, sA_setQ, fa_lt, fa_le, fa_eq, Int32.reduceToInt] at *); omega)]; done) | (rw [if_neg (by (try simp only [b2i_eq0, b2i_ne0, decide_eq_true_eq] at *); (try simp only [mI, mA, sI_setA, sI_setQ, sI_setR, sA_setI, sA_setR, sA_setQ, fa_lt, fa_le, fa_eq, Int32.reduceToInt] at *); omega), if_pos (by (try simp only [b2i_eq0, b2i_ne0, decide_eq_true_eq] at *); (try simp only [mI, mA, sI_setA, sI_setQ, sI_setR, sA_setI, sA_setR, sA_setQ, fa_lt, fa_le, fa_eq, Int32.reduceToInt] at *); omega)]; done) | (rw [if_neg (by (try simp only [b2i_eq0, b2i_ne0, decide_eq_true_eq] at *); (try simp only [mI, mA, sI_setA, sI_setQ, sI_setR, sA_setI, sA_setR, sA_setQ, fa_lt, fa_le, fa_eq, Int32.reduceToInt] at *); omega), if_neg (by (try simp only [b2i_eq0, b2i_ne0, decide_eq_true_eq] at *); (try simp only [mI, mA, sI_setA, sI_setQ, sI_setR, sA_setI, sA_setR, sA_setQ, fa_lt, fa_le, fa_eq, Int32.reduceToInt] at *); omega)]; done)]
        refine r_ist3 dX9_beside_61 (Nat.le_of_ble_eq_true rfl) rfl ?_
        refine r_iload_n dX9_beside_62 rfl rfl ?_
        refine r_iconst (v := 0) dX9_beside_63 (by decide) ?_
        refine r_iconst (v := 5) dX9_beside_64 (by decide) ?_
        refine r_invS3i dX9_beside_65 lm_X9_129 (c_X9_in _ _ _ _) (Nat.le_of_ble_eq_true rfl) (Nat.le_of_ble_eq_true rfl) (Nat.zero_le _) (Nat.zero_le _) (fun r65 S65 hq65 => ?_)
        obtain ⟨rfl, hz65⟩ := hq65
        replace hz65 := hz65.symm
        subst hz65
        refine r_if_eq 89 dX9_beside_68 (by decide) (fun q68 => ?_) (fun q68 => ?_)
        · skip
          refine r_iload_n dX9_beside_89 rfl rfl ?_
          exact r_iret dX9_beside_90 rfl (Nat.zero_le _) (Nat.zero_le _) ⟨_, rfl, ⟨by unfold besF; first | exact (if_pos (by (try simp only [b2i_eq0, b2i_ne0, decide_eq_true_eq] at *); (try simp only [mI, mA, sI_setA, sI_setQ, sI_setR, sA_setI, sA_setR, sA_setQ, fa_lt, fa_le, fa_eq, Int32.reduceToInt] at *); omega)).symm | exact (if_neg (by (try simp only [b2i_eq0, b2i_ne0, decide_eq_true_eq] at *); (try simp only [mI, mA, sI_setA, sI_setQ, sI_setR, sA_setI, sA_setR, sA_setQ, fa_lt, fa_le, fa_eq, Int32.reduceToInt] at *); omega)).symm, rfl⟩⟩
        · skip
          refine r_iload_n dX9_beside_71 rfl rfl ?_
          refine r_iconst (v := 0) dX9_beside_72 (by decide) ?_
          refine r_iconst (v := 5) dX9_beside_73 (by decide) ?_
          refine r_invS3i dX9_beside_74 lm_X9_129 (c_X9_in _ _ _ _) (Nat.le_of_ble_eq_true rfl) (Nat.le_of_ble_eq_true rfl) (Nat.zero_le _) (Nat.zero_le _) (fun r74 S74 hq74 => ?_)
          obtain ⟨rfl, hz74⟩ := hq74
          replace hz74 := hz74.symm
          subst hz74
          refine r_if_eq 89 dX9_beside_77 (by decide) (fun q77 => ?_) (fun q77 => ?_)
          · skip
            refine r_iload_n dX9_beside_89 rfl rfl ?_
            exact r_iret dX9_beside_90 rfl (Nat.zero_le _) (Nat.zero_le _) ⟨_, rfl, ⟨by unfold besF; first | exact (if_pos (by (try simp only [b2i_eq0, b2i_ne0, decide_eq_true_eq] at *); (try simp only [mI, mA, sI_setA, sI_setQ, sI_setR, sA_setI, sA_setR, sA_setQ, fa_lt, fa_le, fa_eq, Int32.reduceToInt] at *); omega)).symm | exact (if_neg (by (try simp only [b2i_eq0, b2i_ne0, decide_eq_true_eq] at *); (try simp only [mI, mA, sI_setA, sI_setQ, sI_setR, sA_setI, sA_setR, sA_setQ, fa_lt, fa_le, fa_eq, Int32.reduceToInt] at *); omega)).symm, rfl⟩⟩
          · skip
            refine r_bipush (v := 6) dX9_beside_80 (by decide) ?_
            refine r_iload_n dX9_beside_82 rfl rfl ?_
            refine r_imul dX9_beside_83 ?_
            refine r_iload_n dX9_beside_84 rfl rfl ?_
            refine r_iadd dX9_beside_85 ?_
            refine r_goto 90 dX9_beside_86 (by decide) ?_
            exact r_iret dX9_beside_90 rfl (Nat.zero_le _) (Nat.zero_le _) ⟨_, rfl, ⟨by unfold besF; first | exact (if_pos (by (try simp only [b2i_eq0, b2i_ne0, decide_eq_true_eq] at *); (try simp only [mI, mA, sI_setA, sI_setQ, sI_setR, sA_setI, sA_setR, sA_setQ, fa_lt, fa_le, fa_eq, Int32.reduceToInt] at *); omega)).symm | exact (if_neg (by (try simp only [b2i_eq0, b2i_ne0, decide_eq_true_eq] at *); (try simp only [mI, mA, sI_setA, sI_setQ, sI_setR, sA_setI, sA_setR, sA_setQ, fa_lt, fa_le, fa_eq, Int32.reduceToInt] at *); omega)).symm, rfl⟩⟩
      · skip
        refine r_iconst (v := (-1)) dX9_beside_55 (by decide) ?_
        refine r_goto 60 dX9_beside_56 (by decide) ?_
        refine r_iadd dX9_beside_60 ?_
        rw [show (c / 6 + _ : Int32) = besY (mI S 28) c from by unfold besY; first | (rw [if_pos (by (try simp only [b2i_eq0, b2i_ne0, decide_eq_true_eq] at *); (try simp only [mI, mA, sI_setA, sI_setQ, sI_setR, sA_setI, sA_setR, sA_setQ, fa_lt, fa_le, fa_eq, Int32.reduceToInt] at *); omega)]; done) | (rw [if_neg (by (try simp only [b2i_eq0, b2i_ne0, decide_eq_true_eq] at *); (try simp only [mI, mA, sI_setA, sI_setQ, sI_setR, sA_setI, sA_setR, sA_setQ, fa_lt, fa_le, fa_eq, Int32.reduceToInt] at *); omega), if_pos (by (try simp only [b2i_eq0, b2i_ne0, decide_eq_true_eq] at *); (try simp only [mI, mA, sI_setA, sI_setQ, sI_setR, sA_setI, sA_setR, sA_setQ, fa_lt, fa_le, fa_eq, Int32.reduceToInt] at *); omega)]; done) | (rw [if_neg (by (try simp only [b2i_eq0, b2i_ne0, decide_eq_true_eq] at *); (try simp only [mI, mA, sI_setA, sI_setQ, sI_setR, sA_setI, sA_setR, sA_setQ, fa_lt, fa_le, fa_eq, Int32.reduceToInt] at *); omega), if_neg (by (try simp only [b2i_eq0, b2i_ne0, decide_eq_true_eq] at *); (try simp only [mI, mA, sI_setA, sI_setQ, sI_setR, sA_setI, sA_setR, sA_setQ, fa_lt, fa_le, fa_eq, Int32.reduceToInt] at *); omega)]; done)]
        refine r_ist3 dX9_beside_61 (Nat.le_of_ble_eq_true rfl) rfl ?_
        refine r_iload_n dX9_beside_62 rfl rfl ?_
        refine r_iconst (v := 0) dX9_beside_63 (by decide) ?_
        refine r_iconst (v := 5) dX9_beside_64 (by decide) ?_
        refine r_invS3i dX9_beside_65 lm_X9_129 (c_X9_in _ _ _ _) (Nat.le_of_ble_eq_true rfl) (Nat.le_of_ble_eq_true rfl) (Nat.zero_le _) (Nat.zero_le _) (fun r65 S65 hq65 => ?_)
        obtain ⟨rfl, hz65⟩ := hq65
        replace hz65 := hz65.symm
        subst hz65
        refine r_if_eq 89 dX9_beside_68 (by decide) (fun q68 => ?_) (fun q68 => ?_)
        · skip
          refine r_iload_n dX9_beside_89 rfl rfl ?_
          exact r_iret dX9_beside_90 rfl (Nat.zero_le _) (Nat.zero_le _) ⟨_, rfl, ⟨by unfold besF; first | exact (if_pos (by (try simp only [b2i_eq0, b2i_ne0, decide_eq_true_eq] at *); (try simp only [mI, mA, sI_setA, sI_setQ, sI_setR, sA_setI, sA_setR, sA_setQ, fa_lt, fa_le, fa_eq, Int32.reduceToInt] at *); omega)).symm | exact (if_neg (by (try simp only [b2i_eq0, b2i_ne0, decide_eq_true_eq] at *); (try simp only [mI, mA, sI_setA, sI_setQ, sI_setR, sA_setI, sA_setR, sA_setQ, fa_lt, fa_le, fa_eq, Int32.reduceToInt] at *); omega)).symm, rfl⟩⟩
        · skip
          refine r_iload_n dX9_beside_71 rfl rfl ?_
          refine r_iconst (v := 0) dX9_beside_72 (by decide) ?_
          refine r_iconst (v := 5) dX9_beside_73 (by decide) ?_
          refine r_invS3i dX9_beside_74 lm_X9_129 (c_X9_in _ _ _ _) (Nat.le_of_ble_eq_true rfl) (Nat.le_of_ble_eq_true rfl) (Nat.zero_le _) (Nat.zero_le _) (fun r74 S74 hq74 => ?_)
          obtain ⟨rfl, hz74⟩ := hq74
          replace hz74 := hz74.symm
          subst hz74
          refine r_if_eq 89 dX9_beside_77 (by decide) (fun q77 => ?_) (fun q77 => ?_)
          · skip
            refine r_iload_n dX9_beside_89 rfl rfl ?_
            exact r_iret dX9_beside_90 rfl (Nat.zero_le _) (Nat.zero_le _) ⟨_, rfl, ⟨by unfold besF; first | exact (if_pos (by (try simp only [b2i_eq0, b2i_ne0, decide_eq_true_eq] at *); (try simp only [mI, mA, sI_setA, sI_setQ, sI_setR, sA_setI, sA_setR, sA_setQ, fa_lt, fa_le, fa_eq, Int32.reduceToInt] at *); omega)).symm | exact (if_neg (by (try simp only [b2i_eq0, b2i_ne0, decide_eq_true_eq] at *); (try simp only [mI, mA, sI_setA, sI_setQ, sI_setR, sA_setI, sA_setR, sA_setQ, fa_lt, fa_le, fa_eq, Int32.reduceToInt] at *); omega)).symm, rfl⟩⟩
          · skip
            refine r_bipush (v := 6) dX9_beside_80 (by decide) ?_
            refine r_iload_n dX9_beside_82 rfl rfl ?_
            refine r_imul dX9_beside_83 ?_
            refine r_iload_n dX9_beside_84 rfl rfl ?_
            refine r_iadd dX9_beside_85 ?_
            refine r_goto 90 dX9_beside_86 (by decide) ?_
            exact r_iret dX9_beside_90 rfl (Nat.zero_le _) (Nat.zero_le _) ⟨_, rfl, ⟨by unfold besF; first | exact (if_pos (by (try simp only [b2i_eq0, b2i_ne0, decide_eq_true_eq] at *); (try simp only [mI, mA, sI_setA, sI_setQ, sI_setR, sA_setI, sA_setR, sA_setQ, fa_lt, fa_le, fa_eq, Int32.reduceToInt] at *); omega)).symm | exact (if_neg (by (try simp only [b2i_eq0, b2i_ne0, decide_eq_true_eq] at *); (try simp only [mI, mA, sI_setA, sI_setQ, sI_setR, sA_setI, sA_setR, sA_setQ, fa_lt, fa_le, fa_eq, Int32.reduceToInt] at *); omega)).symm, rfl⟩⟩
    · skip
      refine r_iconst (v := 1) dX9_beside_43 (by decide) ?_
      refine r_goto 60 dX9_beside_44 (by decide) ?_
      refine r_iadd dX9_beside_60 ?_
      rw [show (c / 6 + _ : Int32) = besY (mI S 28) c from by unfold besY; first | (rw [if_pos (by (try simp only [b2i_eq0, b2i_ne0, decide_eq_true_eq] at *); (try simp only [mI, mA, sI_setA, sI_setQ, sI_setR, sA_setI, sA_setR, sA_setQ, fa_lt, fa_le, fa_eq, Int32.reduceToInt] at *); omega)]; done) | (rw [if_neg (by (try simp only [b2i_eq0, b2i_ne0, decide_eq_true_eq] at *); (try simp only [mI, mA, sI_setA, sI_setQ, sI_setR, sA_setI, sA_setR, sA_setQ, fa_lt, fa_le, fa_eq, Int32.reduceToInt] at *); omega), if_pos (by (try simp only [b2i_eq0, b2i_ne0, decide_eq_true_eq] at *); (try simp only [mI, mA, sI_setA, sI_setQ, sI_setR, sA_setI, sA_setR, sA_setQ, fa_lt, fa_le, fa_eq, Int32.reduceToInt] at *); omega)]; done) | (rw [if_neg (by (try simp only [b2i_eq0, b2i_ne0, decide_eq_true_eq] at *); (try simp only [mI, mA, sI_setA, sI_setQ, sI_setR, sA_setI, sA_setR, sA_setQ, fa_lt, fa_le, fa_eq, Int32.reduceToInt] at *); omega), if_neg (by (try simp only [b2i_eq0, b2i_ne0, decide_eq_true_eq] at *); (try simp only [mI, mA, sI_setA, sI_setQ, sI_setR, sA_setI, sA_setR, sA_setQ, fa_lt, fa_le, fa_eq, Int32.reduceToInt] at *); omega)]; done)]
      refine r_ist3 dX9_beside_61 (Nat.le_of_ble_eq_true rfl) rfl ?_
      refine r_iload_n dX9_beside_62 rfl rfl ?_
      refine r_iconst (v := 0) dX9_beside_63 (by decide) ?_
      refine r_iconst (v := 5) dX9_beside_64 (by decide) ?_
      refine r_invS3i dX9_beside_65 lm_X9_129 (c_X9_in _ _ _ _) (Nat.le_of_ble_eq_true rfl) (Nat.le_of_ble_eq_true rfl) (Nat.zero_le _) (Nat.zero_le _) (fun r65 S65 hq65 => ?_)
      obtain ⟨rfl, hz65⟩ := hq65
      replace hz65 := hz65.symm
      subst hz65
      refine r_if_eq 89 dX9_beside_68 (by decide) (fun q68 => ?_) (fun q68 => ?_)
      · skip
        refine r_iload_n dX9_beside_89 rfl rfl ?_
        exact r_iret dX9_beside_90 rfl (Nat.zero_le _) (Nat.zero_le _) ⟨_, rfl, ⟨by unfold besF; first | exact (if_pos (by (try simp only [b2i_eq0, b2i_ne0, decide_eq_true_eq] at *); (try simp only [mI, mA, sI_setA, sI_setQ, sI_setR, sA_setI, sA_setR, sA_setQ, fa_lt, fa_le, fa_eq, Int32.reduceToInt] at *); omega)).symm | exact (if_neg (by (try simp only [b2i_eq0, b2i_ne0, decide_eq_true_eq] at *); (try simp only [mI, mA, sI_setA, sI_setQ, sI_setR, sA_setI, sA_setR, sA_setQ, fa_lt, fa_le, fa_eq, Int32.reduceToInt] at *); omega)).symm, rfl⟩⟩
      · skip
        refine r_iload_n dX9_beside_71 rfl rfl ?_
        refine r_iconst (v := 0) dX9_beside_72 (by decide) ?_
        refine r_iconst (v := 5) dX9_beside_73 (by decide) ?_
        refine r_invS3i dX9_beside_74 lm_X9_129 (c_X9_in _ _ _ _) (Nat.le_of_ble_eq_true rfl) (Nat.le_of_ble_eq_true rfl) (Nat.zero_le _) (Nat.zero_le _) (fun r74 S74 hq74 => ?_)
        obtain ⟨rfl, hz74⟩ := hq74
        replace hz74 := hz74.symm
        subst hz74
        refine r_if_eq 89 dX9_beside_77 (by decide) (fun q77 => ?_) (fun q77 => ?_)
        · skip
          refine r_iload_n dX9_beside_89 rfl rfl ?_
          exact r_iret dX9_beside_90 rfl (Nat.zero_le _) (Nat.zero_le _) ⟨_, rfl, ⟨by unfold besF; first | exact (if_pos (by (try simp only [b2i_eq0, b2i_ne0, decide_eq_true_eq] at *); (try simp only [mI, mA, sI_setA, sI_setQ, sI_setR, sA_setI, sA_setR, sA_setQ, fa_lt, fa_le, fa_eq, Int32.reduceToInt] at *); omega)).symm | exact (if_neg (by (try simp only [b2i_eq0, b2i_ne0, decide_eq_true_eq] at *); (try simp only [mI, mA, sI_setA, sI_setQ, sI_setR, sA_setI, sA_setR, sA_setQ, fa_lt, fa_le, fa_eq, Int32.reduceToInt] at *); omega)).symm, rfl⟩⟩
        · skip
          refine r_bipush (v := 6) dX9_beside_80 (by decide) ?_
          refine r_iload_n dX9_beside_82 rfl rfl ?_
          refine r_imul dX9_beside_83 ?_
          refine r_iload_n dX9_beside_84 rfl rfl ?_
          refine r_iadd dX9_beside_85 ?_
          refine r_goto 90 dX9_beside_86 (by decide) ?_
          exact r_iret dX9_beside_90 rfl (Nat.zero_le _) (Nat.zero_le _) ⟨_, rfl, ⟨by unfold besF; first | exact (if_pos (by (try simp only [b2i_eq0, b2i_ne0, decide_eq_true_eq] at *); (try simp only [mI, mA, sI_setA, sI_setQ, sI_setR, sA_setI, sA_setR, sA_setQ, fa_lt, fa_le, fa_eq, Int32.reduceToInt] at *); omega)).symm | exact (if_neg (by (try simp only [b2i_eq0, b2i_ne0, decide_eq_true_eq] at *); (try simp only [mI, mA, sI_setA, sI_setQ, sI_setR, sA_setI, sA_setR, sA_setQ, fa_lt, fa_le, fa_eq, Int32.reduceToInt] at *); omega)).symm, rfl⟩⟩
set_option maxHeartbeats 4000000 in
theorem c_X9_bestYard {l : Launch} {G : va_G} {cy : Nat → ClassId} (S : HS) (h : ShM S) (hy : 0 ≤ (mI S 26).toInt ∧ (mI S 26).toInt ≤ 4) : Cn l G cy yX9_bestYard cX9_bestYard 3 (some .int) 0 [.ref 2000] S 0 0 (qI (fun r S2 => r = byF (mA S 40) (mA S 12) (nn (mI S 26)) ∧ S2 = S)) := by
  refine Cn.of [some (.ref 2000), none, none] (by decide) rfl (Nat.le_of_ble_eq_true rfl) ?_
  refine r_iconst (v := (-1)) dX9_bestYard_0 (by decide) ?_
  refine r_ist1 dX9_bestYard_1 (Nat.le_of_ble_eq_true rfl) rfl ?_
  refine r_iconst (v := 0) dX9_bestYard_2 (by decide) ?_
  refine r_ist2 dX9_bestYard_3 (Nat.le_of_ble_eq_true rfl) rfl ?_
  refine R.for (α := Unit) (nn (mI S 26)) (fun i a => [some (.ref 2000), some (.int (byF (mA S 40) (mA S 12) i)), some (.int (nI i))]) (fun i a => S) (fun i a => True) ?_ ?_ 0 () (Nat.zero_le _) trivial
  · intro a hI
    have hnb := nn_int hy.1
    have hii : (nI (nn (mI S 26))).toInt = ((nn (mI S 26) : Nat) : Int) := nI_toInt (by omega)
    refine r_iload_n dX9_bestYard_4 rfl rfl ?_
    refine r_aload_n dX9_bestYard_5 rfl rfl ?_
    refine r_getI dX9_bestYard_6 lf_X9_140 rfl rfl ?_
    refine r_icmp_ge 49 dX9_bestYard_9 (by decide) (fun q9 => ?_) (fun q9 => ?_)
    · skip
      refine r_iload_n dX9_bestYard_49 rfl rfl ?_
      exact r_iret dX9_bestYard_50 rfl (Nat.zero_le _) (Nat.zero_le _) ⟨_, rfl, ⟨rfl, rfl⟩⟩
    · skip
      exact absurd q9 (by (try simp only [b2i_eq0, b2i_ne0, decide_eq_true_eq] at *); (try simp only [mI, mA, sI_setA, sI_setQ, sI_setR, sA_setI, sA_setR, sA_setQ, fa_lt, fa_le, fa_eq, Int32.reduceToInt] at *); omega)
  · intro i a hi hI ih
    have hnb := nn_int hy.1
    have hii : (nI i).toInt = i := nI_toInt (by omega)
    have hic : (nI i).toNatClampNeg = i := nI_clamp (by omega)
    have hbi := byF_in (lf := (mA S 40)) (bd := (mA S 12)) (n := i) (by omega)
    refine r_iload_n dX9_bestYard_4 rfl rfl ?_
    refine r_aload_n dX9_bestYard_5 rfl rfl ?_
    refine r_getI dX9_bestYard_6 lf_X9_140 rfl rfl ?_
    refine r_icmp_ge 49 dX9_bestYard_9 (by decide) (fun q9 => ?_) (fun q9 => ?_)
    · skip
      exact absurd q9 (by (try simp only [b2i_eq0, b2i_ne0, decide_eq_true_eq] at *); (try simp only [mI, mA, sI_setA, sI_setQ, sI_setR, sA_setI, sA_setR, sA_setQ, fa_lt, fa_le, fa_eq, Int32.reduceToInt] at *); omega)
    · skip
      refine r_aload_n dX9_bestYard_12 rfl rfl ?_
      refine r_getR dX9_bestYard_13 lf_X9_102 rfl rfl (shM_R h (j := 40) rfl) (shM_L h (j := 40) rfl) ?_
      refine r_iload_n dX9_bestYard_16 rfl rfl ?_
      refine r_iald dX9_bestYard_17 rfl (show vp_in _ 4 from vp_in_iff.mpr (by (try simp only [b2i_eq0, b2i_ne0, decide_eq_true_eq] at *); (try simp only [mI, mA, sI_setA, sI_setQ, sI_setR, sA_setI, sA_setR, sA_setQ, fa_lt, fa_le, fa_eq, Int32.reduceToInt] at *); omega)) ?_
      refine r_if_le 43 dX9_bestYard_18 (by decide) (fun q18 => ?_) (fun q18 => ?_)
      · skip
        refine r_in2 dX9_bestYard_43 (show _ + Int32.ofInt 1 = _ + 1 from rfl) (Nat.le_of_ble_eq_true rfl) rfl ?_
        refine r_goto 4 dX9_bestYard_46 (by decide) ?_
        rw [nI_1]
        have h9 := ih () trivial
        by_cases hcd : (0 < (mA S 40 i).toInt ∧ (byF (mA S 40) (mA S 12) i = -1 ∨ (mA S 12 (byF (mA S 40) (mA S 12) i).toNatClampNeg).toInt < (mA S 12 i).toInt))
        · rw [show (byF (mA S 40) (mA S 12) (i + 1)) = nI i from if_pos hcd] at h9
          first | exact h9 | (exfalso; (simp only [hic, mA, fa_le, fa_eq, Int32.reduceToInt] at *); omega)
        · rw [show (byF (mA S 40) (mA S 12) (i + 1)) = (byF (mA S 40) (mA S 12) i) from if_neg hcd] at h9
          first | exact h9 | (exfalso; (simp only [hic, mA, fa_le, fa_eq, Int32.reduceToInt] at *); omega)
      · skip
        refine r_iload_n dX9_bestYard_21 rfl rfl ?_
        refine r_iconst (v := (-1)) dX9_bestYard_22 (by decide) ?_
        refine r_icmp_eq 41 dX9_bestYard_23 (by decide) (fun q23 => ?_) (fun q23 => ?_)
        · skip
          refine r_iload_n dX9_bestYard_41 rfl rfl ?_
          refine r_ist1 dX9_bestYard_42 (Nat.le_of_ble_eq_true rfl) rfl ?_
          refine r_in2 dX9_bestYard_43 (show _ + Int32.ofInt 1 = _ + 1 from rfl) (Nat.le_of_ble_eq_true rfl) rfl ?_
          refine r_goto 4 dX9_bestYard_46 (by decide) ?_
          rw [nI_1]
          have h9 := ih () trivial
          by_cases hcd : (0 < (mA S 40 i).toInt ∧ (byF (mA S 40) (mA S 12) i = -1 ∨ (mA S 12 (byF (mA S 40) (mA S 12) i).toNatClampNeg).toInt < (mA S 12 i).toInt))
          · rw [show (byF (mA S 40) (mA S 12) (i + 1)) = nI i from if_pos hcd] at h9
            first | exact h9 | (exfalso; (simp only [hic, mA, fa_le, fa_eq, Int32.reduceToInt] at *); omega)
          · rw [show (byF (mA S 40) (mA S 12) (i + 1)) = (byF (mA S 40) (mA S 12) i) from if_neg hcd] at h9
            first | exact h9 | (exfalso; (simp only [hic, mA, fa_le, fa_eq, Int32.reduceToInt] at *); omega)
        · skip
          refine r_aload_n dX9_bestYard_26 rfl rfl ?_
          refine r_getR dX9_bestYard_27 lf_X9_47 rfl rfl (shM_R h (j := 12) rfl) (shM_L h (j := 12) rfl) ?_
          refine r_iload_n dX9_bestYard_30 rfl rfl ?_
          refine r_iald dX9_bestYard_31 rfl (show vp_in _ 4 from vp_in_iff.mpr (by (try simp only [b2i_eq0, b2i_ne0, decide_eq_true_eq] at *); (try simp only [mI, mA, sI_setA, sI_setQ, sI_setR, sA_setI, sA_setR, sA_setQ, fa_lt, fa_le, fa_eq, Int32.reduceToInt] at *); omega)) ?_
          refine r_aload_n dX9_bestYard_32 rfl rfl ?_
          refine r_getR dX9_bestYard_33 lf_X9_47 rfl rfl (shM_R h (j := 12) rfl) (shM_L h (j := 12) rfl) ?_
          refine r_iload_n dX9_bestYard_36 rfl rfl ?_
          refine r_iald dX9_bestYard_37 rfl (show vp_in _ 4 from vp_in_iff.mpr (by rcases hbi with q | q; exact absurd q q23; omega)) ?_
          refine r_icmp_le 43 dX9_bestYard_38 (by decide) (fun q38 => ?_) (fun q38 => ?_)
          · skip
            refine r_in2 dX9_bestYard_43 (show _ + Int32.ofInt 1 = _ + 1 from rfl) (Nat.le_of_ble_eq_true rfl) rfl ?_
            refine r_goto 4 dX9_bestYard_46 (by decide) ?_
            rw [nI_1]
            have h9 := ih () trivial
            by_cases hcd : (0 < (mA S 40 i).toInt ∧ (byF (mA S 40) (mA S 12) i = -1 ∨ (mA S 12 (byF (mA S 40) (mA S 12) i).toNatClampNeg).toInt < (mA S 12 i).toInt))
            · rw [show (byF (mA S 40) (mA S 12) (i + 1)) = nI i from if_pos hcd] at h9
              first | exact h9 | (exfalso; (simp only [hic, mA, fa_le, fa_eq, Int32.reduceToInt] at *); omega)
            · rw [show (byF (mA S 40) (mA S 12) (i + 1)) = (byF (mA S 40) (mA S 12) i) from if_neg hcd] at h9
              first | exact h9 | (exfalso; (simp only [hic, mA, fa_le, fa_eq, Int32.reduceToInt] at *); omega)
          · skip
            refine r_iload_n dX9_bestYard_41 rfl rfl ?_
            refine r_ist1 dX9_bestYard_42 (Nat.le_of_ble_eq_true rfl) rfl ?_
            refine r_in2 dX9_bestYard_43 (show _ + Int32.ofInt 1 = _ + 1 from rfl) (Nat.le_of_ble_eq_true rfl) rfl ?_
            refine r_goto 4 dX9_bestYard_46 (by decide) ?_
            rw [nI_1]
            have h9 := ih () trivial
            by_cases hcd : (0 < (mA S 40 i).toInt ∧ (byF (mA S 40) (mA S 12) i = -1 ∨ (mA S 12 (byF (mA S 40) (mA S 12) i).toNatClampNeg).toInt < (mA S 12 i).toInt))
            · rw [show (byF (mA S 40) (mA S 12) (i + 1)) = nI i from if_pos hcd] at h9
              first | exact h9 | (exfalso; (simp only [hic, mA, fa_le, fa_eq, Int32.reduceToInt] at *); omega)
            · rw [show (byF (mA S 40) (mA S 12) (i + 1)) = (byF (mA S 40) (mA S 12) i) from if_neg hcd] at h9
              first | exact h9 | (exfalso; (simp only [hic, mA, fa_le, fa_eq, Int32.reduceToInt] at *); omega)
set_option maxHeartbeats 4000000 in
theorem c_X9_storm {l : Launch} {G : va_G} {cy : Nat → ClassId} (S : HS) (h : ShM S) (hb : 0 ≤ (mI S 25).toInt ∧ (mI S 25).toInt ≤ 12) (hc : ∀ i, i < 12 → -1 ≤ (mA S 3 i).toInt ∧ (mA S 3 i).toInt ≤ 35) : Cn l G cy yX9_storm cX9_storm 3 none 0 [.ref 2000] S 0 0 (qV (fun S2 => S2 = stS S (nn (mI S 25)))) := by
  refine Cn.of [some (.ref 2000), none, none] (by decide) rfl (Nat.le_of_ble_eq_true rfl) ?_
  refine r_iconst (v := 0) dX9_storm_0 (by decide) ?_
  refine r_ist1 dX9_storm_1 (Nat.le_of_ble_eq_true rfl) rfl ?_
  refine R.for (α := Option Value) (nn (mI S 25)) (fun i a => [some (.ref 2000), some (.int (nI i)), a]) (fun i a => (stS S i)) (fun i a => True) ?_ ?_ 0 none (Nat.zero_le _) trivial
  · intro a hI
    have hnb := nn_int hb.1
    have hii : (nI (nn (mI S 25))).toInt = ((nn (mI S 25) : Nat) : Int) := nI_toInt (by omega)
    refine r_iload_n dX9_storm_2 rfl rfl ?_
    refine r_aload_n dX9_storm_3 rfl rfl ?_
    refine r_getI dX9_storm_4 lf_X9_126 rfl rfl ?_
    refine r_icmp_ge 69 dX9_storm_7 (by decide) (fun q7 => ?_) (fun q7 => ?_)
    · skip
      exact r_vret dX9_storm_69 rfl (Nat.zero_le _) (Nat.zero_le _) ⟨rfl, rfl⟩
    · skip
      rw [(stS_f _).2.2.1] at q7
      exact absurd q7 (by (try simp only [b2i_eq0, b2i_ne0, decide_eq_true_eq] at *); (try simp only [mI, mA, sI_setA, sI_setQ, sI_setR, sA_setI, sA_setR, sA_setQ, fa_lt, fa_le, fa_eq, Int32.reduceToInt] at *); omega)
  · intro i a hi hI ih
    have hnb := nn_int hb.1
    have hii : (nI i).toInt = i := nI_toInt (by omega)
    have hic : (nI i).toNatClampNeg = i := nI_clamp (by omega)
    obtain ⟨s1, s2, s3, s4, s5⟩ := stS_f (S := S) i
    have hsh := h.same s1 s2
    have hci := hc i (by omega)
    refine r_iload_n dX9_storm_2 rfl rfl ?_
    refine r_aload_n dX9_storm_3 rfl rfl ?_
    refine r_getI dX9_storm_4 lf_X9_126 rfl rfl ?_
    refine r_icmp_ge 69 dX9_storm_7 (by decide) (fun q7 => ?_) (fun q7 => ?_)
    · skip
      rw [(stS_f _).2.2.1] at q7
      exact absurd q7 (by (try simp only [b2i_eq0, b2i_ne0, decide_eq_true_eq] at *); (try simp only [mI, mA, sI_setA, sI_setQ, sI_setR, sA_setI, sA_setR, sA_setQ, fa_lt, fa_le, fa_eq, Int32.reduceToInt] at *); omega)
    · skip
      refine r_aload_n dX9_storm_10 rfl rfl ?_
      refine r_getR dX9_storm_11 lf_X9_20 rfl rfl (shM_R hsh (j := 3) rfl) (shM_L hsh (j := 3) rfl) ?_
      refine r_iload_n dX9_storm_14 rfl rfl ?_
      refine r_iald dX9_storm_15 rfl (show vp_in _ 12 from vp_in_iff.mpr (by (try simp only [b2i_eq0, b2i_ne0, decide_eq_true_eq] at *); (try simp only [mI, mA, sI_setA, sI_setQ, sI_setR, sA_setI, sA_setR, sA_setQ, fa_lt, fa_le, fa_eq, Int32.reduceToInt] at *); omega)) ?_
      refine r_iconst (v := (-1)) dX9_storm_16 (by decide) ?_
      refine r_icmp_eq 63 dX9_storm_17 (by decide) (fun q17 => ?_) (fun q17 => ?_)
      · skip
        refine r_in1 dX9_storm_63 (show _ + Int32.ofInt 1 = _ + 1 from rfl) (Nat.le_of_ble_eq_true rfl) rfl ?_
        refine r_goto 2 dX9_storm_66 (by decide) ?_
        rw [nI_1]
        first
          | (rw [hic] at q17; refine R.heap (S2 := stS S (i + 1)) (show _ = if _ then _ else _ from (if_neg (fun q9 => q9.1 q17)).symm) (ih _ trivial); done)
          | (rw [hic] at q17 q31; refine R.heap (S2 := stS S (i + 1)) (show _ = if _ then _ else _ from (if_neg (fun q9 => q9.2 q31)).symm) (ih _ trivial); done)
          | (rw [hic] at q17 q31; rw [hic]; refine R.heap (S2 := stS S (i + 1)) (show _ = if _ then _ else _ from (if_pos ⟨q17, q31⟩).symm) (ih _ trivial); done)
      · skip
        refine r_aload_n dX9_storm_20 rfl rfl ?_
        refine r_getR dX9_storm_21 lf_X9_13 rfl rfl (shM_R hsh (j := 1) rfl) (shM_L hsh (j := 1) rfl) ?_
        refine r_aload_n dX9_storm_24 rfl rfl ?_
        refine r_getR dX9_storm_25 lf_X9_20 rfl rfl (shM_R hsh (j := 3) rfl) (shM_L hsh (j := 3) rfl) ?_
        refine r_iload_n dX9_storm_28 rfl rfl ?_
        refine r_iald dX9_storm_29 rfl (show vp_in _ 12 from vp_in_iff.mpr (by (try simp only [b2i_eq0, b2i_ne0, decide_eq_true_eq] at *); (try simp only [mI, mA, sI_setA, sI_setQ, sI_setR, sA_setI, sA_setR, sA_setQ, fa_lt, fa_le, fa_eq, Int32.reduceToInt] at *); omega)) ?_
        refine r_zald dX9_storm_30 rfl (show vp_in _ 36 from vp_in_iff.mpr (by rw [hic, s4]; rw [hic, s4] at q17; (simp only [mA, fa_eq, Int32.reduceToInt] at *); omega)) ?_
        refine r_if_eq 63 dX9_storm_31 (by decide) (fun q31 => ?_) (fun q31 => ?_)
        · skip
          refine r_in1 dX9_storm_63 (show _ + Int32.ofInt 1 = _ + 1 from rfl) (Nat.le_of_ble_eq_true rfl) rfl ?_
          refine r_goto 2 dX9_storm_66 (by decide) ?_
          rw [nI_1]
          first
            | (rw [hic] at q17; refine R.heap (S2 := stS S (i + 1)) (show _ = if _ then _ else _ from (if_neg (fun q9 => q9.1 q17)).symm) (ih _ trivial); done)
            | (rw [hic] at q17 q31; refine R.heap (S2 := stS S (i + 1)) (show _ = if _ then _ else _ from (if_neg (fun q9 => q9.2 q31)).symm) (ih _ trivial); done)
            | (rw [hic] at q17 q31; rw [hic]; refine R.heap (S2 := stS S (i + 1)) (show _ = if _ then _ else _ from (if_pos ⟨q17, q31⟩).symm) (ih _ trivial); done)
        · skip
          refine r_aload_n dX9_storm_34 rfl rfl ?_
          refine r_getR dX9_storm_35 lf_X9_17 rfl rfl (shM_R hsh (j := 2) rfl) (shM_L hsh (j := 2) rfl) ?_
          refine r_iload_n dX9_storm_38 rfl rfl ?_
          refine r_iald dX9_storm_39 rfl (show vp_in _ 12 from vp_in_iff.mpr (by (try simp only [b2i_eq0, b2i_ne0, decide_eq_true_eq] at *); (try simp only [mI, mA, sI_setA, sI_setQ, sI_setR, sA_setI, sA_setR, sA_setQ, fa_lt, fa_le, fa_eq, Int32.reduceToInt] at *); omega)) ?_
          refine r_iconst (v := 5) dX9_storm_40 (by decide) ?_
          refine r_idiv dX9_storm_41 (by decide) ?_
          refine r_ist2 dX9_storm_42 (Nat.le_of_ble_eq_true rfl) rfl ?_
          refine r_aload_n dX9_storm_43 rfl rfl ?_
          refine r_getR dX9_storm_44 lf_X9_17 rfl rfl (shM_R hsh (j := 2) rfl) (shM_L hsh (j := 2) rfl) ?_
          refine r_iload_n dX9_storm_47 rfl rfl ?_
          refine r_dup2 dX9_storm_48 rfl rfl ?_
          refine r_iald dX9_storm_49 rfl (show vp_in _ 12 from vp_in_iff.mpr (by (try simp only [b2i_eq0, b2i_ne0, decide_eq_true_eq] at *); (try simp only [mI, mA, sI_setA, sI_setQ, sI_setR, sA_setI, sA_setR, sA_setQ, fa_lt, fa_le, fa_eq, Int32.reduceToInt] at *); omega)) ?_
          refine r_iload_n dX9_storm_50 rfl rfl ?_
          refine r_isub dX9_storm_51 ?_
          refine r_iast dX9_storm_52 rfl (show vp_in _ 12 from vp_in_iff.mpr (by (try simp only [b2i_eq0, b2i_ne0, decide_eq_true_eq] at *); (try simp only [mI, mA, sI_setA, sI_setQ, sI_setR, sA_setI, sA_setR, sA_setQ, fa_lt, fa_le, fa_eq, Int32.reduceToInt] at *); omega)) ?_
          refine r_aload_n dX9_storm_53 rfl rfl ?_
          refine r_getR dX9_storm_54 lf_X9_32 rfl rfl (shM_R hsh (j := 7) rfl) (shM_L hsh (j := 7) rfl) ?_
          refine r_iload_n dX9_storm_57 rfl rfl ?_
          refine r_dup2 dX9_storm_58 rfl rfl ?_
          refine r_iald dX9_storm_59 rfl (show vp_in _ 12 from vp_in_iff.mpr (by (try simp only [b2i_eq0, b2i_ne0, decide_eq_true_eq] at *); (try simp only [mI, mA, sI_setA, sI_setQ, sI_setR, sA_setI, sA_setR, sA_setQ, fa_lt, fa_le, fa_eq, Int32.reduceToInt] at *); omega)) ?_
          refine r_iload_n dX9_storm_60 rfl rfl ?_
          refine r_iadd dX9_storm_61 ?_
          refine r_iast dX9_storm_62 rfl (show vp_in _ 12 from vp_in_iff.mpr (by (try simp only [b2i_eq0, b2i_ne0, decide_eq_true_eq] at *); (try simp only [mI, mA, sI_setA, sI_setQ, sI_setR, sA_setI, sA_setR, sA_setQ, fa_lt, fa_le, fa_eq, Int32.reduceToInt] at *); omega)) ?_
          refine r_in1 dX9_storm_63 (show _ + Int32.ofInt 1 = _ + 1 from rfl) (Nat.le_of_ble_eq_true rfl) rfl ?_
          refine r_goto 2 dX9_storm_66 (by decide) ?_
          rw [nI_1]
          first
            | (rw [hic] at q17; refine R.heap (S2 := stS S (i + 1)) (show _ = if _ then _ else _ from (if_neg (fun q9 => q9.1 q17)).symm) (ih _ trivial); done)
            | (rw [hic] at q17 q31; refine R.heap (S2 := stS S (i + 1)) (show _ = if _ then _ else _ from (if_neg (fun q9 => q9.2 q31)).symm) (ih _ trivial); done)
            | (rw [hic] at q17 q31; rw [hic]; refine R.heap (S2 := stS S (i + 1)) (show _ = if _ then _ else _ from (if_pos ⟨q17, q31⟩).symm) (ih _ trivial); done)
