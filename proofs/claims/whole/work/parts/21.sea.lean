/-! ===== the system: the sea's drift, yards' days ===== -/
def stepsF (a : Int32) : Int32 := if 0 ≤ a.toInt ∧ a.toInt < 36 then a - a / 6 * 6 + a / 6 else -1
def nextF (c w : Int32) : Int32 := if w.toInt = 1 then (if (c - c / 6 * 6).toInt < 5 then c + 1 else -1) else if w.toInt = 2 then (if 0 < (c - c / 6 * 6).toInt then c - 1 else -1) else if w.toInt = 3 then (if (c / 6).toInt < 5 then c + 6 else -1) else if w.toInt = 4 then (if 0 < (c / 6).toInt then c - 6 else -1) else -1
/-- the changes, cell by cell -/
def chg (cr : Nat → Int32) (w : Int32) (z : Nat → Int32) : Nat → Nat → Int32
  | 0 => z
  | i + 1 => if 0 ≤ (nextF (nI i) w).toInt ∧ (nextF (nI i) w).toInt < 36 then upd (upd (chg cr w z i) i (chg cr w z i i - cr i / 4)) (nextF (nI i) w).toNatClampNeg (upd (chg cr w z i) i (chg cr w z i i - cr i / 4) (nextF (nI i) w).toNatClampNeg + cr i / 4) else chg cr w z i
def mn4 (x : Int32) : Int32 := if (10000 : Int32) < x then 10000 else x
def gone (cr ch : Nat → Int32) (g : Int32) : Nat → Int32
  | 0 => g
  | i + 1 => gone cr ch g i + (cr i + ch i - mn4 (cr i + ch i))
theorem set3 (S : HS) (r1 r2 r3 : Nat → Int32) (v w : Int32) : setI (setA (setI (setA (setA S 4 r1) 2 r2) (fid 4 4) 1 v) 2 r3) (fid 4 4) 1 w = setI (setA (setA S 4 r1) 2 r3) (fid 4 4) 1 w := by
  refine HS_ext rfl ?_ rfl ?_ rfl
  · funext f a
    simp only [sI_setI, sI_setA, up2]
    split <;> rfl
  · funext t
    simp only [sA_setI, sA_setA, va_up]
    split <;> rfl
set_option maxHeartbeats 4000000 in
theorem c_X4_stepsFrom {l : Launch} {G : va_G} {cy : Nat → ClassId} (a : Int32) (S : HS) : Cn l G cy yX4_stepsFrom cX4_stepsFrom 1 (some .int) 1 [.int a] S 0 0 (qI (fun r S2 => r = stepsF a ∧ S2 = S)) := by
  refine Cn.of [some (.int a)] (by decide) rfl (Nat.le_of_ble_eq_true rfl) ?_
  refine r_iload_n dX4_stepsFrom_0 rfl rfl ?_
  refine r_invS1i dX4_stepsFrom_1 lm_X4_22 (c_X4_isCell _ _) (Nat.le_of_ble_eq_true rfl) (Nat.le_of_ble_eq_true rfl) (Nat.zero_le _) (Nat.zero_le _) (fun r1 S1 hq1 => ?_)
  obtain ⟨rfl, hz1⟩ := hq1
  replace hz1 := hz1.symm
  subst hz1
  refine r_if_eq 19 dX4_stepsFrom_4 (by decide) (fun q4 => ?_) (fun q4 => ?_)
  · skip
    refine r_iconst (v := (-1)) dX4_stepsFrom_19 (by decide) ?_
    exact r_iret dX4_stepsFrom_20 rfl (Nat.zero_le _) (Nat.zero_le _) ⟨_, rfl, ⟨by unfold stepsF; first | exact (if_pos (by (try simp only [b2i_eq0, b2i_ne0, decide_eq_true_eq] at *); (try simp only [cI, sI_setA, sI_setQ, sI_setR, sA_setI, sA_setR, sA_setQ, fa_lt, fa_le, fa_eq, Int32.reduceToInt] at *); omega)).symm | exact (if_neg (by (try simp only [b2i_eq0, b2i_ne0, decide_eq_true_eq] at *); (try simp only [cI, sI_setA, sI_setQ, sI_setR, sA_setI, sA_setR, sA_setQ, fa_lt, fa_le, fa_eq, Int32.reduceToInt] at *); omega)).symm, rfl⟩⟩
  · skip
    refine r_iload_n dX4_stepsFrom_7 rfl rfl ?_
    refine r_bipush (v := 6) dX4_stepsFrom_8 (by decide) ?_
    refine r_irem dX4_stepsFrom_10 (by decide) ?_
    refine r_iload_n dX4_stepsFrom_11 rfl rfl ?_
    refine r_bipush (v := 6) dX4_stepsFrom_12 (by decide) ?_
    refine r_idiv dX4_stepsFrom_14 (by decide) ?_
    refine r_iadd dX4_stepsFrom_15 ?_
    refine r_goto 20 dX4_stepsFrom_16 (by decide) ?_
    exact r_iret dX4_stepsFrom_20 rfl (Nat.zero_le _) (Nat.zero_le _) ⟨_, rfl, ⟨by unfold stepsF; first | exact (if_pos (by (try simp only [b2i_eq0, b2i_ne0, decide_eq_true_eq] at *); (try simp only [cI, sI_setA, sI_setQ, sI_setR, sA_setI, sA_setR, sA_setQ, fa_lt, fa_le, fa_eq, Int32.reduceToInt] at *); omega)).symm | exact (if_neg (by (try simp only [b2i_eq0, b2i_ne0, decide_eq_true_eq] at *); (try simp only [cI, sI_setA, sI_setQ, sI_setR, sA_setI, sA_setR, sA_setQ, fa_lt, fa_le, fa_eq, Int32.reduceToInt] at *); omega)).symm, rfl⟩⟩
set_option maxHeartbeats 4000000 in
theorem c_X4_nextCell {l : Launch} {G : va_G} {cy : Nat → ClassId} (c w : Int32) (S : HS) : Cn l G cy yX4_nextCell cX4_nextCell 4 (some .int) 0 [.int c, .int w] S 0 0 (qI (fun r S2 => r = nextF c w ∧ S2 = S)) := by
  refine Cn.of [some (.int c), some (.int w), none, none] (by decide) rfl (Nat.le_of_ble_eq_true rfl) ?_
  refine r_iload_n dX4_nextCell_0 rfl rfl ?_
  refine r_bipush (v := 6) dX4_nextCell_1 (by decide) ?_
  refine r_irem dX4_nextCell_3 (by decide) ?_
  refine r_ist2 dX4_nextCell_4 (Nat.le_of_ble_eq_true rfl) rfl ?_
  refine r_iload_n dX4_nextCell_5 rfl rfl ?_
  refine r_bipush (v := 6) dX4_nextCell_6 (by decide) ?_
  refine r_idiv dX4_nextCell_8 (by decide) ?_
  refine r_ist3 dX4_nextCell_9 (Nat.le_of_ble_eq_true rfl) rfl ?_
  refine r_iload_n dX4_nextCell_10 rfl rfl ?_
  by_cases e11_1 : (w).toInt = 1
  · refine r_tableIn 40 dX4_nextCell_11 (by rw [e11_1]; decide) (by rw [e11_1]; decide) (by rw [e11_1]; rfl) (by decide) ?_
    refine r_iload_n dX4_nextCell_40 rfl rfl ?_
    refine r_iconst (v := 5) dX4_nextCell_41 (by decide) ?_
    refine r_icmp_ge 51 dX4_nextCell_42 (by decide) (fun q42 => ?_) (fun q42 => ?_)
    · skip
      refine r_iconst (v := (-1)) dX4_nextCell_51 (by decide) ?_
      exact r_iret dX4_nextCell_52 rfl (Nat.zero_le _) (Nat.zero_le _) ⟨_, rfl, ⟨by unfold nextF; rw [if_pos (by omega)]; first | exact (if_pos (by (try simp only [b2i_eq0, b2i_ne0, decide_eq_true_eq] at *); (try simp only [cI, sI_setA, sI_setQ, sI_setR, sA_setI, sA_setR, sA_setQ, fa_lt, fa_le, fa_eq, Int32.reduceToInt] at *); omega)).symm | exact (if_neg (by (try simp only [b2i_eq0, b2i_ne0, decide_eq_true_eq] at *); (try simp only [cI, sI_setA, sI_setQ, sI_setR, sA_setI, sA_setR, sA_setQ, fa_lt, fa_le, fa_eq, Int32.reduceToInt] at *); omega)).symm, rfl⟩⟩
    · skip
      refine r_iload_n dX4_nextCell_45 rfl rfl ?_
      refine r_iconst (v := 1) dX4_nextCell_46 (by decide) ?_
      refine r_iadd dX4_nextCell_47 ?_
      refine r_goto 52 dX4_nextCell_48 (by decide) ?_
      exact r_iret dX4_nextCell_52 rfl (Nat.zero_le _) (Nat.zero_le _) ⟨_, rfl, ⟨by unfold nextF; rw [if_pos (by omega)]; first | exact (if_pos (by (try simp only [b2i_eq0, b2i_ne0, decide_eq_true_eq] at *); (try simp only [cI, sI_setA, sI_setQ, sI_setR, sA_setI, sA_setR, sA_setQ, fa_lt, fa_le, fa_eq, Int32.reduceToInt] at *); omega)).symm | exact (if_neg (by (try simp only [b2i_eq0, b2i_ne0, decide_eq_true_eq] at *); (try simp only [cI, sI_setA, sI_setQ, sI_setR, sA_setI, sA_setR, sA_setQ, fa_lt, fa_le, fa_eq, Int32.reduceToInt] at *); omega)).symm, rfl⟩⟩
  by_cases e11_2 : (w).toInt = 2
  · refine r_tableIn 53 dX4_nextCell_11 (by rw [e11_2]; decide) (by rw [e11_2]; decide) (by rw [e11_2]; rfl) (by decide) ?_
    refine r_iload_n dX4_nextCell_53 rfl rfl ?_
    refine r_if_le 63 dX4_nextCell_54 (by decide) (fun q54 => ?_) (fun q54 => ?_)
    · skip
      refine r_iconst (v := (-1)) dX4_nextCell_63 (by decide) ?_
      exact r_iret dX4_nextCell_64 rfl (Nat.zero_le _) (Nat.zero_le _) ⟨_, rfl, ⟨by unfold nextF; rw [if_neg (by omega), if_pos (by omega)]; first | exact (if_pos (by (try simp only [b2i_eq0, b2i_ne0, decide_eq_true_eq] at *); (try simp only [cI, sI_setA, sI_setQ, sI_setR, sA_setI, sA_setR, sA_setQ, fa_lt, fa_le, fa_eq, Int32.reduceToInt] at *); omega)).symm | exact (if_neg (by (try simp only [b2i_eq0, b2i_ne0, decide_eq_true_eq] at *); (try simp only [cI, sI_setA, sI_setQ, sI_setR, sA_setI, sA_setR, sA_setQ, fa_lt, fa_le, fa_eq, Int32.reduceToInt] at *); omega)).symm, rfl⟩⟩
    · skip
      refine r_iload_n dX4_nextCell_57 rfl rfl ?_
      refine r_iconst (v := 1) dX4_nextCell_58 (by decide) ?_
      refine r_isub dX4_nextCell_59 ?_
      refine r_goto 64 dX4_nextCell_60 (by decide) ?_
      exact r_iret dX4_nextCell_64 rfl (Nat.zero_le _) (Nat.zero_le _) ⟨_, rfl, ⟨by unfold nextF; rw [if_neg (by omega), if_pos (by omega)]; first | exact (if_pos (by (try simp only [b2i_eq0, b2i_ne0, decide_eq_true_eq] at *); (try simp only [cI, sI_setA, sI_setQ, sI_setR, sA_setI, sA_setR, sA_setQ, fa_lt, fa_le, fa_eq, Int32.reduceToInt] at *); omega)).symm | exact (if_neg (by (try simp only [b2i_eq0, b2i_ne0, decide_eq_true_eq] at *); (try simp only [cI, sI_setA, sI_setQ, sI_setR, sA_setI, sA_setR, sA_setQ, fa_lt, fa_le, fa_eq, Int32.reduceToInt] at *); omega)).symm, rfl⟩⟩
  by_cases e11_3 : (w).toInt = 3
  · refine r_tableIn 65 dX4_nextCell_11 (by rw [e11_3]; decide) (by rw [e11_3]; decide) (by rw [e11_3]; rfl) (by decide) ?_
    refine r_iload_n dX4_nextCell_65 rfl rfl ?_
    refine r_iconst (v := 5) dX4_nextCell_66 (by decide) ?_
    refine r_icmp_ge 77 dX4_nextCell_67 (by decide) (fun q67 => ?_) (fun q67 => ?_)
    · skip
      refine r_iconst (v := (-1)) dX4_nextCell_77 (by decide) ?_
      exact r_iret dX4_nextCell_78 rfl (Nat.zero_le _) (Nat.zero_le _) ⟨_, rfl, ⟨by unfold nextF; rw [if_neg (by omega), if_neg (by omega), if_pos (by omega)]; first | exact (if_pos (by (try simp only [b2i_eq0, b2i_ne0, decide_eq_true_eq] at *); (try simp only [cI, sI_setA, sI_setQ, sI_setR, sA_setI, sA_setR, sA_setQ, fa_lt, fa_le, fa_eq, Int32.reduceToInt] at *); omega)).symm | exact (if_neg (by (try simp only [b2i_eq0, b2i_ne0, decide_eq_true_eq] at *); (try simp only [cI, sI_setA, sI_setQ, sI_setR, sA_setI, sA_setR, sA_setQ, fa_lt, fa_le, fa_eq, Int32.reduceToInt] at *); omega)).symm, rfl⟩⟩
    · skip
      refine r_iload_n dX4_nextCell_70 rfl rfl ?_
      refine r_bipush (v := 6) dX4_nextCell_71 (by decide) ?_
      refine r_iadd dX4_nextCell_73 ?_
      refine r_goto 78 dX4_nextCell_74 (by decide) ?_
      exact r_iret dX4_nextCell_78 rfl (Nat.zero_le _) (Nat.zero_le _) ⟨_, rfl, ⟨by unfold nextF; rw [if_neg (by omega), if_neg (by omega), if_pos (by omega)]; first | exact (if_pos (by (try simp only [b2i_eq0, b2i_ne0, decide_eq_true_eq] at *); (try simp only [cI, sI_setA, sI_setQ, sI_setR, sA_setI, sA_setR, sA_setQ, fa_lt, fa_le, fa_eq, Int32.reduceToInt] at *); omega)).symm | exact (if_neg (by (try simp only [b2i_eq0, b2i_ne0, decide_eq_true_eq] at *); (try simp only [cI, sI_setA, sI_setQ, sI_setR, sA_setI, sA_setR, sA_setQ, fa_lt, fa_le, fa_eq, Int32.reduceToInt] at *); omega)).symm, rfl⟩⟩
  by_cases e11_4 : (w).toInt = 4
  · refine r_tableIn 79 dX4_nextCell_11 (by rw [e11_4]; decide) (by rw [e11_4]; decide) (by rw [e11_4]; rfl) (by decide) ?_
    refine r_iload_n dX4_nextCell_79 rfl rfl ?_
    refine r_if_le 90 dX4_nextCell_80 (by decide) (fun q80 => ?_) (fun q80 => ?_)
    · skip
      refine r_iconst (v := (-1)) dX4_nextCell_90 (by decide) ?_
      exact r_iret dX4_nextCell_91 rfl (Nat.zero_le _) (Nat.zero_le _) ⟨_, rfl, ⟨by unfold nextF; rw [if_neg (by omega), if_neg (by omega), if_neg (by omega), if_pos (by omega)]; first | exact (if_pos (by (try simp only [b2i_eq0, b2i_ne0, decide_eq_true_eq] at *); (try simp only [cI, sI_setA, sI_setQ, sI_setR, sA_setI, sA_setR, sA_setQ, fa_lt, fa_le, fa_eq, Int32.reduceToInt] at *); omega)).symm | exact (if_neg (by (try simp only [b2i_eq0, b2i_ne0, decide_eq_true_eq] at *); (try simp only [cI, sI_setA, sI_setQ, sI_setR, sA_setI, sA_setR, sA_setQ, fa_lt, fa_le, fa_eq, Int32.reduceToInt] at *); omega)).symm, rfl⟩⟩
    · skip
      refine r_iload_n dX4_nextCell_83 rfl rfl ?_
      refine r_bipush (v := 6) dX4_nextCell_84 (by decide) ?_
      refine r_isub dX4_nextCell_86 ?_
      refine r_goto 91 dX4_nextCell_87 (by decide) ?_
      exact r_iret dX4_nextCell_91 rfl (Nat.zero_le _) (Nat.zero_le _) ⟨_, rfl, ⟨by unfold nextF; rw [if_neg (by omega), if_neg (by omega), if_neg (by omega), if_pos (by omega)]; first | exact (if_pos (by (try simp only [b2i_eq0, b2i_ne0, decide_eq_true_eq] at *); (try simp only [cI, sI_setA, sI_setQ, sI_setR, sA_setI, sA_setR, sA_setQ, fa_lt, fa_le, fa_eq, Int32.reduceToInt] at *); omega)).symm | exact (if_neg (by (try simp only [b2i_eq0, b2i_ne0, decide_eq_true_eq] at *); (try simp only [cI, sI_setA, sI_setQ, sI_setR, sA_setI, sA_setR, sA_setQ, fa_lt, fa_le, fa_eq, Int32.reduceToInt] at *); omega)).symm, rfl⟩⟩
  refine r_tableOut 92 dX4_nextCell_11 (by omega) (by decide) ?_
  refine r_iconst (v := (-1)) dX4_nextCell_92 (by decide) ?_
  exact r_iret dX4_nextCell_93 rfl (Nat.zero_le _) (Nat.zero_le _) ⟨_, rfl, ⟨by unfold nextF; rw [if_neg (by omega), if_neg (by omega), if_neg (by omega), if_neg (by omega)], rfl⟩⟩
set_option maxHeartbeats 4000000 in
theorem c_X4_moveShoals {l : Launch} {G : va_G} {cy : Nat → ClassId} (S : HS) (h : ShF S) : Cn l G cy yX4_moveShoals cX4_moveShoals 4 none 1 [.ref 1] S 0 0 (qV (fun S2 => S2 = (setI (setA (setA S 4 (chg (sA S 2) (sI S (fid 4 3) 1) (fillR (fun _ => 0) (sA S 4) 36) 36)) 2 (fillR (fun j => mn4 ((sA S 2) j + (chg (sA S 2) (sI S (fid 4 3) 1) (fillR (fun _ => 0) (sA S 4) 36) 36) j)) (sA S 2) 36)) (fid 4 4) 1 (gone (sA S 2) (chg (sA S 2) (sI S (fid 4 3) 1) (fillR (fun _ => 0) (sA S 4) 36) 36) (sI S (fid 4 4) 1) 36)))) := by
  refine Cn.of [some (.ref 1), none, none, none] (by decide) rfl (Nat.le_of_ble_eq_true rfl) ?_
  refine R.heap (show S = setA S 4 (fillR (fun _ => 0) (sA S 4) 0) from (setA_self S 4).symm) ?_
  refine r_iconst (v := 0) dX4_moveShoals_0 (by decide) ?_
  refine r_ist1 dX4_moveShoals_1 (Nat.le_of_ble_eq_true rfl) rfl ?_
  refine R.for (α := Unit) (36) (fun i a => [some (.ref 1), some (.int (nI i)), none, none]) (fun i a => (setA S 4 (fillR (fun _ => 0) (sA S 4) i))) (fun i a => True) ?_ ?_ 0 () (Nat.zero_le _) trivial
  · intro a hI
    have hii : (nI 36).toInt = (36 : Nat) := nI_toInt (by omega)
    refine r_iload_n dX4_moveShoals_2 rfl rfl ?_
    refine r_bipush (v := 36) dX4_moveShoals_3 (by decide) ?_
    refine r_icmp_ge 21 dX4_moveShoals_5 (by decide) (fun q5 => ?_) (fun q5 => ?_)
    · skip
      refine r_iconst (v := 0) dX4_moveShoals_21 (by decide) ?_
      refine r_ist1 dX4_moveShoals_22 (Nat.le_of_ble_eq_true rfl) rfl ?_
      refine R.for (α := Option Value × Option Value) (36) (fun i a => [some (.ref 1), some (.int (nI i)), a.1, a.2]) (fun i a => (setA S 4 (chg (sA S 2) (sI S (fid 4 3) 1) (fillR (fun _ => 0) (sA S 4) 36) i))) (fun i a => okp a.1 = true) ?_ ?_ 0 (none, none) (Nat.zero_le _) rfl
      · intro a hI
        have hii : (nI 36).toInt = (36 : Nat) := nI_toInt (by omega)
        refine r_iload_n dX4_moveShoals_23 rfl rfl ?_
        refine r_bipush (v := 36) dX4_moveShoals_24 (by decide) ?_
        refine r_icmp_ge 80 dX4_moveShoals_26 (by decide) (fun q26 => ?_) (fun q26 => ?_)
        · skip
          refine R.heap (show setA S 4 (chg (sA S 2) (sI S (fid 4 3) 1) (fillR (fun _ => 0) (sA S 4) 36) 36) = (setI (setA (setA S 4 (chg (sA S 2) (sI S (fid 4 3) 1) (fillR (fun _ => 0) (sA S 4) 36) 36)) 2 (fillR (fun j => mn4 ((sA S 2) j + (chg (sA S 2) (sI S (fid 4 3) 1) (fillR (fun _ => 0) (sA S 4) 36) 36) j)) (sA S 2) 0)) (fid 4 4) 1 (gone (sA S 2) (chg (sA S 2) (sI S (fid 4 3) 1) (fillR (fun _ => 0) (sA S 4) 36) 36) (sI S (fid 4 4) 1) 0)) from by show _ = setI (setA (setA S 4 (chg (sA S 2) (sI S (fid 4 3) 1) (fillR (fun _ => 0) (sA S 4) 36) 36)) 2 (sA (setA S 4 (chg (sA S 2) (sI S (fid 4 3) 1) (fillR (fun _ => 0) (sA S 4) 36) 36)) 2)) (fid 4 4) 1 (sI (setA S 4 (chg (sA S 2) (sI S (fid 4 3) 1) (fillR (fun _ => 0) (sA S 4) 36) 36)) (fid 4 4) 1); rw [setA_self, setI_self]) ?_
          obtain ⟨b2, b3⟩ := a
          refine r_iconst (v := 0) dX4_moveShoals_80 (by decide) ?_
          refine r_ist1 dX4_moveShoals_81 (Nat.le_of_ble_eq_true rfl) rfl ?_
          refine R.for (α := Option Value) (36) (fun i a => [some (.ref 1), some (.int (nI i)), a, b3]) (fun i a => (setI (setA (setA S 4 (chg (sA S 2) (sI S (fid 4 3) 1) (fillR (fun _ => 0) (sA S 4) 36) 36)) 2 (fillR (fun j => mn4 ((sA S 2) j + (chg (sA S 2) (sI S (fid 4 3) 1) (fillR (fun _ => 0) (sA S 4) 36) 36) j)) (sA S 2) i)) (fid 4 4) 1 (gone (sA S 2) (chg (sA S 2) (sI S (fid 4 3) 1) (fillR (fun _ => 0) (sA S 4) 36) 36) (sI S (fid 4 4) 1) i))) (fun i a => True) ?_ ?_ 0 _ (Nat.zero_le _) trivial
          · intro a hI
            have hii : (nI 36).toInt = (36 : Nat) := nI_toInt (by omega)
            refine r_iload_n dX4_moveShoals_82 rfl rfl ?_
            refine r_bipush (v := 36) dX4_moveShoals_83 (by decide) ?_
            refine r_icmp_ge 138 dX4_moveShoals_85 (by decide) (fun q85 => ?_) (fun q85 => ?_)
            · skip
              exact r_vret dX4_moveShoals_138 rfl (Nat.zero_le _) (Nat.zero_le _) ⟨rfl, rfl⟩
            · skip
              exact absurd q85 (by (try simp only [b2i_eq0, b2i_ne0, decide_eq_true_eq] at *); (try simp only [cI, sI_setA, sI_setQ, sI_setR, sA_setI, sA_setR, sA_setQ, fa_lt, fa_le, fa_eq, Int32.reduceToInt] at *); omega)
          · intro i a hi hI ih
            have hii : (nI i).toInt = i := nI_toInt (by omega)
            have hic : (nI i).toNatClampNeg = i := nI_clamp (by omega)
            have hr2 : sA (setI (setA (setA S 4 (chg (sA S 2) (sI S (fid 4 3) 1) (fillR (fun _ => 0) (sA S 4) 36) 36)) 2 (fillR (fun j => mn4 ((sA S 2) j + (chg (sA S 2) (sI S (fid 4 3) 1) (fillR (fun _ => 0) (sA S 4) 36) 36) j)) (sA S 2) i)) (fid 4 4) 1 (gone (sA S 2) (chg (sA S 2) (sI S (fid 4 3) 1) (fillR (fun _ => 0) (sA S 4) 36) 36) (sI S (fid 4 4) 1) i)) 2 = (fillR (fun j => mn4 ((sA S 2) j + (chg (sA S 2) (sI S (fid 4 3) 1) (fillR (fun _ => 0) (sA S 4) 36) 36) j)) (sA S 2) i) := rfl
            have hr4 : sA (setI (setA (setA S 4 (chg (sA S 2) (sI S (fid 4 3) 1) (fillR (fun _ => 0) (sA S 4) 36) 36)) 2 (fillR (fun j => mn4 ((sA S 2) j + (chg (sA S 2) (sI S (fid 4 3) 1) (fillR (fun _ => 0) (sA S 4) 36) 36) j)) (sA S 2) i)) (fid 4 4) 1 (gone (sA S 2) (chg (sA S 2) (sI S (fid 4 3) 1) (fillR (fun _ => 0) (sA S 4) 36) 36) (sI S (fid 4 4) 1) i)) 4 = (chg (sA S 2) (sI S (fid 4 3) 1) (fillR (fun _ => 0) (sA S 4) 36) 36) := rfl
            have hri : (fillR (fun j => mn4 ((sA S 2) j + (chg (sA S 2) (sI S (fid 4 3) 1) (fillR (fun _ => 0) (sA S 4) 36) 36) j)) (sA S 2) i) i = (sA S 2) i := fillR_out (Nat.le_refl i)
            refine r_iload_n dX4_moveShoals_82 rfl rfl ?_
            refine r_bipush (v := 36) dX4_moveShoals_83 (by decide) ?_
            refine r_icmp_ge 138 dX4_moveShoals_85 (by decide) (fun q85 => ?_) (fun q85 => ?_)
            · skip
              exact absurd q85 (by (try simp only [b2i_eq0, b2i_ne0, decide_eq_true_eq] at *); (try simp only [cI, sI_setA, sI_setQ, sI_setR, sA_setI, sA_setR, sA_setQ, fa_lt, fa_le, fa_eq, Int32.reduceToInt] at *); omega)
            · skip
              refine r_aload_n dX4_moveShoals_88 rfl rfl ?_
              refine r_getR dX4_moveShoals_89 lf_X4_9 rfl rfl (shR4_0 h) (shL_2 h) ?_
              refine r_iload_n dX4_moveShoals_92 rfl rfl ?_
              refine r_iald dX4_moveShoals_93 rfl (show vp_in _ 36 from vp_in_iff.mpr (by (try simp only [b2i_eq0, b2i_ne0, decide_eq_true_eq] at *); (try simp only [cI, sI_setA, sI_setQ, sI_setR, sA_setI, sA_setR, sA_setQ, fa_lt, fa_le, fa_eq, Int32.reduceToInt] at *); omega)) ?_
              refine r_aload_n dX4_moveShoals_94 rfl rfl ?_
              refine r_getR dX4_moveShoals_95 lf_X4_19 rfl rfl (shR4_2 h) (shL_4 h) ?_
              refine r_iload_n dX4_moveShoals_98 rfl rfl ?_
              refine r_iald dX4_moveShoals_99 rfl (show vp_in _ 36 from vp_in_iff.mpr (by (try simp only [b2i_eq0, b2i_ne0, decide_eq_true_eq] at *); (try simp only [cI, sI_setA, sI_setQ, sI_setR, sA_setI, sA_setR, sA_setQ, fa_lt, fa_le, fa_eq, Int32.reduceToInt] at *); omega)) ?_
              refine r_iadd dX4_moveShoals_100 ?_
              refine r_ist2 dX4_moveShoals_101 (Nat.le_of_ble_eq_true rfl) rfl ?_
              refine r_aload_n dX4_moveShoals_102 rfl rfl ?_
              refine r_getR dX4_moveShoals_103 lf_X4_9 rfl rfl (shR4_0 h) (shL_2 h) ?_
              refine r_iload_n dX4_moveShoals_106 rfl rfl ?_
              refine r_iload_n dX4_moveShoals_107 rfl rfl ?_
              refine r_sipush (v := 10000) dX4_moveShoals_108 (by decide) ?_
              refine r_mmin dX4_moveShoals_111 lm_X4_34 (Nat.le_of_ble_eq_true rfl) (Nat.le_of_ble_eq_true rfl) (Nat.zero_le _) (Nat.zero_le _) ?_
              refine r_iast dX4_moveShoals_114 rfl (show vp_in _ 36 from vp_in_iff.mpr (by (try simp only [b2i_eq0, b2i_ne0, decide_eq_true_eq] at *); (try simp only [cI, sI_setA, sI_setQ, sI_setR, sA_setI, sA_setR, sA_setQ, fa_lt, fa_le, fa_eq, Int32.reduceToInt] at *); omega)) ?_
              refine r_aload_n dX4_moveShoals_115 rfl rfl ?_
              refine r_dup dX4_moveShoals_116 rfl ?_
              refine r_getI dX4_moveShoals_117 lf_X4_39 rfl rfl ?_
              refine r_iload_n dX4_moveShoals_120 rfl rfl ?_
              refine r_aload_n dX4_moveShoals_121 rfl rfl ?_
              refine r_getR dX4_moveShoals_122 lf_X4_9 rfl rfl (shR4_0 h) (shL_2 h) ?_
              refine r_iload_n dX4_moveShoals_125 rfl rfl ?_
              refine r_iald dX4_moveShoals_126 rfl (show vp_in _ 36 from vp_in_iff.mpr (by (try simp only [b2i_eq0, b2i_ne0, decide_eq_true_eq] at *); (try simp only [cI, sI_setA, sI_setQ, sI_setR, sA_setI, sA_setR, sA_setQ, fa_lt, fa_le, fa_eq, Int32.reduceToInt] at *); omega)) ?_
              refine r_isub dX4_moveShoals_127 ?_
              refine r_iadd dX4_moveShoals_128 ?_
              refine r_putI dX4_moveShoals_129 (lp_X4_39 _) rfl rfl ?_
              refine r_in1 dX4_moveShoals_132 (show _ + Int32.ofInt 1 = _ + 1 from rfl) (Nat.le_of_ble_eq_true rfl) rfl ?_
              refine r_goto 82 dX4_moveShoals_135 (by decide) ?_
              rw [nI_1, hr2, hr4, hic, hri, set3]
              refine R.heap (S2 := (setI (setA (setA S 4 (chg (sA S 2) (sI S (fid 4 3) 1) (fillR (fun _ => 0) (sA S 4) 36) 36)) 2 (fillR (fun j => mn4 ((sA S 2) j + (chg (sA S 2) (sI S (fid 4 3) 1) (fillR (fun _ => 0) (sA S 4) 36) 36) j)) (sA S 2) (i + 1))) (fid 4 4) 1 (gone (sA S 2) (chg (sA S 2) (sI S (fid 4 3) 1) (fillR (fun _ => 0) (sA S 4) 36) 36) (sI S (fid 4 4) 1) (i + 1)))) ?_ (ih _ trivial)
              change setI (setA (setA S 4 (chg (sA S 2) (sI S (fid 4 3) 1) (fillR (fun _ => 0) (sA S 4) 36) 36)) 2 (upd (fillR (fun j => mn4 ((sA S 2) j + (chg (sA S 2) (sI S (fid 4 3) 1) (fillR (fun _ => 0) (sA S 4) 36) 36) j)) (sA S 2) i) i (mn4 ((sA S 2) i + (chg (sA S 2) (sI S (fid 4 3) 1) (fillR (fun _ => 0) (sA S 4) 36) 36) i)))) (fid 4 4) 1 (gone (sA S 2) (chg (sA S 2) (sI S (fid 4 3) 1) (fillR (fun _ => 0) (sA S 4) 36) 36) (sI S (fid 4 4) 1) i + ((sA S 2) i + (chg (sA S 2) (sI S (fid 4 3) 1) (fillR (fun _ => 0) (sA S 4) 36) 36) i - upd (fillR (fun j => mn4 ((sA S 2) j + (chg (sA S 2) (sI S (fid 4 3) 1) (fillR (fun _ => 0) (sA S 4) 36) 36) j)) (sA S 2) i) i (mn4 ((sA S 2) i + (chg (sA S 2) (sI S (fid 4 3) 1) (fillR (fun _ => 0) (sA S 4) 36) 36) i)) i)) = _
              rw [pk_us]
              rfl
        · skip
          exact absurd q26 (by (try simp only [b2i_eq0, b2i_ne0, decide_eq_true_eq] at *); (try simp only [cI, sI_setA, sI_setQ, sI_setR, sA_setI, sA_setR, sA_setQ, fa_lt, fa_le, fa_eq, Int32.reduceToInt] at *); omega)
      · intro i a hi hI ih
        have hii : (nI i).toInt = i := nI_toInt (by omega)
        have hic : (nI i).toNatClampNeg = i := nI_clamp (by omega)
        refine r_iload_n dX4_moveShoals_23 rfl rfl ?_
        refine r_bipush (v := 36) dX4_moveShoals_24 (by decide) ?_
        refine r_icmp_ge 80 dX4_moveShoals_26 (by decide) (fun q26 => ?_) (fun q26 => ?_)
        · skip
          exact absurd q26 (by (try simp only [b2i_eq0, b2i_ne0, decide_eq_true_eq] at *); (try simp only [cI, sI_setA, sI_setQ, sI_setR, sA_setI, sA_setR, sA_setQ, fa_lt, fa_le, fa_eq, Int32.reduceToInt] at *); omega)
        · skip
          refine r_iload_n dX4_moveShoals_29 rfl rfl ?_
          refine r_aload_n dX4_moveShoals_30 rfl rfl ?_
          refine r_getI dX4_moveShoals_31 lf_X4_26 rfl rfl ?_
          refine r_invS2i dX4_moveShoals_34 lm_X4_30 (c_X4_nextCell _ _ _) (Nat.le_of_ble_eq_true rfl) (Nat.le_of_ble_eq_true rfl) (Nat.zero_le _) (Nat.zero_le _) (fun r34 S34 hq34 => ?_)
          obtain ⟨rfl, hz34⟩ := hq34
          replace hz34 := hz34.symm
          subst hz34
          refine r_ist2 dX4_moveShoals_37 (Nat.le_of_ble_eq_true rfl) rfl ?_
          refine r_iload_n dX4_moveShoals_38 rfl rfl ?_
          refine r_invS1i dX4_moveShoals_39 lm_X4_22 (c_X4_isCell _ _) (Nat.le_of_ble_eq_true rfl) (Nat.le_of_ble_eq_true rfl) (Nat.zero_le _) (Nat.zero_le _) (fun r39 S39 hq39 => ?_)
          obtain ⟨rfl, hz39⟩ := hq39
          replace hz39 := hz39.symm
          subst hz39
          refine r_if_eq 74 dX4_moveShoals_42 (by decide) (fun q42 => ?_) (fun q42 => ?_)
          · skip
            refine r_in1 dX4_moveShoals_74 (show _ + Int32.ofInt 1 = _ + 1 from rfl) (Nat.le_of_ble_eq_true rfl) rfl ?_
            refine r_goto 23 dX4_moveShoals_77 (by decide) ?_
            rw [nI_1]
            first
              | (have h9 := ih (some (.int (nextF (nI i) (sI S (fid 4 3) 1))), a.2) rfl; rw [show (chg (sA S 2) (sI S (fid 4 3) 1) (fillR (fun _ => 0) (sA S 4) 36) (i + 1)) = (chg (sA S 2) (sI S (fid 4 3) 1) (fillR (fun _ => 0) (sA S 4) 36) i) from if_neg (by (try simp only [b2i_eq0, b2i_ne0, decide_eq_true_eq] at *); (try simp only [cI, sI_setA, sI_setQ, sI_setR, sA_setI, sA_setR, sA_setQ, fa_lt, fa_le, fa_eq, Int32.reduceToInt] at *); omega)] at h9; exact h9)
              | (have h9 := ih (some (.int (nextF (nI i) (sI S (fid 4 3) 1))), some (.int ((sA S 2) i / 4))) rfl; rw [show (chg (sA S 2) (sI S (fid 4 3) 1) (fillR (fun _ => 0) (sA S 4) 36) (i + 1)) = _ from if_pos (by (try simp only [b2i_eq0, b2i_ne0, decide_eq_true_eq] at *); (try simp only [cI, sI_setA, sI_setQ, sI_setR, sA_setI, sA_setR, sA_setQ, fa_lt, fa_le, fa_eq, Int32.reduceToInt] at *); omega)] at h9; rw [hic, setA_setA, setA_setA]; exact h9)
          · skip
            refine r_aload_n dX4_moveShoals_45 rfl rfl ?_
            refine r_getR dX4_moveShoals_46 lf_X4_9 rfl rfl (shR4_0 h) (shL_2 h) ?_
            refine r_iload_n dX4_moveShoals_49 rfl rfl ?_
            refine r_iald dX4_moveShoals_50 rfl (show vp_in _ 36 from vp_in_iff.mpr (by (try simp only [b2i_eq0, b2i_ne0, decide_eq_true_eq] at *); (try simp only [cI, sI_setA, sI_setQ, sI_setR, sA_setI, sA_setR, sA_setQ, fa_lt, fa_le, fa_eq, Int32.reduceToInt] at *); omega)) ?_
            refine r_iconst (v := 4) dX4_moveShoals_51 (by decide) ?_
            refine r_idiv dX4_moveShoals_52 (by decide) ?_
            refine r_ist3 dX4_moveShoals_53 (Nat.le_of_ble_eq_true rfl) rfl ?_
            refine r_aload_n dX4_moveShoals_54 rfl rfl ?_
            refine r_getR dX4_moveShoals_55 lf_X4_19 rfl rfl (shR4_2 h) (shL_4 h) ?_
            refine r_iload_n dX4_moveShoals_58 rfl rfl ?_
            refine r_dup2 dX4_moveShoals_59 rfl rfl ?_
            refine r_iald dX4_moveShoals_60 rfl (show vp_in _ 36 from vp_in_iff.mpr (by (try simp only [b2i_eq0, b2i_ne0, decide_eq_true_eq] at *); (try simp only [cI, sI_setA, sI_setQ, sI_setR, sA_setI, sA_setR, sA_setQ, fa_lt, fa_le, fa_eq, Int32.reduceToInt] at *); omega)) ?_
            refine r_iload_n dX4_moveShoals_61 rfl rfl ?_
            refine r_isub dX4_moveShoals_62 ?_
            refine r_iast dX4_moveShoals_63 rfl (show vp_in _ 36 from vp_in_iff.mpr (by (try simp only [b2i_eq0, b2i_ne0, decide_eq_true_eq] at *); (try simp only [cI, sI_setA, sI_setQ, sI_setR, sA_setI, sA_setR, sA_setQ, fa_lt, fa_le, fa_eq, Int32.reduceToInt] at *); omega)) ?_
            refine r_aload_n dX4_moveShoals_64 rfl rfl ?_
            refine r_getR dX4_moveShoals_65 lf_X4_19 rfl rfl (shR4_2 h) (shL_4 h) ?_
            refine r_iload_n dX4_moveShoals_68 rfl rfl ?_
            refine r_dup2 dX4_moveShoals_69 rfl rfl ?_
            refine r_iald dX4_moveShoals_70 rfl (show vp_in _ 36 from vp_in_iff.mpr (by (try simp only [b2i_eq0, b2i_ne0, decide_eq_true_eq] at *); (try simp only [cI, sI_setA, sI_setQ, sI_setR, sA_setI, sA_setR, sA_setQ, fa_lt, fa_le, fa_eq, Int32.reduceToInt] at *); omega)) ?_
            refine r_iload_n dX4_moveShoals_71 rfl rfl ?_
            refine r_iadd dX4_moveShoals_72 ?_
            refine r_iast dX4_moveShoals_73 rfl (show vp_in _ 36 from vp_in_iff.mpr (by (try simp only [b2i_eq0, b2i_ne0, decide_eq_true_eq] at *); (try simp only [cI, sI_setA, sI_setQ, sI_setR, sA_setI, sA_setR, sA_setQ, fa_lt, fa_le, fa_eq, Int32.reduceToInt] at *); omega)) ?_
            refine r_in1 dX4_moveShoals_74 (show _ + Int32.ofInt 1 = _ + 1 from rfl) (Nat.le_of_ble_eq_true rfl) rfl ?_
            refine r_goto 23 dX4_moveShoals_77 (by decide) ?_
            rw [nI_1]
            first
              | (have h9 := ih (some (.int (nextF (nI i) (sI S (fid 4 3) 1))), a.2) rfl; rw [show (chg (sA S 2) (sI S (fid 4 3) 1) (fillR (fun _ => 0) (sA S 4) 36) (i + 1)) = (chg (sA S 2) (sI S (fid 4 3) 1) (fillR (fun _ => 0) (sA S 4) 36) i) from if_neg (by (try simp only [b2i_eq0, b2i_ne0, decide_eq_true_eq] at *); (try simp only [cI, sI_setA, sI_setQ, sI_setR, sA_setI, sA_setR, sA_setQ, fa_lt, fa_le, fa_eq, Int32.reduceToInt] at *); omega)] at h9; exact h9)
              | (have h9 := ih (some (.int (nextF (nI i) (sI S (fid 4 3) 1))), some (.int ((sA S 2) i / 4))) rfl; rw [show (chg (sA S 2) (sI S (fid 4 3) 1) (fillR (fun _ => 0) (sA S 4) 36) (i + 1)) = _ from if_pos (by (try simp only [b2i_eq0, b2i_ne0, decide_eq_true_eq] at *); (try simp only [cI, sI_setA, sI_setQ, sI_setR, sA_setI, sA_setR, sA_setQ, fa_lt, fa_le, fa_eq, Int32.reduceToInt] at *); omega)] at h9; rw [hic, setA_setA, setA_setA]; exact h9)
    · skip
      exact absurd q5 (by (try simp only [b2i_eq0, b2i_ne0, decide_eq_true_eq] at *); (try simp only [cI, sI_setA, sI_setQ, sI_setR, sA_setI, sA_setR, sA_setQ, fa_lt, fa_le, fa_eq, Int32.reduceToInt] at *); omega)
  · intro i a hi hI ih
    have hii : (nI i).toInt = i := nI_toInt (by omega)
    have hic : (nI i).toNatClampNeg = i := nI_clamp (by omega)
    refine r_iload_n dX4_moveShoals_2 rfl rfl ?_
    refine r_bipush (v := 36) dX4_moveShoals_3 (by decide) ?_
    refine r_icmp_ge 21 dX4_moveShoals_5 (by decide) (fun q5 => ?_) (fun q5 => ?_)
    · skip
      exact absurd q5 (by (try simp only [b2i_eq0, b2i_ne0, decide_eq_true_eq] at *); (try simp only [cI, sI_setA, sI_setQ, sI_setR, sA_setI, sA_setR, sA_setQ, fa_lt, fa_le, fa_eq, Int32.reduceToInt] at *); omega)
    · skip
      refine r_aload_n dX4_moveShoals_8 rfl rfl ?_
      refine r_getR dX4_moveShoals_9 lf_X4_19 rfl rfl (shR4_2 h) (shL_4 h) ?_
      refine r_iload_n dX4_moveShoals_12 rfl rfl ?_
      refine r_iconst (v := 0) dX4_moveShoals_13 (by decide) ?_
      refine r_iast dX4_moveShoals_14 rfl (show vp_in _ 36 from vp_in_iff.mpr (by (try simp only [b2i_eq0, b2i_ne0, decide_eq_true_eq] at *); (try simp only [cI, sI_setA, sI_setQ, sI_setR, sA_setI, sA_setR, sA_setQ, fa_lt, fa_le, fa_eq, Int32.reduceToInt] at *); omega)) ?_
      refine r_in1 dX4_moveShoals_15 (show _ + Int32.ofInt 1 = _ + 1 from rfl) (Nat.le_of_ble_eq_true rfl) rfl ?_
      refine r_goto 2 dX4_moveShoals_18 (by decide) ?_
      rw [nI_1, hic, setA_setA, show sA (setA S 4 (fillR (fun _ => 0) (sA S 4) i)) 4 = fillR (fun _ => 0) (sA S 4) i from rfl]
      exact ih () trivial
set_option maxHeartbeats 4000000 in
theorem c_X8_isStormy {l : Launch} {G : va_G} {cy : Nat → ClassId} (a g : Int32) (S : HS) (h : ShF S) : Cn l G cy yX8_isStormy cX8_isStormy 3 (some .boolean) 1 [.ref 0, .int a, .int g] S 0 0 (qI (fun r S2 => r = b2i (¬ g.toInt = 0 ∧ (0 ≤ a.toInt ∧ a.toInt < 36) ∧ ¬ (sA S 3 a.toNatClampNeg).toInt = 0) ∧ S2 = S)) := by
  refine Cn.of [some (.ref 0), some (.int a), some (.int g)] (by decide) rfl (Nat.le_of_ble_eq_true rfl) ?_
  refine r_iload_n dX8_isStormy_0 rfl rfl ?_
  refine r_if_eq 27 dX8_isStormy_1 (by decide) (fun q1 => ?_) (fun q1 => ?_)
  · skip
    refine r_iconst (v := 0) dX8_isStormy_27 (by decide) ?_
    exact r_zret dX8_isStormy_28 rfl rfl (Nat.zero_le _) (Nat.zero_le _) ⟨_, rfl, ⟨by first | exact (b2i_t (by (try simp only [b2i_eq0, b2i_ne0, decide_eq_true_eq] at *); (try simp only [cI, sI_setA, sI_setQ, sI_setR, sA_setI, sA_setR, sA_setQ, fa_lt, fa_le, fa_eq, Int32.reduceToInt] at *); omega)).symm | exact (b2i_f (by (try simp only [b2i_eq0, b2i_ne0, decide_eq_true_eq] at *); (try simp only [cI, sI_setA, sI_setQ, sI_setR, sA_setI, sA_setR, sA_setQ, fa_lt, fa_le, fa_eq, Int32.reduceToInt] at *); omega)).symm, rfl⟩⟩
  · skip
    refine r_iload_n dX8_isStormy_4 rfl rfl ?_
    refine r_invS1i dX8_isStormy_5 lm_X8_70 (c_X4_isCell _ _) (Nat.le_of_ble_eq_true rfl) (Nat.le_of_ble_eq_true rfl) (Nat.zero_le _) (Nat.zero_le _) (fun r5 S5 hq5 => ?_)
    obtain ⟨rfl, hz5⟩ := hq5
    replace hz5 := hz5.symm
    subst hz5
    refine r_if_eq 27 dX8_isStormy_8 (by decide) (fun q8 => ?_) (fun q8 => ?_)
    · skip
      refine r_iconst (v := 0) dX8_isStormy_27 (by decide) ?_
      exact r_zret dX8_isStormy_28 rfl rfl (Nat.zero_le _) (Nat.zero_le _) ⟨_, rfl, ⟨by first | exact (b2i_t (by (try simp only [b2i_eq0, b2i_ne0, decide_eq_true_eq] at *); (try simp only [cI, sI_setA, sI_setQ, sI_setR, sA_setI, sA_setR, sA_setQ, fa_lt, fa_le, fa_eq, Int32.reduceToInt] at *); omega)).symm | exact (b2i_f (by (try simp only [b2i_eq0, b2i_ne0, decide_eq_true_eq] at *); (try simp only [cI, sI_setA, sI_setQ, sI_setR, sA_setI, sA_setR, sA_setQ, fa_lt, fa_le, fa_eq, Int32.reduceToInt] at *); omega)).symm, rfl⟩⟩
    · skip
      refine r_aload_n dX8_isStormy_11 rfl rfl ?_
      refine r_getR dX8_isStormy_12 lf_X8_12 rfl rfl (shR8_0 h) (shL_1 h) ?_
      refine r_getR dX8_isStormy_15 lf_X8_82 rfl rfl (shR4_1 h) (shL_3 h) ?_
      refine r_iload_n dX8_isStormy_18 rfl rfl ?_
      refine r_zald dX8_isStormy_19 rfl (show vp_in _ 36 from vp_in_iff.mpr (by (try simp only [b2i_eq0, b2i_ne0, decide_eq_true_eq] at *); (try simp only [cI, sI_setA, sI_setQ, sI_setR, sA_setI, sA_setR, sA_setQ, fa_lt, fa_le, fa_eq, Int32.reduceToInt] at *); omega)) ?_
      refine r_if_eq 27 dX8_isStormy_20 (by decide) (fun q20 => ?_) (fun q20 => ?_)
      · skip
        refine r_iconst (v := 0) dX8_isStormy_27 (by decide) ?_
        exact r_zret dX8_isStormy_28 rfl rfl (Nat.zero_le _) (Nat.zero_le _) ⟨_, rfl, ⟨by first | exact (b2i_t (by (try simp only [b2i_eq0, b2i_ne0, decide_eq_true_eq] at *); (try simp only [cI, sI_setA, sI_setQ, sI_setR, sA_setI, sA_setR, sA_setQ, fa_lt, fa_le, fa_eq, Int32.reduceToInt] at *); omega)).symm | exact (b2i_f (by (try simp only [b2i_eq0, b2i_ne0, decide_eq_true_eq] at *); (try simp only [cI, sI_setA, sI_setQ, sI_setR, sA_setI, sA_setR, sA_setQ, fa_lt, fa_le, fa_eq, Int32.reduceToInt] at *); omega)).symm, rfl⟩⟩
      · skip
        refine r_iconst (v := 1) dX8_isStormy_23 (by decide) ?_
        refine r_goto 28 dX8_isStormy_24 (by decide) ?_
        exact r_zret dX8_isStormy_28 rfl rfl (Nat.zero_le _) (Nat.zero_le _) ⟨_, rfl, ⟨by first | exact (b2i_t (by (try simp only [b2i_eq0, b2i_ne0, decide_eq_true_eq] at *); (try simp only [cI, sI_setA, sI_setQ, sI_setR, sA_setI, sA_setR, sA_setQ, fa_lt, fa_le, fa_eq, Int32.reduceToInt] at *); omega)).symm | exact (b2i_f (by (try simp only [b2i_eq0, b2i_ne0, decide_eq_true_eq] at *); (try simp only [cI, sI_setA, sI_setQ, sI_setR, sA_setI, sA_setR, sA_setQ, fa_lt, fa_le, fa_eq, Int32.reduceToInt] at *); omega)).symm, rfl⟩⟩
set_option maxHeartbeats 4000000 in
theorem c_X7_beginDay {l : Launch} {G : va_G} {cy : Nat → ClassId} (o ob : Nat) (S : HS) (hk : tk o = 7) (hr : sR S (fid 7 0) o = some ob) (hl : ob ∈ sL S) (hkb : tk ob = 10) (hnb : tn ob = 6) : Cn l G cy yX7_beginDay cX7_beginDay 2 none 0 [.ref o] S 0 0 (qV (fun S2 => S2 = setA (setI S (fid 7 4) o (sI S (fid 7 2) o)) ob (fillR (fun _ => 0) (sA S ob) 6))) := by
  refine Cn.of [some (.ref o), none] (by decide) rfl (Nat.le_of_ble_eq_true rfl) ?_
  refine r_aload_n dX7_beginDay_0 rfl rfl ?_
  refine r_aload_n dX7_beginDay_1 rfl rfl ?_
  refine r_getI dX7_beginDay_2 lf_X7_25 rfl hk ?_
  refine r_putI dX7_beginDay_5 (lp_X7_28 _) rfl hk ?_
  refine R.heap (show setI S (fid 7 4) o (sI S (fid 7 2) o) = setA (setI S (fid 7 4) o (sI S (fid 7 2) o)) ob (sA S ob) from (setA_self (setI S (fid 7 4) o (sI S (fid 7 2) o)) ob).symm) ?_
  refine r_iconst (v := 0) dX7_beginDay_8 (by decide) ?_
  refine r_ist1 dX7_beginDay_9 (Nat.le_of_ble_eq_true rfl) rfl ?_
  refine R.for (α := Unit) (6) (fun i a => [some (.ref o), some (.int (nI i))]) (fun i a => (setA (setI S (fid 7 4) o (sI S (fid 7 2) o)) ob (fillR (fun _ => 0) (sA S ob) i))) (fun i a => True) ?_ ?_ 0 () (Nat.zero_le _) trivial
  · intro a hI
    have hii : (nI 6).toInt = (6 : Nat) := nI_toInt (by omega)
    refine r_iload_n dX7_beginDay_10 rfl rfl ?_
    refine r_bipush (v := 6) dX7_beginDay_11 (by decide) ?_
    refine r_icmp_ge 29 dX7_beginDay_13 (by decide) (fun q13 => ?_) (fun q13 => ?_)
    · skip
      exact r_vret dX7_beginDay_29 rfl (Nat.zero_le _) (Nat.zero_le _) ⟨rfl, rfl⟩
    · skip
      exact absurd q13 (by (try simp only [b2i_eq0, b2i_ne0, decide_eq_true_eq] at *); (try simp only [cI, sI_setA, sI_setQ, sI_setR, sA_setI, sA_setR, sA_setQ, fa_lt, fa_le, fa_eq, Int32.reduceToInt] at *); omega)
  · intro i a hi hI ih
    have hii : (nI i).toInt = i := nI_toInt (by omega)
    have hic : (nI i).toNatClampNeg = i := nI_clamp (by omega)
    have hro : sA (setA (setI S (fid 7 4) o (sI S (fid 7 2) o)) ob (fillR (fun _ => 0) (sA S ob) i)) ob = fillR (fun _ => 0) (sA S ob) i := by rw [sA_setA, va_up_self]
    refine r_iload_n dX7_beginDay_10 rfl rfl ?_
    refine r_bipush (v := 6) dX7_beginDay_11 (by decide) ?_
    refine r_icmp_ge 29 dX7_beginDay_13 (by decide) (fun q13 => ?_) (fun q13 => ?_)
    · skip
      exact absurd q13 (by (try simp only [b2i_eq0, b2i_ne0, decide_eq_true_eq] at *); (try simp only [cI, sI_setA, sI_setQ, sI_setR, sA_setI, sA_setR, sA_setQ, fa_lt, fa_le, fa_eq, Int32.reduceToInt] at *); omega)
    · skip
      refine r_aload_n dX7_beginDay_16 rfl rfl ?_
      refine r_getR dX7_beginDay_17 lf_X7_9 rfl hk hr hl ?_
      refine r_iload_n dX7_beginDay_20 rfl rfl ?_
      refine r_iconst (v := 0) dX7_beginDay_21 (by decide) ?_
      refine r_iast dX7_beginDay_22 hkb (vq_cast hnb (vp_in_iff.mpr (by (try simp only [b2i_eq0, b2i_ne0, decide_eq_true_eq] at *); (try simp only [cI, sI_setA, sI_setQ, sI_setR, sA_setI, sA_setR, sA_setQ, fa_lt, fa_le, fa_eq, Int32.reduceToInt] at *); omega))) ?_
      refine r_in1 dX7_beginDay_23 (show _ + Int32.ofInt 1 = _ + 1 from rfl) (Nat.le_of_ble_eq_true rfl) rfl ?_
      refine r_goto 10 dX7_beginDay_26 (by decide) ?_
      rw [nI_1, hic, setA_setA, hro]
      exact ih () trivial
/-- the crew that is free first, the lowest of several, among the first n + 1 -/
def gmn (f : Nat → Int32) : Nat → Nat
  | 0 => 0
  | i + 1 => if (f (i + 1)).toInt < (f (gmn f i)).toInt then i + 1 else gmn f i
theorem gmn_le (f : Nat → Int32) : ∀ i, gmn f i ≤ i
  | 0 => Nat.le_refl 0
  | i + 1 => by
    have := gmn_le f i
    unfold gmn
    split <;> omega
set_option maxHeartbeats 4000000 in
theorem c_X7_firstFreeCrew {l : Launch} {G : va_G} {cy : Nat → ClassId} (o ob : Nat) (S : HS) (hk : tk o = 7) (hr : sR S (fid 7 0) o = some ob) (hl : ob ∈ sL S) (hkb : tk ob = 10) (hnb : tn ob = 6) (hc : 1 ≤ (sI S (fid 7 1) o).toInt ∧ (sI S (fid 7 1) o).toInt ≤ 6) : Cn l G cy yX7_firstFreeCrew cX7_firstFreeCrew 3 (some .int) 0 [.ref o] S 0 0 (qI (fun r S2 => r = nI (gmn (sA S ob) (nn (sI S (fid 7 1) o) - 1)) ∧ S2 = S)) := by
  refine Cn.of [some (.ref o), none, none] (by decide) rfl (Nat.le_of_ble_eq_true rfl) ?_
  refine r_iconst (v := 0) dX7_firstFreeCrew_0 (by decide) ?_
  refine r_ist1 dX7_firstFreeCrew_1 (Nat.le_of_ble_eq_true rfl) rfl ?_
  refine r_iconst (v := 1) dX7_firstFreeCrew_2 (by decide) ?_
  refine r_ist2 dX7_firstFreeCrew_3 (Nat.le_of_ble_eq_true rfl) rfl ?_
  refine R.for (α := Unit) ((nn (sI S (fid 7 1) o) - 1)) (fun i a => [some (.ref o), some (.int (nI (gmn (sA S ob) i))), some (.int (nI (i + 1)))]) (fun i a => S) (fun i a => True) ?_ ?_ 0 () (Nat.zero_le _) trivial
  · intro a hI
    have hcn := nn_int (x := sI S (fid 7 1) o) (by omega)
    have hii : (nI ((nn (sI S (fid 7 1) o) - 1) + 1)).toInt = (((nn (sI S (fid 7 1) o) - 1) + 1 : Nat) : Int) := nI_toInt (by omega)
    refine r_iload_n dX7_firstFreeCrew_4 rfl rfl ?_
    refine r_aload_n dX7_firstFreeCrew_5 rfl rfl ?_
    refine r_getI dX7_firstFreeCrew_6 lf_X7_21 rfl hk ?_
    refine r_icmp_ge 35 dX7_firstFreeCrew_9 (by decide) (fun q9 => ?_) (fun q9 => ?_)
    · skip
      refine r_iload_n dX7_firstFreeCrew_35 rfl rfl ?_
      exact r_iret dX7_firstFreeCrew_36 rfl (Nat.zero_le _) (Nat.zero_le _) ⟨_, rfl, ⟨rfl, rfl⟩⟩
    · skip
      exact absurd q9 (by (try simp only [b2i_eq0, b2i_ne0, decide_eq_true_eq] at *); (try simp only [cI, sI_setA, sI_setQ, sI_setR, sA_setI, sA_setR, sA_setQ, fa_lt, fa_le, fa_eq, Int32.reduceToInt] at *); omega)
  · intro i a hi hI ih
    have hcn := nn_int (x := sI S (fid 7 1) o) (by omega)
    have hii : (nI (i + 1)).toInt = ((i + 1 : Nat) : Int) := nI_toInt (by omega)
    have hic : (nI (i + 1)).toNatClampNeg = i + 1 := nI_clamp (by omega)
    have hgl := gmn_le (sA S ob) i
    have hgi : (nI (gmn (sA S ob) i)).toInt = ((gmn (sA S ob) i : Nat) : Int) := nI_toInt (by omega)
    have hgc : (nI (gmn (sA S ob) i)).toNatClampNeg = gmn (sA S ob) i := nI_clamp (by omega)
    refine r_iload_n dX7_firstFreeCrew_4 rfl rfl ?_
    refine r_aload_n dX7_firstFreeCrew_5 rfl rfl ?_
    refine r_getI dX7_firstFreeCrew_6 lf_X7_21 rfl hk ?_
    refine r_icmp_ge 35 dX7_firstFreeCrew_9 (by decide) (fun q9 => ?_) (fun q9 => ?_)
    · skip
      exact absurd q9 (by (try simp only [b2i_eq0, b2i_ne0, decide_eq_true_eq] at *); (try simp only [cI, sI_setA, sI_setQ, sI_setR, sA_setI, sA_setR, sA_setQ, fa_lt, fa_le, fa_eq, Int32.reduceToInt] at *); omega)
    · skip
      refine r_aload_n dX7_firstFreeCrew_12 rfl rfl ?_
      refine r_getR dX7_firstFreeCrew_13 lf_X7_9 rfl hk hr hl ?_
      refine r_iload_n dX7_firstFreeCrew_16 rfl rfl ?_
      refine r_iald dX7_firstFreeCrew_17 hkb (vq_cast hnb (vp_in_iff.mpr (by (try simp only [b2i_eq0, b2i_ne0, decide_eq_true_eq] at *); (try simp only [cI, sI_setA, sI_setQ, sI_setR, sA_setI, sA_setR, sA_setQ, fa_lt, fa_le, fa_eq, Int32.reduceToInt] at *); omega))) ?_
      refine r_aload_n dX7_firstFreeCrew_18 rfl rfl ?_
      refine r_getR dX7_firstFreeCrew_19 lf_X7_9 rfl hk hr hl ?_
      refine r_iload_n dX7_firstFreeCrew_22 rfl rfl ?_
      refine r_iald dX7_firstFreeCrew_23 hkb (vq_cast hnb (vp_in_iff.mpr (by (try simp only [b2i_eq0, b2i_ne0, decide_eq_true_eq] at *); (try simp only [cI, sI_setA, sI_setQ, sI_setR, sA_setI, sA_setR, sA_setQ, fa_lt, fa_le, fa_eq, Int32.reduceToInt] at *); omega))) ?_
      refine r_icmp_ge 29 dX7_firstFreeCrew_24 (by decide) (fun q24 => ?_) (fun q24 => ?_)
      · skip
        refine r_in2 dX7_firstFreeCrew_29 (show _ + Int32.ofInt 1 = _ + 1 from rfl) (Nat.le_of_ble_eq_true rfl) rfl ?_
        refine r_goto 4 dX7_firstFreeCrew_32 (by decide) ?_
        rw [nI_1]
        rw [hic, hgc] at q24
        have h9 := ih () trivial
        first
          | (rw [show gmn (sA S ob) (i + 1) = i + 1 from if_pos (by simp only [fa_le] at q24; omega)] at h9; exact h9)
          | (rw [show gmn (sA S ob) (i + 1) = gmn (sA S ob) i from if_neg (by simp only [fa_le] at q24; omega)] at h9; exact h9)
      · skip
        refine r_iload_n dX7_firstFreeCrew_27 rfl rfl ?_
        refine r_ist1 dX7_firstFreeCrew_28 (Nat.le_of_ble_eq_true rfl) rfl ?_
        refine r_in2 dX7_firstFreeCrew_29 (show _ + Int32.ofInt 1 = _ + 1 from rfl) (Nat.le_of_ble_eq_true rfl) rfl ?_
        refine r_goto 4 dX7_firstFreeCrew_32 (by decide) ?_
        rw [nI_1]
        rw [hic, hgc] at q24
        have h9 := ih () trivial
        first
          | (rw [show gmn (sA S ob) (i + 1) = i + 1 from if_pos (by simp only [fa_le] at q24; omega)] at h9; exact h9)
          | (rw [show gmn (sA S ob) (i + 1) = gmn (sA S ob) i from if_neg (by simp only [fa_le] at q24; omega)] at h9; exact h9)
