/-! ===== the system: parting ===== -/
theorem setA4 (S : HS) {a c : Nat} (h : a ≠ c) (r1 r2 r3 r4 : Nat → Int32) : setA (setA (setA (setA S a r1) c r2) a r3) c r4 = setA (setA S a r3) c r4 := by
  refine HS_ext rfl rfl rfl ?_ rfl
  funext t
  simp only [sA_setA, va_up]
  by_cases h1 : t = c
  · simp [h1]
  · by_cases h2 : t = a <;> simp [h1, h2]
theorem pos64 {x : Int32} (h : 0 < x) : ¬ x.toInt64 = 0 := by
  intro e
  have e2 := (fa_eq64 _ _).mp e
  rw [Int32.toInt_toInt64] at e2
  simp only [fa_lt, Int32.reduceToInt] at h
  have e3 : (0 : Int64).toInt = 0 := by decide
  omega
/-- a row filled by g up to n -/
def fillR (g old : Nat → Int32) : Nat → Nat → Int32
  | 0 => old
  | i + 1 => upd (fillR g old i) i (g i)
theorem fillR_in {g old : Nat → Int32} : ∀ {n j : Nat}, j < n → fillR g old n j = g j
  | 0, j, h => absurd h (Nat.not_lt_zero j)
  | n + 1, j, h => by
    by_cases e : j = n
    · subst e; exact pk_us
    · exact (pk_un e).trans (fillR_in (by omega))
/-- the place of the greatest, the lowest of several, among the first n + 1 -/
def gmx (f : Nat → Int32) : Nat → Nat
  | 0 => 0
  | i + 1 => if (f (gmx f i)).toInt < (f (i + 1)).toInt then i + 1 else gmx f i
theorem gmx_le (f : Nat → Int32) : ∀ i, gmx f i ≤ i
  | 0 => Nat.le_refl 0
  | i + 1 => by
    have := gmx_le f i
    unfold gmx
    split <;> omega
def pq (n m s : Int32) : Int32 := (n.toInt64 * m.toInt64 / s.toInt64).toInt32
def pr (n m s : Int32) : Int32 := (n.toInt64 * m.toInt64 - n.toInt64 * m.toInt64 / s.toInt64 * s.toInt64).toInt32
def lfN (n : Int32) (g : Nat → Int32) : Nat → Int32
  | 0 => n
  | i + 1 => lfN n g i - g i
/-- ones to the greatest rests -/
def itR (x : (Nat → Int32) × (Nat → Int32)) : Nat → (Nat → Int32) × (Nat → Int32)
  | 0 => x
  | k + 1 => (upd (itR x k).1 (gmx (itR x k).2 11) ((itR x k).1 (gmx (itR x k).2 11) + 1), upd (itR x k).2 (gmx (itR x k).2 11) 0)
set_option maxHeartbeats 4000000 in
theorem c_X3_clear {l : Launch} {G : va_G} {cy : Nat → ClassId} (S : HS) (h : ShF S) : Cn l G cy yX3_clear cX3_clear 2 none 0 [.ref 11] S 0 0 (qV (fun S2 => S2 = setA (setA (setI S (fid 3 3) 11 0) 13 (fillR (fun _ => 0) (sA S 13) 12)) 12 (fillR (fun _ => 0) (sA S 12) 12))) := by
  refine Cn.of [some (.ref 11), none] (by decide) rfl (Nat.le_of_ble_eq_true rfl) ?_
  refine r_aload_n dX3_clear_0 rfl rfl ?_
  refine r_iconst (v := 0) dX3_clear_1 (by decide) ?_
  refine r_putI dX3_clear_2 (lp_X3_21 _) rfl rfl ?_
  refine R.heap (show (setI S (fid 3 3) 11 0) = setA (setA (setI S (fid 3 3) 11 0) 13 (sA S 13)) 12 (sA S 12) from by rw [show sA S 13 = sA (setI S (fid 3 3) 11 0) 13 from rfl, setA_self, show sA S 12 = sA (setI S (fid 3 3) 11 0) 12 from rfl, setA_self]) ?_
  refine r_iconst (v := 0) dX3_clear_5 (by decide) ?_
  refine r_ist1 dX3_clear_6 (Nat.le_of_ble_eq_true rfl) rfl ?_
  refine R.for (α := Unit) (12) (fun i a => [some (.ref 11), some (.int (nI i))]) (fun i a => (setA (setA (setI S (fid 3 3) 11 0) 13 (fillR (fun _ => 0) (sA S 13) i)) 12 (fillR (fun _ => 0) (sA S 12) i))) (fun i a => True) ?_ ?_ 0 () (Nat.zero_le _) trivial
  · intro a hI
    have hii : (nI 12).toInt = (12 : Nat) := nI_toInt (by omega)
    refine r_iload_n dX3_clear_7 rfl rfl ?_
    refine r_bipush (v := 12) dX3_clear_8 (by decide) ?_
    refine r_icmp_ge 33 dX3_clear_10 (by decide) (fun q10 => ?_) (fun q10 => ?_)
    · skip
      exact r_vret dX3_clear_33 rfl (Nat.zero_le _) (Nat.zero_le _) ⟨rfl, rfl⟩
    · skip
      exact absurd q10 (by (try simp only [b2i_eq0, b2i_ne0, decide_eq_true_eq] at *); (try simp only [cI, sI_setA, sI_setQ, sI_setR, sA_setI, sA_setR, sA_setQ, fa_lt, fa_le, fa_eq, Int32.reduceToInt] at *); omega)
  · intro i a hi hI ih
    have hii : (nI i).toInt = i := nI_toInt (by omega)
    have hic : (nI i).toNatClampNeg = i := nI_clamp (by omega)
    refine r_iload_n dX3_clear_7 rfl rfl ?_
    refine r_bipush (v := 12) dX3_clear_8 (by decide) ?_
    refine r_icmp_ge 33 dX3_clear_10 (by decide) (fun q10 => ?_) (fun q10 => ?_)
    · skip
      exact absurd q10 (by (try simp only [b2i_eq0, b2i_ne0, decide_eq_true_eq] at *); (try simp only [cI, sI_setA, sI_setQ, sI_setR, sA_setI, sA_setR, sA_setQ, fa_lt, fa_le, fa_eq, Int32.reduceToInt] at *); omega)
    · skip
      refine r_aload_n dX3_clear_13 rfl rfl ?_
      refine r_getR dX3_clear_14 lf_X3_15 rfl rfl (shR3_1 h) (shL_13 h) ?_
      refine r_iload_n dX3_clear_17 rfl rfl ?_
      refine r_iconst (v := 0) dX3_clear_18 (by decide) ?_
      refine r_iast dX3_clear_19 rfl (show vp_in _ 12 from vp_in_iff.mpr (by (try simp only [b2i_eq0, b2i_ne0, decide_eq_true_eq] at *); (try simp only [cI, sI_setA, sI_setQ, sI_setR, sA_setI, sA_setR, sA_setQ, fa_lt, fa_le, fa_eq, Int32.reduceToInt] at *); omega)) ?_
      refine r_aload_n dX3_clear_20 rfl rfl ?_
      refine r_getR dX3_clear_21 lf_X3_9 rfl rfl (shR3_0 h) (shL_12 h) ?_
      refine r_iload_n dX3_clear_24 rfl rfl ?_
      refine r_iconst (v := 0) dX3_clear_25 (by decide) ?_
      refine r_iast dX3_clear_26 rfl (show vp_in _ 12 from vp_in_iff.mpr (by (try simp only [b2i_eq0, b2i_ne0, decide_eq_true_eq] at *); (try simp only [cI, sI_setA, sI_setQ, sI_setR, sA_setI, sA_setR, sA_setQ, fa_lt, fa_le, fa_eq, Int32.reduceToInt] at *); omega)) ?_
      refine r_in1 dX3_clear_27 (show _ + Int32.ofInt 1 = _ + 1 from rfl) (Nat.le_of_ble_eq_true rfl) rfl ?_
      refine r_goto 7 dX3_clear_30 (by decide) ?_
      rw [nI_1, hic, setA4 _ (by decide)]
      exact ih () trivial
set_option maxHeartbeats 4000000 in
theorem c_X3_addMeasure {l : Launch} {G : va_G} {cy : Nat → ClassId} (a m : Int32) (S : HS) (h : ShF S) : Cn l G cy yX3_addMeasure cX3_addMeasure 3 none 0 [.ref 11, .int a, .int m] S 0 0 (qV (fun S2 => S2 = if (0 ≤ a.toInt ∧ a.toInt < 12) then setI (setA S 13 (upd (sA S 13) a.toNatClampNeg m)) (fid 3 3) 11 (sI S (fid 3 3) 11 + m) else S)) := by
  refine Cn.of [some (.ref 11), some (.int a), some (.int m)] (by decide) rfl (Nat.le_of_ble_eq_true rfl) ?_
  refine r_iload_n dX3_addMeasure_0 rfl rfl ?_
  refine r_if_lt 27 dX3_addMeasure_1 (by decide) (fun q1 => ?_) (fun q1 => ?_)
  · skip
    exact r_vret dX3_addMeasure_27 rfl (Nat.zero_le _) (Nat.zero_le _) ⟨rfl, by first | exact (if_pos (by (try simp only [b2i_eq0, b2i_ne0, decide_eq_true_eq] at *); (try simp only [cI, sI_setA, sI_setQ, sI_setR, sA_setI, sA_setR, sA_setQ, fa_lt, fa_le, fa_eq, Int32.reduceToInt] at *); omega)).symm | exact (if_neg (by (try simp only [b2i_eq0, b2i_ne0, decide_eq_true_eq] at *); (try simp only [cI, sI_setA, sI_setQ, sI_setR, sA_setI, sA_setR, sA_setQ, fa_lt, fa_le, fa_eq, Int32.reduceToInt] at *); omega)).symm⟩
  · skip
    refine r_iload_n dX3_addMeasure_4 rfl rfl ?_
    refine r_bipush (v := 12) dX3_addMeasure_5 (by decide) ?_
    refine r_icmp_ge 27 dX3_addMeasure_7 (by decide) (fun q7 => ?_) (fun q7 => ?_)
    · skip
      exact r_vret dX3_addMeasure_27 rfl (Nat.zero_le _) (Nat.zero_le _) ⟨rfl, by first | exact (if_pos (by (try simp only [b2i_eq0, b2i_ne0, decide_eq_true_eq] at *); (try simp only [cI, sI_setA, sI_setQ, sI_setR, sA_setI, sA_setR, sA_setQ, fa_lt, fa_le, fa_eq, Int32.reduceToInt] at *); omega)).symm | exact (if_neg (by (try simp only [b2i_eq0, b2i_ne0, decide_eq_true_eq] at *); (try simp only [cI, sI_setA, sI_setQ, sI_setR, sA_setI, sA_setR, sA_setQ, fa_lt, fa_le, fa_eq, Int32.reduceToInt] at *); omega)).symm⟩
    · skip
      refine r_aload_n dX3_addMeasure_10 rfl rfl ?_
      refine r_getR dX3_addMeasure_11 lf_X3_15 rfl rfl (shR3_1 h) (shL_13 h) ?_
      refine r_iload_n dX3_addMeasure_14 rfl rfl ?_
      refine r_iload_n dX3_addMeasure_15 rfl rfl ?_
      refine r_iast dX3_addMeasure_16 rfl (show vp_in _ 12 from vp_in_iff.mpr (by (try simp only [b2i_eq0, b2i_ne0, decide_eq_true_eq] at *); (try simp only [cI, sI_setA, sI_setQ, sI_setR, sA_setI, sA_setR, sA_setQ, fa_lt, fa_le, fa_eq, Int32.reduceToInt] at *); omega)) ?_
      refine r_aload_n dX3_addMeasure_17 rfl rfl ?_
      refine r_dup dX3_addMeasure_18 rfl ?_
      refine r_getI dX3_addMeasure_19 lf_X3_21 rfl rfl ?_
      refine r_iload_n dX3_addMeasure_22 rfl rfl ?_
      refine r_iadd dX3_addMeasure_23 ?_
      refine r_putI dX3_addMeasure_24 (lp_X3_21 _) rfl rfl ?_
      exact r_vret dX3_addMeasure_27 rfl (Nat.zero_le _) (Nat.zero_le _) ⟨rfl, by first | exact (if_pos (by (try simp only [b2i_eq0, b2i_ne0, decide_eq_true_eq] at *); (try simp only [cI, sI_setA, sI_setQ, sI_setR, sA_setI, sA_setR, sA_setQ, fa_lt, fa_le, fa_eq, Int32.reduceToInt] at *); omega)).symm | exact (if_neg (by (try simp only [b2i_eq0, b2i_ne0, decide_eq_true_eq] at *); (try simp only [cI, sI_setA, sI_setQ, sI_setR, sA_setI, sA_setR, sA_setQ, fa_lt, fa_le, fa_eq, Int32.reduceToInt] at *); omega)).symm⟩
set_option maxHeartbeats 4000000 in
theorem c_X3_greatestRest {l : Launch} {G : va_G} {cy : Nat → ClassId} (S : HS) (h : ShF S) : Cn l G cy yX3_greatestRest cX3_greatestRest 3 (some .int) 0 [.ref 11] S 0 0 (qI (fun r S2 => r = nI (gmx (sA S 14) 11) ∧ S2 = S)) := by
  refine Cn.of [some (.ref 11), none, none] (by decide) rfl (Nat.le_of_ble_eq_true rfl) ?_
  refine r_iconst (v := 0) dX3_greatestRest_0 (by decide) ?_
  refine r_ist1 dX3_greatestRest_1 (Nat.le_of_ble_eq_true rfl) rfl ?_
  refine r_iconst (v := 1) dX3_greatestRest_2 (by decide) ?_
  refine r_ist2 dX3_greatestRest_3 (Nat.le_of_ble_eq_true rfl) rfl ?_
  refine R.for (α := Unit) (11) (fun i a => [some (.ref 11), some (.int (nI (gmx (sA S 14) i))), some (.int (nI (i + 1)))]) (fun i a => S) (fun i a => True) ?_ ?_ 0 () (Nat.zero_le _) trivial
  · intro a hI
    have hii : (nI (11 + 1)).toInt = ((11 + 1 : Nat) : Int) := nI_toInt (by omega)
    refine r_iload_n dX3_greatestRest_4 rfl rfl ?_
    refine r_bipush (v := 12) dX3_greatestRest_5 (by decide) ?_
    refine r_icmp_ge 33 dX3_greatestRest_7 (by decide) (fun q7 => ?_) (fun q7 => ?_)
    · skip
      refine r_iload_n dX3_greatestRest_33 rfl rfl ?_
      exact r_iret dX3_greatestRest_34 rfl (Nat.zero_le _) (Nat.zero_le _) ⟨_, rfl, ⟨rfl, rfl⟩⟩
    · skip
      exact absurd q7 (by (try simp only [b2i_eq0, b2i_ne0, decide_eq_true_eq] at *); (try simp only [cI, sI_setA, sI_setQ, sI_setR, sA_setI, sA_setR, sA_setQ, fa_lt, fa_le, fa_eq, Int32.reduceToInt] at *); omega)
  · intro i a hi hI ih
    have hii : (nI (i + 1)).toInt = ((i + 1 : Nat) : Int) := nI_toInt (by omega)
    have hic : (nI (i + 1)).toNatClampNeg = i + 1 := nI_clamp (by omega)
    have hgl := gmx_le (sA S 14) i
    have hgi : (nI (gmx (sA S 14) i)).toInt = ((gmx (sA S 14) i : Nat) : Int) := nI_toInt (by omega)
    have hgc : (nI (gmx (sA S 14) i)).toNatClampNeg = gmx (sA S 14) i := nI_clamp (by omega)
    refine r_iload_n dX3_greatestRest_4 rfl rfl ?_
    refine r_bipush (v := 12) dX3_greatestRest_5 (by decide) ?_
    refine r_icmp_ge 33 dX3_greatestRest_7 (by decide) (fun q7 => ?_) (fun q7 => ?_)
    · skip
      exact absurd q7 (by (try simp only [b2i_eq0, b2i_ne0, decide_eq_true_eq] at *); (try simp only [cI, sI_setA, sI_setQ, sI_setR, sA_setI, sA_setR, sA_setQ, fa_lt, fa_le, fa_eq, Int32.reduceToInt] at *); omega)
    · skip
      refine r_aload_n dX3_greatestRest_10 rfl rfl ?_
      refine r_getR dX3_greatestRest_11 lf_X3_18 rfl rfl (shR3_2 h) (shL_14 h) ?_
      refine r_iload_n dX3_greatestRest_14 rfl rfl ?_
      refine r_iald dX3_greatestRest_15 rfl (show vp_in _ 12 from vp_in_iff.mpr (by (try simp only [b2i_eq0, b2i_ne0, decide_eq_true_eq] at *); (try simp only [cI, sI_setA, sI_setQ, sI_setR, sA_setI, sA_setR, sA_setQ, fa_lt, fa_le, fa_eq, Int32.reduceToInt] at *); omega)) ?_
      refine r_aload_n dX3_greatestRest_16 rfl rfl ?_
      refine r_getR dX3_greatestRest_17 lf_X3_18 rfl rfl (shR3_2 h) (shL_14 h) ?_
      refine r_iload_n dX3_greatestRest_20 rfl rfl ?_
      refine r_iald dX3_greatestRest_21 rfl (show vp_in _ 12 from vp_in_iff.mpr (by (try simp only [b2i_eq0, b2i_ne0, decide_eq_true_eq] at *); (try simp only [cI, sI_setA, sI_setQ, sI_setR, sA_setI, sA_setR, sA_setQ, fa_lt, fa_le, fa_eq, Int32.reduceToInt] at *); omega)) ?_
      refine r_icmp_le 27 dX3_greatestRest_22 (by decide) (fun q22 => ?_) (fun q22 => ?_)
      · skip
        refine r_in2 dX3_greatestRest_27 (show _ + Int32.ofInt 1 = _ + 1 from rfl) (Nat.le_of_ble_eq_true rfl) rfl ?_
        refine r_goto 4 dX3_greatestRest_30 (by decide) ?_
        rw [nI_1]
        rw [hic, hgc] at q22
        have h9 := ih () trivial
        first
          | (rw [show gmx (sA S 14) (i + 1) = i + 1 from if_pos (by simp only [fa_le] at q22; omega)] at h9; exact h9)
          | (rw [show gmx (sA S 14) (i + 1) = gmx (sA S 14) i from if_neg (by simp only [fa_le] at q22; omega)] at h9; exact h9)
      · skip
        refine r_iload_n dX3_greatestRest_25 rfl rfl ?_
        refine r_ist1 dX3_greatestRest_26 (Nat.le_of_ble_eq_true rfl) rfl ?_
        refine r_in2 dX3_greatestRest_27 (show _ + Int32.ofInt 1 = _ + 1 from rfl) (Nat.le_of_ble_eq_true rfl) rfl ?_
        refine r_goto 4 dX3_greatestRest_30 (by decide) ?_
        rw [nI_1]
        rw [hic, hgc] at q22
        have h9 := ih () trivial
        first
          | (rw [show gmx (sA S 14) (i + 1) = i + 1 from if_pos (by simp only [fa_le] at q22; omega)] at h9; exact h9)
          | (rw [show gmx (sA S 14) (i + 1) = gmx (sA S 14) i from if_neg (by simp only [fa_le] at q22; omega)] at h9; exact h9)
set_option maxHeartbeats 4000000 in
theorem c_X3_part {l : Launch} {G : va_G} {cy : Nat → ClassId} (n : Int32) (S : HS) (h : ShF S) : Cn l G cy yX3_part cX3_part 6 none 1 [.ref 11, .int n] S 0 0 (qV (fun S2 => S2 = if 0 < (sI S (fid 3 3) 11).toInt then (setA (setA S 12 (itR (fillR (fun j => pq n (sA S 13 j) (sI S (fid 3 3) 11)) (sA S 12) 12, fillR (fun j => pr n (sA S 13 j) (sI S (fid 3 3) 11)) (sA S 14) 12) (min (nn (lfN n (fun j => pq n (sA S 13 j) (sI S (fid 3 3) 11)) 12)) 12)).1) 14 (itR (fillR (fun j => pq n (sA S 13 j) (sI S (fid 3 3) 11)) (sA S 12) 12, fillR (fun j => pr n (sA S 13 j) (sI S (fid 3 3) 11)) (sA S 14) 12) (min (nn (lfN n (fun j => pq n (sA S 13 j) (sI S (fid 3 3) 11)) 12)) 12)).2) else S)) := by
  refine Cn.of [some (.ref 11), some (.int n), none, none, none, none] (by decide) rfl (Nat.le_of_ble_eq_true rfl) ?_
  refine r_aload_n dX3_part_0 rfl rfl ?_
  refine r_getI dX3_part_1 lf_X3_21 rfl rfl ?_
  refine r_if_gt 8 dX3_part_4 (by decide) (fun q4 => ?_) (fun q4 => ?_)
  · skip
    have hsn : ¬ (sI S (fid 3 3) 11).toInt64 = 0 := pos64 q4
    refine R.heap (show S = (setA (setA S 12 (fillR (fun j => pq n (sA S 13 j) (sI S (fid 3 3) 11)) (sA S 12) 0)) 14 (fillR (fun j => pr n (sA S 13 j) (sI S (fid 3 3) 11)) (sA S 14) 0)) from by show S = setA (setA S 12 (sA S 12)) 14 (sA S 14); rw [setA_self, setA_self]) ?_
    refine r_iload_n dX3_part_8 rfl rfl ?_
    refine r_ist2 dX3_part_9 (Nat.le_of_ble_eq_true rfl) rfl ?_
    refine r_iconst (v := 0) dX3_part_10 (by decide) ?_
    refine r_ist3 dX3_part_11 (Nat.le_of_ble_eq_true rfl) rfl ?_
    refine R.for (α := Option Value) (12) (fun i a => [some (.ref 11), some (.int n), some (.int (lfN n (fun j => pq n (sA S 13 j) (sI S (fid 3 3) 11)) i)), some (.int (nI i)), a, none]) (fun i a => (setA (setA S 12 (fillR (fun j => pq n (sA S 13 j) (sI S (fid 3 3) 11)) (sA S 12) i)) 14 (fillR (fun j => pr n (sA S 13 j) (sI S (fid 3 3) 11)) (sA S 14) i))) (fun i a => okp a = true ∨ okp a = false) ?_ ?_ 0 none (Nat.zero_le _) (Or.inl rfl)
    · intro a hI
      have hii : (nI 12).toInt = (12 : Nat) := nI_toInt (by omega)
      refine r_iload_n dX3_part_12 rfl rfl ?_
      refine r_bipush (v := 12) dX3_part_13 (by decide) ?_
      refine r_icmp_ge 75 dX3_part_15 (by decide) (fun q15 => ?_) (fun q15 => ?_)
      · skip
        
        refine r_iconst (v := 0) dX3_part_75 (by decide) ?_
        refine r_ist3 dX3_part_76 (Nat.le_of_ble_eq_true rfl) rfl ?_
        refine R.for (α := Option Value) ((min (nn (lfN n (fun j => pq n (sA S 13 j) (sI S (fid 3 3) 11)) 12)) 12)) (fun i a => [some (.ref 11), some (.int n), some (.int (lfN n (fun j => pq n (sA S 13 j) (sI S (fid 3 3) 11)) 12)), some (.int (nI i)), a, none]) (fun i a => (setA (setA S 12 (itR (fillR (fun j => pq n (sA S 13 j) (sI S (fid 3 3) 11)) (sA S 12) 12, fillR (fun j => pr n (sA S 13 j) (sI S (fid 3 3) 11)) (sA S 14) 12) i).1) 14 (itR (fillR (fun j => pq n (sA S 13 j) (sI S (fid 3 3) 11)) (sA S 12) 12, fillR (fun j => pr n (sA S 13 j) (sI S (fid 3 3) 11)) (sA S 14) 12) i).2)) (fun i a => True) ?_ ?_ 0 _ (Nat.zero_le _) trivial
        · intro a hI
          have hnl := nn_int (x := (lfN n (fun j => pq n (sA S 13 j) (sI S (fid 3 3) 11)) 12))
          have hnn : nn (lfN n (fun j => pq n (sA S 13 j) (sI S (fid 3 3) 11)) 12) = (((lfN n (fun j => pq n (sA S 13 j) (sI S (fid 3 3) 11)) 12)).toInt).toNat := rfl
          have hii : (nI (min (nn (lfN n (fun j => pq n (sA S 13 j) (sI S (fid 3 3) 11)) 12)) 12)).toInt = (((min (nn (lfN n (fun j => pq n (sA S 13 j) (sI S (fid 3 3) 11)) 12)) 12) : Nat) : Int) := nI_toInt (by omega)
          refine r_iload_n dX3_part_77 rfl rfl ?_
          refine r_iload_n dX3_part_78 rfl rfl ?_
          refine r_icmp_ge 119 dX3_part_79 (by decide) (fun q79 => ?_) (fun q79 => ?_)
          · skip
            exact r_vret dX3_part_119 rfl (Nat.zero_le _) (Nat.zero_le _) ⟨rfl, (if_pos (by (try simp only [b2i_eq0, b2i_ne0, decide_eq_true_eq] at *); (try simp only [cI, sI_setA, sI_setQ, sI_setR, sA_setI, sA_setR, sA_setQ, fa_lt, fa_le, fa_eq, Int32.reduceToInt] at *); omega)).symm⟩
          · skip
            refine r_iload_n dX3_part_82 rfl rfl ?_
            refine r_bipush (v := 12) dX3_part_83 (by decide) ?_
            refine r_icmp_ge 119 dX3_part_85 (by decide) (fun q85 => ?_) (fun q85 => ?_)
            · skip
              exact r_vret dX3_part_119 rfl (Nat.zero_le _) (Nat.zero_le _) ⟨rfl, (if_pos (by (try simp only [b2i_eq0, b2i_ne0, decide_eq_true_eq] at *); (try simp only [cI, sI_setA, sI_setQ, sI_setR, sA_setI, sA_setR, sA_setQ, fa_lt, fa_le, fa_eq, Int32.reduceToInt] at *); omega)).symm⟩
            · skip
              exact absurd q85 (by (try simp only [b2i_eq0, b2i_ne0, decide_eq_true_eq] at *); (try simp only [cI, sI_setA, sI_setQ, sI_setR, sA_setI, sA_setR, sA_setQ, fa_lt, fa_le, fa_eq, Int32.reduceToInt] at *); omega)
        · intro i a hi hI ih
          have hnl := nn_int (x := (lfN n (fun j => pq n (sA S 13 j) (sI S (fid 3 3) 11)) 12))
          have hnn : nn (lfN n (fun j => pq n (sA S 13 j) (sI S (fid 3 3) 11)) 12) = (((lfN n (fun j => pq n (sA S 13 j) (sI S (fid 3 3) 11)) 12)).toInt).toNat := rfl
          have hii : (nI i).toInt = i := nI_toInt (by omega)
          have hic : (nI i).toNatClampNeg = i := nI_clamp (by omega)
          have hgl := gmx_le (itR (fillR (fun j => pq n (sA S 13 j) (sI S (fid 3 3) 11)) (sA S 12) 12, fillR (fun j => pr n (sA S 13 j) (sI S (fid 3 3) 11)) (sA S 14) 12) i).2 11
          have hgi : (nI (gmx (itR (fillR (fun j => pq n (sA S 13 j) (sI S (fid 3 3) 11)) (sA S 12) 12, fillR (fun j => pr n (sA S 13 j) (sI S (fid 3 3) 11)) (sA S 14) 12) i).2 11)).toInt = ((gmx (itR (fillR (fun j => pq n (sA S 13 j) (sI S (fid 3 3) 11)) (sA S 12) 12, fillR (fun j => pr n (sA S 13 j) (sI S (fid 3 3) 11)) (sA S 14) 12) i).2 11 : Nat) : Int) := nI_toInt (by omega)
          have hgc : (nI (gmx (itR (fillR (fun j => pq n (sA S 13 j) (sI S (fid 3 3) 11)) (sA S 12) 12, fillR (fun j => pr n (sA S 13 j) (sI S (fid 3 3) 11)) (sA S 14) 12) i).2 11)).toNatClampNeg = gmx (itR (fillR (fun j => pq n (sA S 13 j) (sI S (fid 3 3) 11)) (sA S 12) 12, fillR (fun j => pr n (sA S 13 j) (sI S (fid 3 3) 11)) (sA S 14) 12) i).2 11 := nI_clamp (by omega)
          have ha14 : sA (setA (setA S 12 (itR (fillR (fun j => pq n (sA S 13 j) (sI S (fid 3 3) 11)) (sA S 12) 12, fillR (fun j => pr n (sA S 13 j) (sI S (fid 3 3) 11)) (sA S 14) 12) i).1) 14 (itR (fillR (fun j => pq n (sA S 13 j) (sI S (fid 3 3) 11)) (sA S 12) 12, fillR (fun j => pr n (sA S 13 j) (sI S (fid 3 3) 11)) (sA S 14) 12) i).2) 14 = (itR (fillR (fun j => pq n (sA S 13 j) (sI S (fid 3 3) 11)) (sA S 12) 12, fillR (fun j => pr n (sA S 13 j) (sI S (fid 3 3) 11)) (sA S 14) 12) i).2 := rfl
          refine r_iload_n dX3_part_77 rfl rfl ?_
          refine r_iload_n dX3_part_78 rfl rfl ?_
          refine r_icmp_ge 119 dX3_part_79 (by decide) (fun q79 => ?_) (fun q79 => ?_)
          · skip
            exact absurd q79 (by (try simp only [b2i_eq0, b2i_ne0, decide_eq_true_eq] at *); (try simp only [cI, sI_setA, sI_setQ, sI_setR, sA_setI, sA_setR, sA_setQ, fa_lt, fa_le, fa_eq, Int32.reduceToInt] at *); omega)
          · skip
            refine r_iload_n dX3_part_82 rfl rfl ?_
            refine r_bipush (v := 12) dX3_part_83 (by decide) ?_
            refine r_icmp_ge 119 dX3_part_85 (by decide) (fun q85 => ?_) (fun q85 => ?_)
            · skip
              exact absurd q85 (by (try simp only [b2i_eq0, b2i_ne0, decide_eq_true_eq] at *); (try simp only [cI, sI_setA, sI_setQ, sI_setR, sA_setI, sA_setR, sA_setQ, fa_lt, fa_le, fa_eq, Int32.reduceToInt] at *); omega)
            · skip
              refine r_aload_n dX3_part_88 rfl rfl ?_
              refine r_invV0i dX3_part_89 lm_X3_25 rfl (c_X3_greatestRest _ h) (Nat.le_of_ble_eq_true rfl) (Nat.le_of_ble_eq_true rfl) (Nat.zero_le _) (Nat.zero_le _) (fun r89 S89 hq89 => ?_)
              obtain ⟨rfl, hz89⟩ := hq89
              replace hz89 := hz89.symm
              subst hz89
              rw [ha14]
              refine r_ist4 dX3_part_92 (Nat.le_of_ble_eq_true rfl) rfl ?_
              refine r_aload_n dX3_part_94 rfl rfl ?_
              refine r_getR dX3_part_95 lf_X3_9 rfl rfl (shR3_0 h) (shL_12 h) ?_
              refine r_iload dX3_part_98 rfl ?_
              refine r_dup2 dX3_part_100 rfl rfl ?_
              refine r_iald dX3_part_101 rfl (show vp_in _ 12 from vp_in_iff.mpr (by (try simp only [b2i_eq0, b2i_ne0, decide_eq_true_eq] at *); (try simp only [cI, sI_setA, sI_setQ, sI_setR, sA_setI, sA_setR, sA_setQ, fa_lt, fa_le, fa_eq, Int32.reduceToInt] at *); omega)) ?_
              refine r_iconst (v := 1) dX3_part_102 (by decide) ?_
              refine r_iadd dX3_part_103 ?_
              refine r_iast dX3_part_104 rfl (show vp_in _ 12 from vp_in_iff.mpr (by (try simp only [b2i_eq0, b2i_ne0, decide_eq_true_eq] at *); (try simp only [cI, sI_setA, sI_setQ, sI_setR, sA_setI, sA_setR, sA_setQ, fa_lt, fa_le, fa_eq, Int32.reduceToInt] at *); omega)) ?_
              refine r_aload_n dX3_part_105 rfl rfl ?_
              refine r_getR dX3_part_106 lf_X3_18 rfl rfl (shR3_2 h) (shL_14 h) ?_
              refine r_iload dX3_part_109 rfl ?_
              refine r_iconst (v := 0) dX3_part_111 (by decide) ?_
              refine r_iast dX3_part_112 rfl (show vp_in _ 12 from vp_in_iff.mpr (by (try simp only [b2i_eq0, b2i_ne0, decide_eq_true_eq] at *); (try simp only [cI, sI_setA, sI_setQ, sI_setR, sA_setI, sA_setR, sA_setQ, fa_lt, fa_le, fa_eq, Int32.reduceToInt] at *); omega)) ?_
              refine r_in3 dX3_part_113 (show _ + Int32.ofInt 1 = _ + 1 from rfl) (Nat.le_of_ble_eq_true rfl) rfl ?_
              refine r_goto 77 dX3_part_116 (by decide) ?_
              rw [nI_1, hgc, setA4 _ (by decide)]
              exact ih _ trivial
      · skip
        exact absurd q15 (by (try simp only [b2i_eq0, b2i_ne0, decide_eq_true_eq] at *); (try simp only [cI, sI_setA, sI_setQ, sI_setR, sA_setI, sA_setR, sA_setQ, fa_lt, fa_le, fa_eq, Int32.reduceToInt] at *); omega)
    · intro i a hi hI ih
      have hii : (nI i).toInt = i := nI_toInt (by omega)
      have hic : (nI i).toNatClampNeg = i := nI_clamp (by omega)
      have hs0 : ¬ (sI S (fid 3 3) 11).toInt64 = 0 := hsn
      refine r_iload_n dX3_part_12 rfl rfl ?_
      refine r_bipush (v := 12) dX3_part_13 (by decide) ?_
      refine r_icmp_ge 75 dX3_part_15 (by decide) (fun q15 => ?_) (fun q15 => ?_)
      · skip
        exact absurd q15 (by (try simp only [b2i_eq0, b2i_ne0, decide_eq_true_eq] at *); (try simp only [cI, sI_setA, sI_setQ, sI_setR, sA_setI, sA_setR, sA_setQ, fa_lt, fa_le, fa_eq, Int32.reduceToInt] at *); omega)
      · skip
        refine r_iload_n dX3_part_18 rfl rfl ?_
        refine r_i2l dX3_part_19 ?_
        refine r_aload_n dX3_part_20 rfl rfl ?_
        refine r_getR dX3_part_21 lf_X3_15 rfl rfl (shR3_1 h) (shL_13 h) ?_
        refine r_iload_n dX3_part_24 rfl rfl ?_
        refine r_iald dX3_part_25 rfl (show vp_in _ 12 from vp_in_iff.mpr (by (try simp only [b2i_eq0, b2i_ne0, decide_eq_true_eq] at *); (try simp only [cI, sI_setA, sI_setQ, sI_setR, sA_setI, sA_setR, sA_setQ, fa_lt, fa_le, fa_eq, Int32.reduceToInt] at *); omega)) ?_
        refine r_i2l dX3_part_26 ?_
        refine r_lmul dX3_part_27 ?_
        refine r_lst4 dX3_part_28 (Nat.le_of_ble_eq_true rfl) rfl ?_
        refine r_aload_n dX3_part_30 rfl rfl ?_
        refine r_getR dX3_part_31 lf_X3_9 rfl rfl (shR3_0 h) (shL_12 h) ?_
        refine r_iload_n dX3_part_34 rfl rfl ?_
        refine r_lload dX3_part_35 rfl ?_
        refine r_aload_n dX3_part_37 rfl rfl ?_
        refine r_getI dX3_part_38 lf_X3_21 rfl rfl ?_
        refine r_i2l dX3_part_41 ?_
        refine r_ldiv dX3_part_42 hs0 ?_
        refine r_l2i dX3_part_43 ?_
        refine r_iast dX3_part_44 rfl (show vp_in _ 12 from vp_in_iff.mpr (by (try simp only [b2i_eq0, b2i_ne0, decide_eq_true_eq] at *); (try simp only [cI, sI_setA, sI_setQ, sI_setR, sA_setI, sA_setR, sA_setQ, fa_lt, fa_le, fa_eq, Int32.reduceToInt] at *); omega)) ?_
        refine r_aload_n dX3_part_45 rfl rfl ?_
        refine r_getR dX3_part_46 lf_X3_18 rfl rfl (shR3_2 h) (shL_14 h) ?_
        refine r_iload_n dX3_part_49 rfl rfl ?_
        refine r_lload dX3_part_50 rfl ?_
        refine r_aload_n dX3_part_52 rfl rfl ?_
        refine r_getI dX3_part_53 lf_X3_21 rfl rfl ?_
        refine r_i2l dX3_part_56 ?_
        refine r_lrem dX3_part_57 hs0 ?_
        refine r_l2i dX3_part_58 ?_
        refine r_iast dX3_part_59 rfl (show vp_in _ 12 from vp_in_iff.mpr (by (try simp only [b2i_eq0, b2i_ne0, decide_eq_true_eq] at *); (try simp only [cI, sI_setA, sI_setQ, sI_setR, sA_setI, sA_setR, sA_setQ, fa_lt, fa_le, fa_eq, Int32.reduceToInt] at *); omega)) ?_
        refine r_iload_n dX3_part_60 rfl rfl ?_
        refine r_aload_n dX3_part_61 rfl rfl ?_
        refine r_getR dX3_part_62 lf_X3_9 rfl rfl (shR3_0 h) (shL_12 h) ?_
        refine r_iload_n dX3_part_65 rfl rfl ?_
        refine r_iald dX3_part_66 rfl (show vp_in _ 12 from vp_in_iff.mpr (by (try simp only [b2i_eq0, b2i_ne0, decide_eq_true_eq] at *); (try simp only [cI, sI_setA, sI_setQ, sI_setR, sA_setI, sA_setR, sA_setQ, fa_lt, fa_le, fa_eq, Int32.reduceToInt] at *); omega)) ?_
        refine r_isub dX3_part_67 ?_
        refine r_ist2 dX3_part_68 (Nat.le_of_ble_eq_true rfl) rfl ?_
        refine r_in3 dX3_part_69 (show _ + Int32.ofInt 1 = _ + 1 from rfl) (Nat.le_of_ble_eq_true rfl) rfl ?_
        refine r_goto 12 dX3_part_72 (by decide) ?_
        rw [nI_1, hic, setA4 _ (by decide)]
        refine R.heap (show setA (setA S 12 (upd (fillR (fun j => pq n (sA S 13 j) (sI S (fid 3 3) 11)) (sA S 12) i) i (pq n (sA S 13 i) (sI S (fid 3 3) 11)))) 14 (upd (fillR (fun j => pr n (sA S 13 j) (sI S (fid 3 3) 11)) (sA S 14) i) i (pr n (sA S 13 i) (sI S (fid 3 3) 11))) = (setA (setA S 12 (fillR (fun j => pq n (sA S 13 j) (sI S (fid 3 3) 11)) (sA S 12) (i + 1))) 14 (fillR (fun j => pr n (sA S 13 j) (sI S (fid 3 3) 11)) (sA S 14) (i + 1))) from rfl) ?_
        have h9 := ih (some (.long (n.toInt64 * (sA S 13 i).toInt64))) (by cases okp (some (Value.long (n.toInt64 * (sA S 13 i).toInt64))) <;> simp)
        change R l G cy yX3_part cX3_part 6 none 1 0 0 _ 12 [some (.ref 11), some (.int n), some (.int (lfN n (fun j => pq n (sA S 13 j) (sI S (fid 3 3) 11)) i - upd (fillR (fun j => pq n (sA S 13 j) (sI S (fid 3 3) 11)) (sA S 12) i) i (pq n (sA S 13 i) (sI S (fid 3 3) 11)) i)), some (.int (nI (i + 1))), some (.long (n.toInt64 * (sA S 13 i).toInt64)), none] [] _ 0 0
        rw [show upd (fillR (fun j => pq n (sA S 13 j) (sI S (fid 3 3) 11)) (sA S 12) i) i (pq n (sA S 13 i) (sI S (fid 3 3) 11)) i = pq n (sA S 13 i) (sI S (fid 3 3) 11) from pk_us]
        exact h9
  · skip
    exact r_vret dX3_part_7 rfl (Nat.zero_le _) (Nat.zero_le _) ⟨rfl, (if_neg (by (try simp only [b2i_eq0, b2i_ne0, decide_eq_true_eq] at *); (try simp only [cI, sI_setA, sI_setQ, sI_setR, sA_setI, sA_setR, sA_setQ, fa_lt, fa_le, fa_eq, Int32.reduceToInt] at *); omega)).symm⟩
