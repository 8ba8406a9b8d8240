/-! ===== the system: settle ===== -/
/-- the parting's own rows, set -/
def scr (S : HS) (x : Int32) (a b c : Nat → Int32) : HS := setA (setA (setA (setI S (fid 3 3) 11 x) 13 a) 12 b) 14 c
theorem scr_self (S : HS) : S = scr S (sI S (fid 3 3) 11) (sA S 13) (sA S 12) (sA S 14) := by
  refine HS_ext rfl ?_ rfl ?_ rfl
  · funext f a
    simp only [scr, sI_setA, sI_setI, up2]
    split
    · rename_i h; rw [h.1, h.2]
    · rfl
  · funext t
    simp only [scr, sA_setA, sA_setI, va_up]
    by_cases h1 : t = 14
    · simp [h1]
    · by_cases h2 : t = 12
      · simp [h2]
      · by_cases h3 : t = 13 <;> simp [h1, h2, h3]
theorem scr_clear (S : HS) (x y : Int32) (a b c r1 r2 : Nat → Int32) : setA (setA (setI (scr S x a b c) (fid 3 3) 11 y) 13 r1) 12 r2 = scr S y r1 r2 c := by
  refine HS_ext rfl ?_ rfl ?_ rfl
  · funext f q
    simp only [scr, sI_setA, sI_setI, up2]
    split <;> simp_all
  · funext t
    simp only [scr, sA_setA, sA_setI, va_up]
    by_cases h1 : t = 14
    · simp [h1]
    · by_cases h2 : t = 12
      · simp [h2]
      · by_cases h3 : t = 13 <;> simp [h1, h2, h3]
theorem scr_add (S : HS) (x y : Int32) (a b c r1 : Nat → Int32) : setI (setA (scr S x a b c) 13 r1) (fid 3 3) 11 y = scr S y r1 b c := by
  refine HS_ext rfl ?_ rfl ?_ rfl
  · funext f q
    simp only [scr, sI_setA, sI_setI, up2]
    split <;> simp_all
  · funext t
    simp only [scr, sA_setA, sA_setI, va_up]
    by_cases h1 : t = 14
    · simp [h1]
    · by_cases h2 : t = 12
      · simp [h2]
      · by_cases h3 : t = 13 <;> simp [h1, h2, h3]
theorem scr_part (S : HS) (x : Int32) (a b c r2 r3 : Nat → Int32) : setA (setA (scr S x a b c) 12 r2) 14 r3 = scr S x a r2 r3 := by
  refine HS_ext (by simp only [scr, sL_setA, sL_setI]) (by simp only [scr, sI_setA, sI_setI]) (by simp only [scr, sR_setA, sR_setI]) ?_ (by simp only [scr, sQ_setA, sQ_setI])
  funext t
  simp only [scr, sA_setA, sA_setI, va_up]
  by_cases h1 : t = 14
  · simp [h1]
  · by_cases h2 : t = 12
    · simp [h2]
    · by_cases h3 : t = 13 <;> simp [h1, h2, h3]
theorem scr_A {S : HS} {x : Int32} {a b c : Nat → Int32} {t : Nat} (h : t ≠ 12 ∧ t ≠ 13 ∧ t ≠ 14) : sA (scr S x a b c) t = sA S t := by
  simp [scr, sA_setA, sA_setI, va_up, h.1, h.2.1, h.2.2]
def parP (n s : Int32) (m b c : Nat → Int32) : Nat → Int32 := if 0 < s.toInt then (itR (fillR (fun j => pq n (m j) s) b 12, fillR (fun j => pr n (m j) s) c 12) (min (nn (lfN n (fun j => pq n (m j) s) 12)) 12)).1 else b
def parR (n s : Int32) (m b c : Nat → Int32) : Nat → Int32 := if 0 < s.toInt then (itR (fillR (fun j => pq n (m j) s) b 12, fillR (fun j => pr n (m j) s) c 12) (min (nn (lfN n (fun j => pq n (m j) s) 12)) 12)).2 else c
theorem c_scr_clear {l : Launch} {G : va_G} {cy : Nat → ClassId} (S : HS) (x : Int32) (a b c : Nat → Int32) (h : ShF S) : Cn l G cy yX3_clear cX3_clear 2 none 0 [.ref 11] (scr S x a b c) 0 0 (qV (fun S2 => S2 = scr S 0 (fillR (fun _ => 0) a 12) (fillR (fun _ => 0) b 12) c)) := by
  have h0 := c_X3_clear (l := l) (G := G) (cy := cy) (scr S x a b c) h
  rw [scr_clear] at h0
  exact h0
theorem c_scr_add {l : Launch} {G : va_G} {cy : Nat → ClassId} (S : HS) (i m x : Int32) (a b c : Nat → Int32) (h : ShF S) (hi : 0 ≤ i.toInt ∧ i.toInt < 12) : Cn l G cy yX3_addMeasure cX3_addMeasure 3 none 0 [.ref 11, .int i, .int m] (scr S x a b c) 0 0 (qV (fun S2 => S2 = scr S (x + m) (upd a i.toNatClampNeg m) b c)) := by
  have h0 := c_X3_addMeasure (l := l) (G := G) (cy := cy) i m (scr S x a b c) h
  simp only [if_pos hi, scr_add] at h0
  exact h0
theorem c_scr_part {l : Launch} {G : va_G} {cy : Nat → ClassId} (S : HS) (n x : Int32) (a b c : Nat → Int32) (h : ShF S) : Cn l G cy yX3_part cX3_part 6 none 1 [.ref 11, .int n] (scr S x a b c) 0 0 (qV (fun S2 => S2 = scr S x a (parP n x a b c) (parR n x a b c))) := by
  have h0 := c_X3_part (l := l) (G := G) (cy := cy) n (scr S x a b c) h
  unfold parP parR
  by_cases hc : 0 < x.toInt
  · simp only [if_pos hc]
    rw [scr_part] at h0
    simp only [show sI (scr S x a b c) (fid 3 3) 11 = x from rfl, if_pos hc] at h0
    exact h0
  · simp only [if_neg hc]
    simp only [show sI (scr S x a b c) (fid 3 3) 11 = x from rfl, if_neg hc] at h0
    exact h0
theorem fillR_out {g old : Nat → Int32} : ∀ {n j : Nat}, n ≤ j → fillR g old n j = old j
  | 0, j, h => rfl
  | n + 1, j, h => by
    show upd (fillR g old n) n (g n) j = old j
    rw [pk_un (by omega)]
    exact fillR_out (by omega)
set_option maxHeartbeats 4000000 in
theorem c_X8_settle {l : Launch} {G : va_G} {cy : Nat → ClassId} (bt : Int32) (S : HS) (h : ShC S) : Cn l G cy yX8_settle cX8_settle 5 (some .int) 2 [.ref 0, .int bt] S 0 0 (qI (fun r S2 => (r = if (0 ≤ bt.toInt ∧ bt.toInt < (cI S 9).toInt ∧ ¬ sI S (fid 0 6) (100 + 3 * nn bt) = 0 ∧ ¬ l_sum (sA S (101 + 3 * nn bt)) 8 = 0) then sI S (fid 0 6) (100 + 3 * nn bt) else -1) ∧ ∃ x m b c, S2 = if (0 ≤ bt.toInt ∧ bt.toInt < (cI S 9).toInt ∧ ¬ sI S (fid 0 6) (100 + 3 * nn bt) = 0 ∧ ¬ l_sum (sA S (101 + 3 * nn bt)) 8 = 0) then setI (setA (scr S x m b c) (102 + 3 * nn bt) (fillR (fun j => (sA S (102 + 3 * nn bt)) j + (parP (sI S (fid 0 6) (100 + 3 * nn bt)) (l_sum (sA S (101 + 3 * nn bt)) 8) (fillR (sA S (101 + 3 * nn bt)) (fillR (fun _ => 0) (sA S 13) 12) 8) (fillR (fun _ => 0) (sA S 12) 12) (sA S 14)) j) (sA S (102 + 3 * nn bt)) 8)) (fid 0 6) (100 + 3 * nn bt) 0 else scr S x m b c)) := by
  refine Cn.of [some (.ref 0), some (.int bt), none, none, none] (by decide) rfl (Nat.le_of_ble_eq_true rfl) ?_
  refine r_aload_n dX8_settle_0 rfl rfl ?_
  refine r_iload_n dX8_settle_1 rfl rfl ?_
  refine r_invV1r dX8_settle_2 lm_X8_95 rfl (c_X8_boatAt _ _ h) (Nat.le_of_ble_eq_true rfl) (Nat.le_of_ble_eq_true rfl) (Nat.zero_le _) (Nat.zero_le _) (fun r2 S2 hq2 => ?_)
  obtain ⟨rfl, hz2⟩ := hq2
  replace hz2 := hz2.symm
  subst hz2
  by_cases hc2 : 0 ≤ bt.toInt ∧ bt.toInt < (cI S 9).toInt
  · rw [if_pos (α := Option Nat) hc2]
    have hbb := h.b
    have hlt : nn bt < 12 := by unfold nn; omega
    have hlb : nn bt < nn (cI S 9) := by unfold nn; omega
    have hkb := tkB hlt
    have hkp := tkBp hlt
    have hkg := tkBg hlt
    have hnp := tnBp hlt
    have hng := tnBg hlt
    have hr0 := (h.rB hlb).2.1
    have hr1 := (h.rB hlb).2.2
    have hl1 := h.lB hlb (j := 1) (by decide)
    have hl2 := h.lB hlb (j := 2) (by decide)
    refine r_ast2 dX8_settle_5 (Nat.le_of_ble_eq_true rfl) rfl ?_
    refine r_aload_n dX8_settle_6 rfl rfl ?_
    refine r_ifnull dX8_settle_7 ?_
    refine r_aload_n dX8_settle_10 rfl rfl ?_
    refine r_getI dX8_settle_11 lf_X8_177 rfl (by first | assumption | rfl) ?_
    change R l G cy yX8_settle cX8_settle 5 (some .int) 2 0 0 _ 14 _ [.int (sI S (fid 0 6) (100 + 3 * nn bt))] _ 0 0
    refine r_if_ne 19 dX8_settle_14 (by decide) (fun q14 => ?_) (fun q14 => ?_)
    · skip
      refine R.heap (scr_self S) ?_
      refine r_aload_n dX8_settle_19 rfl rfl ?_
      refine r_getR dX8_settle_20 lf_X8_48 rfl rfl (shR8_6 h.F) (shL_11 h.F) ?_
      refine r_invV0v dX8_settle_23 lm_X8_180 rfl (c_scr_clear S _ _ _ _ h.F) (Nat.le_of_ble_eq_true rfl) (Nat.le_of_ble_eq_true rfl) (Nat.zero_le _) (Nat.zero_le _) (fun S23 hq23 => ?_)
      replace hq23 := hq23.symm
      subst hq23
      refine r_iconst (v := 0) dX8_settle_26 (by decide) ?_
      refine r_ist3 dX8_settle_27 (Nat.le_of_ble_eq_true rfl) rfl ?_
      refine R.for (α := Unit) (8) (fun i a => [some (.ref 0), some (.int bt), some (.ref (100 + 3 * nn bt)), some (.int (nI i)), none]) (fun i a => (scr S (l_sum (sA S (101 + 3 * nn bt)) i) (fillR (sA S (101 + 3 * nn bt)) (fillR (fun _ => 0) (sA S 13) 12) i) (fillR (fun _ => 0) (sA S 12) 12) (sA S 14))) (fun i a => True) ?_ ?_ 0 () (Nat.zero_le _) trivial
      · intro a hI
        have hii : (nI 8).toInt = (8 : Nat) := nI_toInt (by omega)
        refine r_iload_n dX8_settle_28 rfl rfl ?_
        refine r_bipush (v := 8) dX8_settle_29 (by decide) ?_
        refine r_icmp_ge 54 dX8_settle_31 (by decide) (fun q31 => ?_) (fun q31 => ?_)
        · skip
          refine r_aload_n dX8_settle_54 rfl rfl ?_
          refine r_getR dX8_settle_55 lf_X8_48 rfl rfl (shR8_6 h.F) (shL_11 h.F) ?_
          refine r_getI dX8_settle_58 lf_X8_186 rfl rfl ?_
          change R l G cy yX8_settle cX8_settle 5 (some .int) 2 0 0 _ 61 _ [.int (l_sum (sA S (101 + 3 * nn bt)) 8)] _ 0 0
          refine r_if_ne 66 dX8_settle_61 (by decide) (fun q61 => ?_) (fun q61 => ?_)
          · skip
            refine r_aload_n dX8_settle_66 rfl rfl ?_
            refine r_getI dX8_settle_67 lf_X8_177 rfl (by first | assumption | rfl) ?_
            change R l G cy yX8_settle cX8_settle 5 (some .int) 2 0 0 _ 70 _ [.int (sI S (fid 0 6) (100 + 3 * nn bt))] _ 0 0
            refine r_ist3 dX8_settle_70 (Nat.le_of_ble_eq_true rfl) rfl ?_
            refine r_aload_n dX8_settle_71 rfl rfl ?_
            refine r_getR dX8_settle_72 lf_X8_48 rfl rfl (shR8_6 h.F) (shL_11 h.F) ?_
            refine r_iload_n dX8_settle_75 rfl rfl ?_
            refine r_invV1v dX8_settle_76 lm_X8_189 rfl (c_scr_part S _ _ _ _ _ h.F) (Nat.le_of_ble_eq_true rfl) (Nat.le_of_ble_eq_true rfl) (Nat.zero_le _) (Nat.zero_le _) (fun S76 hq76 => ?_)
            replace hq76 := hq76.symm
            subst hq76
            refine R.heap (show (scr S (l_sum (sA S (101 + 3 * nn bt)) 8) (fillR (sA S (101 + 3 * nn bt)) (fillR (fun _ => 0) (sA S 13) 12) 8) (parP (sI S (fid 0 6) (100 + 3 * nn bt)) (l_sum (sA S (101 + 3 * nn bt)) 8) (fillR (sA S (101 + 3 * nn bt)) (fillR (fun _ => 0) (sA S 13) 12) 8) (fillR (fun _ => 0) (sA S 12) 12) (sA S 14)) (parR (sI S (fid 0 6) (100 + 3 * nn bt)) (l_sum (sA S (101 + 3 * nn bt)) 8) (fillR (sA S (101 + 3 * nn bt)) (fillR (fun _ => 0) (sA S 13) 12) 8) (fillR (fun _ => 0) (sA S 12) 12) (sA S 14))) = (setA (scr S (l_sum (sA S (101 + 3 * nn bt)) 8) (fillR (sA S (101 + 3 * nn bt)) (fillR (fun _ => 0) (sA S 13) 12) 8) (parP (sI S (fid 0 6) (100 + 3 * nn bt)) (l_sum (sA S (101 + 3 * nn bt)) 8) (fillR (sA S (101 + 3 * nn bt)) (fillR (fun _ => 0) (sA S 13) 12) 8) (fillR (fun _ => 0) (sA S 12) 12) (sA S 14)) (parR (sI S (fid 0 6) (100 + 3 * nn bt)) (l_sum (sA S (101 + 3 * nn bt)) 8) (fillR (sA S (101 + 3 * nn bt)) (fillR (fun _ => 0) (sA S 13) 12) 8) (fillR (fun _ => 0) (sA S 12) 12) (sA S 14))) (102 + 3 * nn bt) (fillR (fun j => (sA S (102 + 3 * nn bt)) j + (parP (sI S (fid 0 6) (100 + 3 * nn bt)) (l_sum (sA S (101 + 3 * nn bt)) 8) (fillR (sA S (101 + 3 * nn bt)) (fillR (fun _ => 0) (sA S 13) 12) 8) (fillR (fun _ => 0) (sA S 12) 12) (sA S 14)) j) (sA S (102 + 3 * nn bt)) 0)) from by rw [show fillR (fun j => (sA S (102 + 3 * nn bt)) j + (parP (sI S (fid 0 6) (100 + 3 * nn bt)) (l_sum (sA S (101 + 3 * nn bt)) 8) (fillR (sA S (101 + 3 * nn bt)) (fillR (fun _ => 0) (sA S 13) 12) 8) (fillR (fun _ => 0) (sA S 12) 12) (sA S 14)) j) (sA S (102 + 3 * nn bt)) 0 = sA (scr S (l_sum (sA S (101 + 3 * nn bt)) 8) (fillR (sA S (101 + 3 * nn bt)) (fillR (fun _ => 0) (sA S 13) 12) 8) (parP (sI S (fid 0 6) (100 + 3 * nn bt)) (l_sum (sA S (101 + 3 * nn bt)) 8) (fillR (sA S (101 + 3 * nn bt)) (fillR (fun _ => 0) (sA S 13) 12) 8) (fillR (fun _ => 0) (sA S 12) 12) (sA S 14)) (parR (sI S (fid 0 6) (100 + 3 * nn bt)) (l_sum (sA S (101 + 3 * nn bt)) 8) (fillR (sA S (101 + 3 * nn bt)) (fillR (fun _ => 0) (sA S 13) 12) 8) (fillR (fun _ => 0) (sA S 12) 12) (sA S 14))) (102 + 3 * nn bt) from (scr_A (by omega)).symm, setA_self]) ?_
            refine r_iconst (v := 0) dX8_settle_79 (by decide) ?_
            refine r_ist4 dX8_settle_80 (Nat.le_of_ble_eq_true rfl) rfl ?_
            refine R.for (α := Unit) (8) (fun i a => [some (.ref 0), some (.int bt), some (.ref (100 + 3 * nn bt)), some (.int (sI S (fid 0 6) (100 + 3 * nn bt))), some (.int (nI i))]) (fun i a => (setA (scr S (l_sum (sA S (101 + 3 * nn bt)) 8) (fillR (sA S (101 + 3 * nn bt)) (fillR (fun _ => 0) (sA S 13) 12) 8) (parP (sI S (fid 0 6) (100 + 3 * nn bt)) (l_sum (sA S (101 + 3 * nn bt)) 8) (fillR (sA S (101 + 3 * nn bt)) (fillR (fun _ => 0) (sA S 13) 12) 8) (fillR (fun _ => 0) (sA S 12) 12) (sA S 14)) (parR (sI S (fid 0 6) (100 + 3 * nn bt)) (l_sum (sA S (101 + 3 * nn bt)) 8) (fillR (sA S (101 + 3 * nn bt)) (fillR (fun _ => 0) (sA S 13) 12) 8) (fillR (fun _ => 0) (sA S 12) 12) (sA S 14))) (102 + 3 * nn bt) (fillR (fun j => (sA S (102 + 3 * nn bt)) j + (parP (sI S (fid 0 6) (100 + 3 * nn bt)) (l_sum (sA S (101 + 3 * nn bt)) 8) (fillR (sA S (101 + 3 * nn bt)) (fillR (fun _ => 0) (sA S 13) 12) 8) (fillR (fun _ => 0) (sA S 12) 12) (sA S 14)) j) (sA S (102 + 3 * nn bt)) i))) (fun i a => True) ?_ ?_ 0 () (Nat.zero_le _) trivial
            · intro a hI
              have hii : (nI 8).toInt = (8 : Nat) := nI_toInt (by omega)
              refine r_iload dX8_settle_82 rfl ?_
              refine r_bipush (v := 8) dX8_settle_84 (by decide) ?_
              refine r_icmp_ge 115 dX8_settle_86 (by decide) (fun q86 => ?_) (fun q86 => ?_)
              · skip
                refine r_aload_n dX8_settle_115 rfl rfl ?_
                refine r_iconst (v := 0) dX8_settle_116 (by decide) ?_
                refine r_putI dX8_settle_117 (lp_X8_177 _) rfl (by first | assumption | rfl) ?_
                refine r_iload_n dX8_settle_120 rfl rfl ?_
                exact r_iret dX8_settle_121 rfl (Nat.zero_le _) (Nat.zero_le _) ⟨_, rfl, ⟨(if_pos ⟨hc2.1, hc2.2, q14, q61⟩).symm, _, _, _, _, (if_pos ⟨hc2.1, hc2.2, q14, q61⟩).symm⟩⟩
              · skip
                exact absurd q86 (by (try simp only [b2i_eq0, b2i_ne0, decide_eq_true_eq] at *); (try simp only [cI, sI_setA, sI_setQ, sI_setR, sA_setI, sA_setR, sA_setQ, fa_lt, fa_le, fa_eq, Int32.reduceToInt] at *); omega)
            · intro i a hi hI ih
              have hii : (nI i).toInt = i := nI_toInt (by omega)
              have hic : (nI i).toNatClampNeg = i := nI_clamp (by omega)
              have hg1 : sA (setA (scr S (l_sum (sA S (101 + 3 * nn bt)) 8) (fillR (sA S (101 + 3 * nn bt)) (fillR (fun _ => 0) (sA S 13) 12) 8) (parP (sI S (fid 0 6) (100 + 3 * nn bt)) (l_sum (sA S (101 + 3 * nn bt)) 8) (fillR (sA S (101 + 3 * nn bt)) (fillR (fun _ => 0) (sA S 13) 12) 8) (fillR (fun _ => 0) (sA S 12) 12) (sA S 14)) (parR (sI S (fid 0 6) (100 + 3 * nn bt)) (l_sum (sA S (101 + 3 * nn bt)) 8) (fillR (sA S (101 + 3 * nn bt)) (fillR (fun _ => 0) (sA S 13) 12) 8) (fillR (fun _ => 0) (sA S 12) 12) (sA S 14))) (102 + 3 * nn bt) (fillR (fun j => (sA S (102 + 3 * nn bt)) j + (parP (sI S (fid 0 6) (100 + 3 * nn bt)) (l_sum (sA S (101 + 3 * nn bt)) 8) (fillR (sA S (101 + 3 * nn bt)) (fillR (fun _ => 0) (sA S 13) 12) 8) (fillR (fun _ => 0) (sA S 12) 12) (sA S 14)) j) (sA S (102 + 3 * nn bt)) i)) (102 + 3 * nn bt) = fillR (fun j => (sA S (102 + 3 * nn bt)) j + (parP (sI S (fid 0 6) (100 + 3 * nn bt)) (l_sum (sA S (101 + 3 * nn bt)) 8) (fillR (sA S (101 + 3 * nn bt)) (fillR (fun _ => 0) (sA S 13) 12) 8) (fillR (fun _ => 0) (sA S 12) 12) (sA S 14)) j) (sA S (102 + 3 * nn bt)) i := by rw [sA_setA, va_up_self]
              have hg2 : sA (setA (scr S (l_sum (sA S (101 + 3 * nn bt)) 8) (fillR (sA S (101 + 3 * nn bt)) (fillR (fun _ => 0) (sA S 13) 12) 8) (parP (sI S (fid 0 6) (100 + 3 * nn bt)) (l_sum (sA S (101 + 3 * nn bt)) 8) (fillR (sA S (101 + 3 * nn bt)) (fillR (fun _ => 0) (sA S 13) 12) 8) (fillR (fun _ => 0) (sA S 12) 12) (sA S 14)) (parR (sI S (fid 0 6) (100 + 3 * nn bt)) (l_sum (sA S (101 + 3 * nn bt)) 8) (fillR (sA S (101 + 3 * nn bt)) (fillR (fun _ => 0) (sA S 13) 12) 8) (fillR (fun _ => 0) (sA S 12) 12) (sA S 14))) (102 + 3 * nn bt) (fillR (fun j => (sA S (102 + 3 * nn bt)) j + (parP (sI S (fid 0 6) (100 + 3 * nn bt)) (l_sum (sA S (101 + 3 * nn bt)) 8) (fillR (sA S (101 + 3 * nn bt)) (fillR (fun _ => 0) (sA S 13) 12) 8) (fillR (fun _ => 0) (sA S 12) 12) (sA S 14)) j) (sA S (102 + 3 * nn bt)) i)) 12 = (parP (sI S (fid 0 6) (100 + 3 * nn bt)) (l_sum (sA S (101 + 3 * nn bt)) 8) (fillR (sA S (101 + 3 * nn bt)) (fillR (fun _ => 0) (sA S 13) 12) 8) (fillR (fun _ => 0) (sA S 12) 12) (sA S 14)) := by rw [sA_setA, va_up_ne _ _ (by omega)]; rfl
              refine r_iload dX8_settle_82 rfl ?_
              refine r_bipush (v := 8) dX8_settle_84 (by decide) ?_
              refine r_icmp_ge 115 dX8_settle_86 (by decide) (fun q86 => ?_) (fun q86 => ?_)
              · skip
                exact absurd q86 (by (try simp only [b2i_eq0, b2i_ne0, decide_eq_true_eq] at *); (try simp only [cI, sI_setA, sI_setQ, sI_setR, sA_setI, sA_setR, sA_setQ, fa_lt, fa_le, fa_eq, Int32.reduceToInt] at *); omega)
              · skip
                refine r_aload_n dX8_settle_89 rfl rfl ?_
                refine r_getR dX8_settle_90 lf_X8_192 rfl (by first | assumption | rfl) hr1 hl2 ?_
                refine r_iload dX8_settle_93 rfl ?_
                refine r_dup2 dX8_settle_95 rfl rfl ?_
                refine r_iald dX8_settle_96 hkg (vq_cast hng (vp_in_iff.mpr (by (try simp only [b2i_eq0, b2i_ne0, decide_eq_true_eq] at *); (try simp only [cI, sI_setA, sI_setQ, sI_setR, sA_setI, sA_setR, sA_setQ, fa_lt, fa_le, fa_eq, Int32.reduceToInt] at *); omega))) ?_
                refine r_aload_n dX8_settle_97 rfl rfl ?_
                refine r_getR dX8_settle_98 lf_X8_48 rfl rfl (shR8_6 h.F) (shL_11 h.F) ?_
                refine r_getR dX8_settle_101 lf_X8_195 rfl rfl (shR3_0 h.F) (shL_12 h.F) ?_
                refine r_iload dX8_settle_104 rfl ?_
                refine r_iald dX8_settle_106 rfl (show vp_in _ 12 from vp_in_iff.mpr (by (try simp only [b2i_eq0, b2i_ne0, decide_eq_true_eq] at *); (try simp only [cI, sI_setA, sI_setQ, sI_setR, sA_setI, sA_setR, sA_setQ, fa_lt, fa_le, fa_eq, Int32.reduceToInt] at *); omega)) ?_
                refine r_iadd dX8_settle_107 ?_
                refine r_iast dX8_settle_108 hkg (vq_cast hng (vp_in_iff.mpr (by (try simp only [b2i_eq0, b2i_ne0, decide_eq_true_eq] at *); (try simp only [cI, sI_setA, sI_setQ, sI_setR, sA_setI, sA_setR, sA_setQ, fa_lt, fa_le, fa_eq, Int32.reduceToInt] at *); omega))) ?_
                refine r_in4 dX8_settle_109 (show _ + Int32.ofInt 1 = _ + 1 from rfl) (Nat.le_of_ble_eq_true rfl) rfl ?_
                refine r_goto 82 dX8_settle_112 (by decide) ?_
                rw [nI_1, hg1, hg2, hic, setA_setA, show fillR (fun j => (sA S (102 + 3 * nn bt)) j + (parP (sI S (fid 0 6) (100 + 3 * nn bt)) (l_sum (sA S (101 + 3 * nn bt)) 8) (fillR (sA S (101 + 3 * nn bt)) (fillR (fun _ => 0) (sA S 13) 12) 8) (fillR (fun _ => 0) (sA S 12) 12) (sA S 14)) j) (sA S (102 + 3 * nn bt)) i i = (sA S (102 + 3 * nn bt)) i from fillR_out (Nat.le_refl i)]
                exact ih () trivial
          · skip
            refine r_iconst (v := (-1)) dX8_settle_64 (by decide) ?_
            exact r_iret dX8_settle_65 rfl (Nat.zero_le _) (Nat.zero_le _) ⟨_, rfl, ⟨(if_neg (by rintro ⟨q1, q2, q3, q4⟩; exact q4 q61)).symm, _, _, _, _, by rw [if_neg (by rintro ⟨q1, q2, q3, q4⟩; exact q4 q61)]; first | done | rfl | exact scr_self S⟩⟩
        · skip
          exact absurd q31 (by (try simp only [b2i_eq0, b2i_ne0, decide_eq_true_eq] at *); (try simp only [cI, sI_setA, sI_setQ, sI_setR, sA_setI, sA_setR, sA_setQ, fa_lt, fa_le, fa_eq, Int32.reduceToInt] at *); omega)
      · intro i a hi hI ih
        have hii : (nI i).toInt = i := nI_toInt (by omega)
        have hic : (nI i).toNatClampNeg = i := nI_clamp (by omega)
        have hpt : sA (scr S (l_sum (sA S (101 + 3 * nn bt)) i) (fillR (sA S (101 + 3 * nn bt)) (fillR (fun _ => 0) (sA S 13) 12) i) (fillR (fun _ => 0) (sA S 12) 12) (sA S 14)) (101 + 3 * nn bt) = (sA S (101 + 3 * nn bt)) := scr_A (by omega)
        refine r_iload_n dX8_settle_28 rfl rfl ?_
        refine r_bipush (v := 8) dX8_settle_29 (by decide) ?_
        refine r_icmp_ge 54 dX8_settle_31 (by decide) (fun q31 => ?_) (fun q31 => ?_)
        · skip
          exact absurd q31 (by (try simp only [b2i_eq0, b2i_ne0, decide_eq_true_eq] at *); (try simp only [cI, sI_setA, sI_setQ, sI_setR, sA_setI, sA_setR, sA_setQ, fa_lt, fa_le, fa_eq, Int32.reduceToInt] at *); omega)
        · skip
          refine r_aload_n dX8_settle_34 rfl rfl ?_
          refine r_getR dX8_settle_35 lf_X8_48 rfl rfl (shR8_6 h.F) (shL_11 h.F) ?_
          refine r_iload_n dX8_settle_38 rfl rfl ?_
          refine r_aload_n dX8_settle_39 rfl rfl ?_
          refine r_getR dX8_settle_40 lf_X8_174 rfl (by first | assumption | rfl) hr0 hl1 ?_
          refine r_iload_n dX8_settle_43 rfl rfl ?_
          refine r_iald dX8_settle_44 hkp (vq_cast hnp (vp_in_iff.mpr (by (try simp only [b2i_eq0, b2i_ne0, decide_eq_true_eq] at *); (try simp only [cI, sI_setA, sI_setQ, sI_setR, sA_setI, sA_setR, sA_setQ, fa_lt, fa_le, fa_eq, Int32.reduceToInt] at *); omega))) ?_
          rw [hpt, hic]
          refine r_invV2v dX8_settle_45 lm_X8_183 rfl (c_scr_add S _ _ _ _ _ _ h.F (by (try simp only [b2i_eq0, b2i_ne0, decide_eq_true_eq] at *); (try simp only [cI, sI_setA, sI_setQ, sI_setR, sA_setI, sA_setR, sA_setQ, fa_lt, fa_le, fa_eq, Int32.reduceToInt] at *); omega)) (Nat.le_of_ble_eq_true rfl) (Nat.le_of_ble_eq_true rfl) (Nat.zero_le _) (Nat.zero_le _) (fun S45 hq45 => ?_)
          replace hq45 := hq45.symm
          subst hq45
          rw [hic]
          refine r_in3 dX8_settle_48 (show _ + Int32.ofInt 1 = _ + 1 from rfl) (Nat.le_of_ble_eq_true rfl) rfl ?_
          refine r_goto 28 dX8_settle_51 (by decide) ?_
          rw [nI_1]
          exact ih () trivial
    · skip
      refine r_iconst (v := (-1)) dX8_settle_17 (by decide) ?_
      exact r_iret dX8_settle_18 rfl (Nat.zero_le _) (Nat.zero_le _) ⟨_, rfl, by first | exact ⟨(if_neg (by rintro ⟨q1, q2, q3, q4⟩; exact hc2 ⟨q1, q2⟩)).symm, _, _, _, _, by rw [if_neg (by rintro ⟨q1, q2, q3, q4⟩; exact hc2 ⟨q1, q2⟩)]; first | done | rfl | exact scr_self S⟩ | exact ⟨(if_neg (by rintro ⟨q1, q2, q3, q4⟩; exact q3 q14)).symm, _, _, _, _, by rw [if_neg (by rintro ⟨q1, q2, q3, q4⟩; exact q3 q14)]; first | done | rfl | exact scr_self S⟩⟩
  · rw [if_neg (α := Option Nat) hc2]
    have hbb := h.b
    refine r_ast2N dX8_settle_5 (Nat.le_of_ble_eq_true rfl) rfl ?_
    refine r_aload_nN dX8_settle_6 rfl rfl ?_
    refine r_ifnullN 17 dX8_settle_7 (by decide) ?_
    refine r_iconst (v := (-1)) dX8_settle_17 (by decide) ?_
    exact r_iret dX8_settle_18 rfl (Nat.zero_le _) (Nat.zero_le _) ⟨_, rfl, by first | exact ⟨(if_neg (by rintro ⟨q1, q2, q3, q4⟩; exact hc2 ⟨q1, q2⟩)).symm, _, _, _, _, by rw [if_neg (by rintro ⟨q1, q2, q3, q4⟩; exact hc2 ⟨q1, q2⟩)]; first | done | rfl | exact scr_self S⟩ | exact ⟨(if_neg (by rintro ⟨q1, q2, q3, q4⟩; exact q3 q14)).symm, _, _, _, _, by rw [if_neg (by rintro ⟨q1, q2, q3, q4⟩; exact q3 q14)]; first | done | rfl | exact scr_self S⟩⟩
