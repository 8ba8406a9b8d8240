/-! ===== the system: hauls ===== -/
/-- the sum and the row of measures when i boats are asked for a cell -/
def hM (S : HS) (c : Int32) : Nat → Int32 × (Nat → Int32)
  | 0 => (0, fillR (fun _ => 0) (sA S 13) 12)
  | i + 1 => if (sI S (fid 0 3) (100 + 3 * i)).toInt = c.toInt then ((hM S c i).1 + sI S (fid 0 2) (100 + 3 * i), upd (hM S c i).2 i (sI S (fid 0 2) (100 + 3 * i))) else hM S c i
def hT (S : HS) (c : Int32) : Int32 := if sA S 2 c.toNatClampNeg < 2 * (hM S c (nn (cI S 9))).1 then sA S 2 c.toNatClampNeg else 2 * (hM S c (nn (cI S 9))).1
def hP (S : HS) (c : Int32) : Nat → Int32 := parP (hT S c) (hM S c (nn (cI S 9))).1 (hM S c (nn (cI S 9))).2 (fillR (fun _ => 0) (sA S 12) 12) (sA S 14)
def hR (S : HS) (c : Int32) : Nat → Int32 := parR (hT S c) (hM S c (nn (cI S 9))).1 (hM S c (nn (cI S 9))).2 (fillR (fun _ => 0) (sA S 12) 12) (sA S 14)
/-- i boats take in their portions -/
def tkS (S : HS) (P : Nat → Int32) : Nat → HS
  | 0 => S
  | i + 1 => setI (setI (tkS S P i) (fid 0 5) (100 + 3 * i) (sI (tkS S P i) (fid 0 5) (100 + 3 * i) + P i)) (fid 0 4) (100 + 3 * i) (sI (tkS S P i) (fid 0 4) (100 + 3 * i) + P i)
theorem tkS_sh {S : HS} {P : Nat → Int32} (h : ShC S) : ∀ i, ShC (tkS S P i)
  | 0 => h
  | i + 1 => ((tkS_sh h i).setI (by decide)).setI (by decide)
theorem tkS_A {S : HS} {P : Nat → Int32} : ∀ i, sA (tkS S P i) = sA S
  | 0 => rfl
  | i + 1 => tkS_A i
theorem tkS_I {S : HS} {P : Nat → Int32} {f : Nat} (hf : 64 ≤ f) (a : Nat) : ∀ i, sI (tkS S P i) f a = sI S f a
  | 0 => rfl
  | i + 1 => by
    show up2 (up2 (sI (tkS S P i)) _ _ _) _ _ _ f a = _
    unfold up2
    rw [if_neg (by unfold fid; omega), if_neg (by unfold fid; omega)]
    exact tkS_I hf a i
def haulS (S : HS) (c : Int32) : HS := if hT S c = 0 then scr S (hM S c (nn (cI S 9))).1 (hM S c (nn (cI S 9))).2 (fillR (fun _ => 0) (sA S 12) 12) (sA S 14) else setA (tkS (scr S (hM S c (nn (cI S 9))).1 (hM S c (nn (cI S 9))).2 (hP S c) (hR S c)) (hP S c) (nn (cI S 9))) 2 (upd (sA S 2) c.toNatClampNeg (sA S 2 c.toNatClampNeg - hT S c))
theorem haulS_sh {S : HS} {c : Int32} (h : ShC S) : ShC (haulS S c) := by
  unfold haulS
  split
  · exact h.scr
  · exact (tkS_sh h.scr _).setA
theorem haulS_I {S : HS} {c : Int32} {f : Nat} (hf : 512 ≤ f) (a : Nat) : sI (haulS S c) f a = sI S f a := by
  have e : ∀ x m b r, sI (scr S x m b r) f a = sI S f a := fun x m b r => by
    show up2 (sI S) _ _ _ f a = _
    unfold up2
    rw [if_neg (by unfold fid; omega)]
  unfold haulS
  split
  · exact e _ _ _ _
  · exact (tkS_I (by omega) a _).trans (e _ _ _ _)
/-- the heap and what is taken when i cells are done -/
def heS (g : Int32) (S : HS) : Nat → HS × Int32
  | 0 => (S, 0)
  | i + 1 => if ¬ g.toInt = 0 ∧ (0 ≤ (nI i).toInt ∧ (nI i).toInt < 36) ∧ ¬ (sA (heS g S i).1 3 (nI i).toNatClampNeg).toInt = 0 then heS g S i else (haulS (heS g S i).1 (nI i), (heS g S i).2 + hT (heS g S i).1 (nI i))
theorem heS_sh {g : Int32} {S : HS} (h : ShC S) : ∀ i, ShC (heS g S i).1
  | 0 => h
  | i + 1 => by
    have ih := heS_sh (g := g) h i
    show ShC (if _ then _ else _ : HS × Int32).1
    split
    · exact ih
    · exact haulS_sh ih
set_option maxHeartbeats 4000000 in
theorem c_X8_haulIn {l : Launch} {G : va_G} {cy : Nat → ClassId} (c : Int32) (S : HS) (h : ShC S) (hc : 0 ≤ c.toInt ∧ c.toInt < 36) : Cn l G cy yX8_haulIn cX8_haulIn 5 (some .int) 2 [.ref 0, .int c] S 0 0 (qI (fun r S2 => r = hT S c ∧ S2 = haulS S c)) := by
  refine Cn.of [some (.ref 0), some (.int c), none, none, none] (by decide) rfl (Nat.le_of_ble_eq_true rfl) ?_
  refine R.heap (scr_self S) ?_
  refine r_aload_n dX8_haulIn_0 rfl rfl ?_
  refine r_getR dX8_haulIn_1 lf_X8_48 rfl rfl (shR8_6 h.F) (shL_11 h.F) ?_
  refine r_invV0v dX8_haulIn_4 lm_X8_180 rfl (c_scr_clear S _ _ _ _ h.F) (Nat.le_of_ble_eq_true rfl) (Nat.le_of_ble_eq_true rfl) (Nat.zero_le _) (Nat.zero_le _) (fun S4 hq4 => ?_)
  replace hq4 := hq4.symm
  subst hq4
  refine r_iconst (v := 0) dX8_haulIn_7 (by decide) ?_
  refine r_ist2 dX8_haulIn_8 (Nat.le_of_ble_eq_true rfl) rfl ?_
  refine R.for (α := Option Value) (nn (cI S 9)) (fun i a => [some (.ref 0), some (.int c), some (.int (nI i)), a, none]) (fun i a => (scr S (hM S c i).1 (hM S c i).2 (fillR (fun _ => 0) (sA S 12) 12) (sA S 14))) (fun i a => True) ?_ ?_ 0 none (Nat.zero_le _) trivial
  · intro a hI
    have hbb := h.b
    have hnb := nn_int hbb.1
    have hii : (nI (nn (cI S 9))).toInt = ((nn (cI S 9) : Nat) : Int) := nI_toInt (by omega)
    refine r_iload_n dX8_haulIn_9 rfl rfl ?_
    refine r_aload_n dX8_haulIn_10 rfl rfl ?_
    refine r_getI dX8_haulIn_11 lf_X8_89 rfl rfl ?_
    refine r_icmp_ge 53 dX8_haulIn_14 (by decide) (fun q14 => ?_) (fun q14 => ?_)
    · skip
      refine r_iconst (v := 2) dX8_haulIn_53 (by decide) ?_
      refine r_aload_n dX8_haulIn_54 rfl rfl ?_
      refine r_getR dX8_haulIn_55 lf_X8_48 rfl rfl (shR8_6 h.F) (shL_11 h.F) ?_
      refine r_getI dX8_haulIn_58 lf_X8_186 rfl rfl ?_
      refine r_imul dX8_haulIn_61 ?_
      refine r_aload_n dX8_haulIn_62 rfl rfl ?_
      refine r_getR dX8_haulIn_63 lf_X8_12 rfl rfl (shR8_0 h.F) (shL_1 h.F) ?_
      refine r_getR dX8_haulIn_66 lf_X8_78 rfl rfl (shR4_0 h.F) (shL_2 h.F) ?_
      refine r_iload_n dX8_haulIn_69 rfl rfl ?_
      refine r_iald dX8_haulIn_70 rfl (show vp_in _ 36 from vp_in_iff.mpr (by (try simp only [b2i_eq0, b2i_ne0, decide_eq_true_eq] at *); (try simp only [cI, sI_setA, sI_setQ, sI_setR, sA_setI, sA_setR, sA_setQ, fa_lt, fa_le, fa_eq, Int32.reduceToInt] at *); omega)) ?_
      refine r_mmin dX8_haulIn_71 lm_X8_270 (Nat.le_of_ble_eq_true rfl) (Nat.le_of_ble_eq_true rfl) (Nat.zero_le _) (Nat.zero_le _) ?_
      change R l G cy yX8_haulIn cX8_haulIn 5 (some .int) 2 0 0 _ 74 _ [.int (hT S c)] _ 0 0
      refine r_ist2 dX8_haulIn_74 (Nat.le_of_ble_eq_true rfl) rfl ?_
      refine r_iload_n dX8_haulIn_75 rfl rfl ?_
      refine r_if_ne 81 dX8_haulIn_76 (by decide) (fun q76 => ?_) (fun q76 => ?_)
      · skip
        refine r_aload_n dX8_haulIn_81 rfl rfl ?_
        refine r_getR dX8_haulIn_82 lf_X8_48 rfl rfl (shR8_6 h.F) (shL_11 h.F) ?_
        refine r_iload_n dX8_haulIn_85 rfl rfl ?_
        refine r_invV1v dX8_haulIn_86 lm_X8_189 rfl (c_scr_part S _ _ _ _ _ h.F) (Nat.le_of_ble_eq_true rfl) (Nat.le_of_ble_eq_true rfl) (Nat.zero_le _) (Nat.zero_le _) (fun S86 hq86 => ?_)
        replace hq86 : S86 = (tkS (scr S (hM S c (nn (cI S 9))).1 (hM S c (nn (cI S 9))).2 (hP S c) (hR S c)) (hP S c) 0) := hq86
        subst hq86
        refine r_iconst (v := 0) dX8_haulIn_89 (by decide) ?_
        refine r_ist3 dX8_haulIn_90 (Nat.le_of_ble_eq_true rfl) rfl ?_
        refine R.for (α := Option Value) (nn (cI S 9)) (fun i a => [some (.ref 0), some (.int c), some (.int (hT S c)), some (.int (nI i)), a]) (fun i a => (tkS (scr S (hM S c (nn (cI S 9))).1 (hM S c (nn (cI S 9))).2 (hP S c) (hR S c)) (hP S c) i)) (fun i a => True) ?_ ?_ 0 none (Nat.zero_le _) trivial
        · intro a hI
          have hbb := h.b
          have hnb := nn_int hbb.1
          have hii : (nI (nn (cI S 9))).toInt = ((nn (cI S 9) : Nat) : Int) := nI_toInt (by omega)
          have hsx := tkS_sh (P := hP S c) (h.scr (x := (hM S c (nn (cI S 9))).1) (a := (hM S c (nn (cI S 9))).2) (b := hP S c) (c := hR S c)) (nn (cI S 9))
          refine r_iload_n dX8_haulIn_91 rfl rfl ?_
          refine r_aload_n dX8_haulIn_92 rfl rfl ?_
          refine r_getI dX8_haulIn_93 lf_X8_89 rfl rfl ?_
          refine r_icmp_ge 131 dX8_haulIn_96 (by decide) (fun q96 => ?_) (fun q96 => ?_)
          · skip
            refine r_aload_n dX8_haulIn_131 rfl rfl ?_
            refine r_getR dX8_haulIn_132 lf_X8_12 rfl rfl (shR8_0 hsx.F) (shL_1 hsx.F) ?_
            refine r_getR dX8_haulIn_135 lf_X8_78 rfl rfl (shR4_0 hsx.F) (shL_2 hsx.F) ?_
            refine r_iload_n dX8_haulIn_138 rfl rfl ?_
            refine r_dup2 dX8_haulIn_139 rfl rfl ?_
            refine r_iald dX8_haulIn_140 rfl (show vp_in _ 36 from vp_in_iff.mpr (by (try simp only [b2i_eq0, b2i_ne0, decide_eq_true_eq] at *); (try simp only [cI, sI_setA, sI_setQ, sI_setR, sA_setI, sA_setR, sA_setQ, fa_lt, fa_le, fa_eq, Int32.reduceToInt] at *); omega)) ?_
            refine r_iload_n dX8_haulIn_141 rfl rfl ?_
            refine r_isub dX8_haulIn_142 ?_
            refine r_iast dX8_haulIn_143 rfl (show vp_in _ 36 from vp_in_iff.mpr (by (try simp only [b2i_eq0, b2i_ne0, decide_eq_true_eq] at *); (try simp only [cI, sI_setA, sI_setQ, sI_setR, sA_setI, sA_setR, sA_setQ, fa_lt, fa_le, fa_eq, Int32.reduceToInt] at *); omega)) ?_
            refine r_iload_n dX8_haulIn_144 rfl rfl ?_
            exact r_iret dX8_haulIn_145 rfl (Nat.zero_le _) (Nat.zero_le _) ⟨_, rfl, ⟨rfl, by rw [tkS_A]; unfold haulS; rw [if_neg q76]; rfl⟩⟩
          · skip
            rw [tkS_I (by decide)] at q96
            replace q96 : ¬ cI S 9 ≤ nI (nn (cI S 9)) := q96
            exact absurd q96 (by (try simp only [b2i_eq0, b2i_ne0, decide_eq_true_eq] at *); (try simp only [cI, sI_setA, sI_setQ, sI_setR, sA_setI, sA_setR, sA_setQ, fa_lt, fa_le, fa_eq, Int32.reduceToInt] at *); omega)
        · intro i a hi hI ih
          have hbb := h.b
          have hnb := nn_int hbb.1
          have hii : (nI i).toInt = i := nI_toInt (by omega)
          have hic : (nI i).toNatClampNeg = i := nI_clamp (by omega)
          have hlt : i < 12 := by omega
          have hkb := tkB hlt
          have hni : nn (nI i) = i := by unfold nn; omega
          have hsh := tkS_sh (P := hP S c) (h.scr (x := (hM S c (nn (cI S 9))).1) (a := (hM S c (nn (cI S 9))).2) (b := hP S c) (c := hR S c)) i
          have h9 : cI (tkS (scr S (hM S c (nn (cI S 9))).1 (hM S c (nn (cI S 9))).2 (hP S c) (hR S c)) (hP S c) i) 9 = cI S 9 := tkS_I (by decide) 0 i
          have h12 : sA (tkS (scr S (hM S c (nn (cI S 9))).1 (hM S c (nn (cI S 9))).2 (hP S c) (hR S c)) (hP S c) i) 12 = hP S c := by rw [tkS_A]; rfl
          refine r_iload_n dX8_haulIn_91 rfl rfl ?_
          refine r_aload_n dX8_haulIn_92 rfl rfl ?_
          refine r_getI dX8_haulIn_93 lf_X8_89 rfl rfl ?_
          refine r_icmp_ge 131 dX8_haulIn_96 (by decide) (fun q96 => ?_) (fun q96 => ?_)
          · skip
            rw [tkS_I (by decide)] at q96
            replace q96 : cI S 9 ≤ nI i := q96
            exact absurd q96 (by (try simp only [b2i_eq0, b2i_ne0, decide_eq_true_eq] at *); (try simp only [cI, sI_setA, sI_setQ, sI_setR, sA_setI, sA_setR, sA_setQ, fa_lt, fa_le, fa_eq, Int32.reduceToInt] at *); omega)
          · skip
            refine r_aload_n dX8_haulIn_99 rfl rfl ?_
            refine r_iload_n dX8_haulIn_100 rfl rfl ?_
            refine r_invV1r dX8_haulIn_101 lm_X8_95 rfl (c_X8_boatAt _ (tkS (scr S (hM S c (nn (cI S 9))).1 (hM S c (nn (cI S 9))).2 (hP S c) (hR S c)) (hP S c) i) hsh) (Nat.le_of_ble_eq_true rfl) (Nat.le_of_ble_eq_true rfl) (Nat.zero_le _) (Nat.zero_le _) (fun r101 S101 hq101 => ?_)
            obtain ⟨rfl, hz101⟩ := hq101
            replace hz101 := hz101.symm
            subst hz101
            rw [if_pos (α := Option Nat) (by rw [h9]; omega), hni]
            refine r_ast4 dX8_haulIn_104 (Nat.le_of_ble_eq_true rfl) rfl ?_
            refine r_aload dX8_haulIn_106 rfl ?_
            refine r_ifnull dX8_haulIn_108 ?_
            refine r_aload dX8_haulIn_111 rfl ?_
            refine r_aload_n dX8_haulIn_113 rfl rfl ?_
            refine r_getR dX8_haulIn_114 lf_X8_48 rfl rfl (shR8_6 hsh.F) (shL_11 hsh.F) ?_
            refine r_getR dX8_haulIn_117 lf_X8_195 rfl rfl (shR3_0 hsh.F) (shL_12 hsh.F) ?_
            refine r_iload_n dX8_haulIn_120 rfl rfl ?_
            refine r_iald dX8_haulIn_121 rfl (show vp_in _ 12 from vp_in_iff.mpr (by (try simp only [b2i_eq0, b2i_ne0, decide_eq_true_eq] at *); (try simp only [cI, sI_setA, sI_setQ, sI_setR, sA_setI, sA_setR, sA_setQ, fa_lt, fa_le, fa_eq, Int32.reduceToInt] at *); omega)) ?_
            rw [h12, hic]
            refine r_invV1v dX8_haulIn_122 lm_X8_276 (by first | assumption | rfl) (c_X0_takeIn _ _ _ hkb) (Nat.le_of_ble_eq_true rfl) (Nat.le_of_ble_eq_true rfl) (Nat.zero_le _) (Nat.zero_le _) (fun S122 hq122 => ?_)
            replace hq122 := hq122.symm
            subst hq122
            refine r_in3 dX8_haulIn_125 (show _ + Int32.ofInt 1 = _ + 1 from rfl) (Nat.le_of_ble_eq_true rfl) rfl ?_
            refine r_goto 91 dX8_haulIn_128 (by decide) ?_
            rw [nI_1]
            exact ih (some (.ref (100 + 3 * i))) trivial
      · skip
        refine r_iconst (v := 0) dX8_haulIn_79 (by decide) ?_
        exact r_iret dX8_haulIn_80 rfl (Nat.zero_le _) (Nat.zero_le _) ⟨_, rfl, ⟨q76.symm, (if_pos q76).symm⟩⟩
    · skip
      replace q14 : ¬ cI S 9 ≤ nI (nn (cI S 9)) := q14
      exact absurd q14 (by (try simp only [b2i_eq0, b2i_ne0, decide_eq_true_eq] at *); (try simp only [cI, sI_setA, sI_setQ, sI_setR, sA_setI, sA_setR, sA_setQ, fa_lt, fa_le, fa_eq, Int32.reduceToInt] at *); omega)
  · intro i a hi hI ih
    have hbb := h.b
    have hnb := nn_int hbb.1
    have hii : (nI i).toInt = i := nI_toInt (by omega)
    have hic : (nI i).toNatClampNeg = i := nI_clamp (by omega)
    have hlt : i < 12 := by omega
    have hkb := tkB hlt
    have hni : nn (nI i) = i := by unfold nn; omega
    refine r_iload_n dX8_haulIn_9 rfl rfl ?_
    refine r_aload_n dX8_haulIn_10 rfl rfl ?_
    refine r_getI dX8_haulIn_11 lf_X8_89 rfl rfl ?_
    refine r_icmp_ge 53 dX8_haulIn_14 (by decide) (fun q14 => ?_) (fun q14 => ?_)
    · skip
      replace q14 : cI S 9 ≤ nI i := q14
      exact absurd q14 (by (try simp only [b2i_eq0, b2i_ne0, decide_eq_true_eq] at *); (try simp only [cI, sI_setA, sI_setQ, sI_setR, sA_setI, sA_setR, sA_setQ, fa_lt, fa_le, fa_eq, Int32.reduceToInt] at *); omega)
    · skip
      refine r_aload_n dX8_haulIn_17 rfl rfl ?_
      refine r_iload_n dX8_haulIn_18 rfl rfl ?_
      refine r_invV1r dX8_haulIn_19 lm_X8_95 rfl (c_X8_boatAt _ (scr S (hM S c i).1 (hM S c i).2 (fillR (fun _ => 0) (sA S 12) 12) (sA S 14)) h.scr) (Nat.le_of_ble_eq_true rfl) (Nat.le_of_ble_eq_true rfl) (Nat.zero_le _) (Nat.zero_le _) (fun r19 S19 hq19 => ?_)
      obtain ⟨hr19, hz19⟩ := hq19
      replace hz19 := hz19.symm
      subst hz19
      replace hr19 : r19 = some (100 + 3 * i) := by
        rw [hr19]
        exact (if_pos (show _ ∧ _ from ⟨by omega, show (nI i).toInt < (cI S 9).toInt by omega⟩)).trans (by rw [hni])
      subst hr19
      refine r_ast3 dX8_haulIn_22 (Nat.le_of_ble_eq_true rfl) rfl ?_
      refine r_aload_n dX8_haulIn_23 rfl rfl ?_
      refine r_ifnull dX8_haulIn_24 ?_
      refine r_aload_n dX8_haulIn_27 rfl rfl ?_
      refine r_getI dX8_haulIn_28 lf_X8_99 rfl (by first | assumption | rfl) ?_
      refine r_iload_n dX8_haulIn_31 rfl rfl ?_
      refine r_icmp_ne 47 dX8_haulIn_32 (by decide) (fun q32 => ?_) (fun q32 => ?_)
      · skip
        refine r_in2 dX8_haulIn_47 (show _ + Int32.ofInt 1 = _ + 1 from rfl) (Nat.le_of_ble_eq_true rfl) rfl ?_
        refine r_goto 9 dX8_haulIn_50 (by decide) ?_
        rw [nI_1]
        first
          | (refine R.heap (S2 := (scr S (hM S c (i + 1)).1 (hM S c (i + 1)).2 (fillR (fun _ => 0) (sA S 12) 12) (sA S 14))) ?_ (ih (some (.ref (100 + 3 * i))) trivial); rw [show (hM S c (i + 1)) = _ from if_pos ((fa_eq _ _).mp (show sI S (fid 0 3) (100 + 3 * i) = c from q32))]; first | done | rfl)
          | (refine R.heap (S2 := (scr S (hM S c (i + 1)).1 (hM S c (i + 1)).2 (fillR (fun _ => 0) (sA S 12) 12) (sA S 14))) ?_ (ih (some (.ref (100 + 3 * i))) trivial); rw [show (hM S c (i + 1)) = (hM S c i) from if_neg (fun q9 => q32 ((fa_eq _ _).mpr q9))]; first | done | rfl)
      · skip
        refine r_aload_n dX8_haulIn_35 rfl rfl ?_
        refine r_getR dX8_haulIn_36 lf_X8_48 rfl rfl (shR8_6 h.F) (shL_11 h.F) ?_
        refine r_iload_n dX8_haulIn_39 rfl rfl ?_
        refine r_aload_n dX8_haulIn_40 rfl rfl ?_
        refine r_getI dX8_haulIn_41 lf_X8_102 rfl (by first | assumption | rfl) ?_
        refine r_invV2v dX8_haulIn_44 lm_X8_183 rfl (c_scr_add S _ _ _ _ _ _ h.F (by (try simp only [b2i_eq0, b2i_ne0, decide_eq_true_eq] at *); (try simp only [cI, sI_setA, sI_setQ, sI_setR, sA_setI, sA_setR, sA_setQ, fa_lt, fa_le, fa_eq, Int32.reduceToInt] at *); omega)) (Nat.le_of_ble_eq_true rfl) (Nat.le_of_ble_eq_true rfl) (Nat.zero_le _) (Nat.zero_le _) (fun S44 hq44 => ?_)
        replace hq44 := hq44.symm
        subst hq44
        rw [hic]
        refine r_in2 dX8_haulIn_47 (show _ + Int32.ofInt 1 = _ + 1 from rfl) (Nat.le_of_ble_eq_true rfl) rfl ?_
        refine r_goto 9 dX8_haulIn_50 (by decide) ?_
        rw [nI_1]
        first
          | (refine R.heap (S2 := (scr S (hM S c (i + 1)).1 (hM S c (i + 1)).2 (fillR (fun _ => 0) (sA S 12) 12) (sA S 14))) ?_ (ih (some (.ref (100 + 3 * i))) trivial); rw [show (hM S c (i + 1)) = _ from if_pos ((fa_eq _ _).mp (show sI S (fid 0 3) (100 + 3 * i) = c from q32))]; first | done | rfl)
          | (refine R.heap (S2 := (scr S (hM S c (i + 1)).1 (hM S c (i + 1)).2 (fillR (fun _ => 0) (sA S 12) 12) (sA S 14))) ?_ (ih (some (.ref (100 + 3 * i))) trivial); rw [show (hM S c (i + 1)) = (hM S c i) from if_neg (fun q9 => q32 ((fa_eq _ _).mpr q9))]; first | done | rfl)
set_option maxHeartbeats 4000000 in
theorem c_X8_haulEverywhere {l : Launch} {G : va_G} {cy : Nat → ClassId} (g : Int32) (S : HS) (h : ShC S) : Cn l G cy yX8_haulEverywhere cX8_haulEverywhere 4 (some .int) 3 [.ref 0, .int g] S 0 0 (qI (fun r S2 => r = (heS g S 36).2 ∧ S2 = setI (heS g S 36).1 (fid 8 14) 0 (sI (heS g S 36).1 (fid 8 14) 0 + (heS g S 36).2))) := by
  refine Cn.of [some (.ref 0), some (.int g), none, none] (by decide) rfl (Nat.le_of_ble_eq_true rfl) ?_
  refine r_iconst (v := 0) dX8_haulEverywhere_0 (by decide) ?_
  refine r_ist2 dX8_haulEverywhere_1 (Nat.le_of_ble_eq_true rfl) rfl ?_
  refine r_iconst (v := 0) dX8_haulEverywhere_2 (by decide) ?_
  refine r_ist3 dX8_haulEverywhere_3 (Nat.le_of_ble_eq_true rfl) rfl ?_
  refine R.for (α := Unit) (36) (fun i a => [some (.ref 0), some (.int g), some (.int (heS g S i).2), some (.int (nI i))]) (fun i a => (heS g S i).1) (fun i a => True) ?_ ?_ 0 () (Nat.zero_le _) trivial
  · intro a hI
    have hii : (nI 36).toInt = (36 : Nat) := nI_toInt (by omega)
    refine r_iload_n dX8_haulEverywhere_4 rfl rfl ?_
    refine r_bipush (v := 36) dX8_haulEverywhere_5 (by decide) ?_
    refine r_icmp_ge 33 dX8_haulEverywhere_7 (by decide) (fun q7 => ?_) (fun q7 => ?_)
    · skip
      refine r_aload_n dX8_haulEverywhere_33 rfl rfl ?_
      refine r_dup dX8_haulEverywhere_34 rfl ?_
      refine r_getI dX8_haulEverywhere_35 lf_X8_241 rfl rfl ?_
      refine r_iload_n dX8_haulEverywhere_38 rfl rfl ?_
      refine r_iadd dX8_haulEverywhere_39 ?_
      refine r_putI dX8_haulEverywhere_40 (lp_X8_241 _) rfl rfl ?_
      refine r_iload_n dX8_haulEverywhere_43 rfl rfl ?_
      exact r_iret dX8_haulEverywhere_44 rfl (Nat.zero_le _) (Nat.zero_le _) ⟨_, rfl, ⟨rfl, rfl⟩⟩
    · skip
      exact absurd q7 (by (try simp only [b2i_eq0, b2i_ne0, decide_eq_true_eq] at *); (try simp only [cI, sI_setA, sI_setQ, sI_setR, sA_setI, sA_setR, sA_setQ, fa_lt, fa_le, fa_eq, Int32.reduceToInt] at *); omega)
  · intro i a hi hI ih
    have hii : (nI i).toInt = i := nI_toInt (by omega)
    have hic : (nI i).toNatClampNeg = i := nI_clamp (by omega)
    have hsh := heS_sh (g := g) h i
    refine r_iload_n dX8_haulEverywhere_4 rfl rfl ?_
    refine r_bipush (v := 36) dX8_haulEverywhere_5 (by decide) ?_
    refine r_icmp_ge 33 dX8_haulEverywhere_7 (by decide) (fun q7 => ?_) (fun q7 => ?_)
    · skip
      exact absurd q7 (by (try simp only [b2i_eq0, b2i_ne0, decide_eq_true_eq] at *); (try simp only [cI, sI_setA, sI_setQ, sI_setR, sA_setI, sA_setR, sA_setQ, fa_lt, fa_le, fa_eq, Int32.reduceToInt] at *); omega)
    · skip
      refine r_aload_n dX8_haulEverywhere_10 rfl rfl ?_
      refine r_iload_n dX8_haulEverywhere_11 rfl rfl ?_
      refine r_iload_n dX8_haulEverywhere_12 rfl rfl ?_
      refine r_invV2i dX8_haulEverywhere_13 lm_X8_257 rfl (c_X8_isStormy _ _ _ hsh.F) (Nat.le_of_ble_eq_true rfl) (Nat.le_of_ble_eq_true rfl) (Nat.zero_le _) (Nat.zero_le _) (fun r13 S13 hq13 => ?_)
      obtain ⟨rfl, hz13⟩ := hq13
      replace hz13 := hz13.symm
      subst hz13
      refine r_if_ne 27 dX8_haulEverywhere_16 (by decide) (fun q16 => ?_) (fun q16 => ?_)
      · skip
        refine r_in3 dX8_haulEverywhere_27 (show _ + Int32.ofInt 1 = _ + 1 from rfl) (Nat.le_of_ble_eq_true rfl) rfl ?_
        refine r_goto 4 dX8_haulEverywhere_30 (by decide) ?_
        rw [nI_1]
        have h9 := ih () trivial
        first
          | (rw [show (heS g S (i + 1)) = (heS g S i) from if_pos (b2i_ne0.mp q16)] at h9; exact h9)
          | (rw [show (heS g S (i + 1)) = (haulS (heS g S i).1 (nI i), (heS g S i).2 + hT (heS g S i).1 (nI i)) from if_neg (b2i_eq0.mp q16)] at h9; exact h9)
      · skip
        refine r_iload_n dX8_haulEverywhere_19 rfl rfl ?_
        refine r_aload_n dX8_haulEverywhere_20 rfl rfl ?_
        refine r_iload_n dX8_haulEverywhere_21 rfl rfl ?_
        refine r_invV1i dX8_haulEverywhere_22 lm_X8_267 rfl (c_X8_haulIn _ _ hsh (by (try simp only [b2i_eq0, b2i_ne0, decide_eq_true_eq] at *); (try simp only [cI, sI_setA, sI_setQ, sI_setR, sA_setI, sA_setR, sA_setQ, fa_lt, fa_le, fa_eq, Int32.reduceToInt] at *); omega)) (Nat.le_of_ble_eq_true rfl) (Nat.le_of_ble_eq_true rfl) (Nat.zero_le _) (Nat.zero_le _) (fun r22 S22 hq22 => ?_)
        obtain ⟨rfl, hz22⟩ := hq22
        replace hz22 := hz22.symm
        subst hz22
        refine r_iadd dX8_haulEverywhere_25 ?_
        refine r_ist2 dX8_haulEverywhere_26 (Nat.le_of_ble_eq_true rfl) rfl ?_
        refine r_in3 dX8_haulEverywhere_27 (show _ + Int32.ofInt 1 = _ + 1 from rfl) (Nat.le_of_ble_eq_true rfl) rfl ?_
        refine r_goto 4 dX8_haulEverywhere_30 (by decide) ?_
        rw [nI_1]
        have h9 := ih () trivial
        first
          | (rw [show (heS g S (i + 1)) = (heS g S i) from if_pos (b2i_ne0.mp q16)] at h9; exact h9)
          | (rw [show (heS g S (i + 1)) = (haulS (heS g S i).1 (nI i), (heS g S i).2 + hT (heS g S i).1 (nI i)) from if_neg (b2i_eq0.mp q16)] at h9; exact h9)
