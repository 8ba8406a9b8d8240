/-! ===== the reference: drift, the next boat, a sale, feed ===== -/
theorem sA_set (S : HS) (a : Nat) (r : Nat → Int32) : sA (setA S a r) a = r := by simp [sA_setA, va_up]
theorem sA_setn {S : HS} {a c : Nat} {r : Nat → Int32} (h : c ≠ a) : sA (setA S a r) c = sA S c := by simp [sA_setA, va_up, h]
/-- what comes to each cell, cell by cell -/
def dcm (cr : Nat → Int32) (w : Int32) (z : Nat → Int32) : Nat → Nat → Int32
  | 0 => z
  | i + 1 => upd (upd (dcm cr w z i) (besF w (nI i)).toNatClampNeg (dcm cr w z i (besF w (nI i)).toNatClampNeg + cr i / 4)) i (upd (dcm cr w z i) (besF w (nI i)).toNatClampNeg (dcm cr w z i (besF w (nI i)).toNatClampNeg + cr i / 4) i - cr i / 4)
def mnA (x : Int32) : Int32 := if x < (10000 : Int32) then x else 10000
def gon2 (cr ch : Nat → Int32) (g : Int32) : Nat → Int32
  | 0 => g
  | i + 1 => gon2 cr ch g i + mx2 0 (cr i + ch i - 10000)
theorem set4 (S : HS) (r1 r2 r3 : Nat → Int32) (v w : Int32) : setA (setI (setA (setI (setA S (ma 39) r1) (fid 9 33) 2000 v) (ma 0) r2) (fid 9 33) 2000 w) (ma 0) r3 = setA (setI (setA S (ma 39) r1) (fid 9 33) 2000 w) (ma 0) r3 := by
  refine HS_ext rfl ?_ rfl ?_ rfl
  · funext f a
    simp only [sI_setI, sI_setA, up2]
    split <;> rfl
  · funext t
    simp only [sA_setI, sA_setA, va_up]
    split <;> rfl
def drS (S : HS) : HS := setA (setI (setA S (ma 39) (dcm (mA S 0) (mI S 28) (fillR (fun _ => 0) (mA S 39) 36) 36)) (fid 9 33) 2000 (gon2 (mA S 0) (dcm (mA S 0) (mI S 28) (fillR (fun _ => 0) (mA S 39) 36) 36) (mI S 33) 36)) (ma 0) (fillR (fun j => mnA (mA S 0 j + dcm (mA S 0) (mI S 28) (fillR (fun _ => 0) (mA S 39) 36) 36 j)) (mA S 0) 36)
def minF (x : Int32) : Int32 := 30 * (x - x / 6 * 6 + x / 6 + 1)
/-- the next boat, among the first n -/
def nbF (sd tn ce : Nat → Int32) : Nat → Int32
  | 0 => -1
  | i + 1 => if (sd i = 0 ∧ 0 < (tn i).toInt) ∧ (nbF sd tn ce i = -1 ∨ (minF (ce i)).toInt < (minF (ce (nbF sd tn ce i).toNatClampNeg)).toInt) then nI i else nbF sd tn ce i
theorem nbF_in {sd tn ce : Nat → Int32} : ∀ {n : Nat}, n ≤ 12 → nbF sd tn ce n = -1 ∨ (0 ≤ (nbF sd tn ce n).toInt ∧ (nbF sd tn ce n).toInt < n)
  | 0, _ => Or.inl rfl
  | n + 1, h => by
    have ih := nbF_in (sd := sd) (tn := tn) (ce := ce) (n := n) (by omega)
    unfold nbF
    split
    · have e : (nI n).toInt = n := nI_toInt (by omega)
      exact Or.inr ⟨by omega, by omega⟩
    · rcases ih with q | q
      · exact Or.inl q
      · exact Or.inr ⟨q.1, by omega⟩
def sellS (S : HS) (b y n : Int32) : HS := setI (setA (setA (setA (setA (setA (setA (setA (setA (setA S (ma 40) (upd (mA S 40) y.toNatClampNeg (mA S 40 y.toNatClampNeg - n))) (ma 6) (upd (mA S 6) b.toNatClampNeg (mA S 6 b.toNatClampNeg + n * mA S 12 y.toNatClampNeg))) (ma 13) (upd (mA S 13) (mI S 27).toNatClampNeg (mI S 24))) (ma 14) (upd (mA S 14) (mI S 27).toNatClampNeg b)) (ma 15) (upd (mA S 15) (mI S 27).toNatClampNeg (mA S 3 b.toNatClampNeg))) (ma 16) (upd (mA S 16) (mI S 27).toNatClampNeg y)) (ma 17) (upd (mA S 17) (mI S 27).toNatClampNeg n)) (ma 20) (upd (mA S 20) (mI S 27).toNatClampNeg (minF (mA S 3 b.toNatClampNeg)))) (ma 21) (upd (mA S 21) (mI S 27).toNatClampNeg (mA S 12 y.toNatClampNeg))) (fid 9 27) 2000 (mI S 27 + 1)
set_option maxHeartbeats 4000000 in
theorem c_X9_driftAll {l : Launch} {G : va_G} {cy : Nat → ClassId} (S : HS) (h : ShM S) : Cn l G cy yX9_driftAll cX9_driftAll 3 none 2 [.ref 2000] S 0 0 (qV (fun S2 => S2 = drS S)) := by
  refine Cn.of [some (.ref 2000), none, none] (by decide) rfl (Nat.le_of_ble_eq_true rfl) ?_
  refine R.heap (show S = setA S (ma 39) (fillR (fun _ => 0) (mA S 39) 0) from (setA_self S (ma 39)).symm) ?_
  refine r_iconst (v := 0) dX9_driftAll_0 (by decide) ?_
  refine r_ist1 dX9_driftAll_1 (Nat.le_of_ble_eq_true rfl) rfl ?_
  refine R.for (α := Unit) (36) (fun i a => [some (.ref 2000), some (.int (nI i)), none]) (fun i a => (setA S (ma 39) (fillR (fun _ => 0) (mA S 39) i))) (fun i a => True) ?_ ?_ 0 () (Nat.zero_le _) trivial
  · intro a hI
    have hii : (nI 36).toInt = (36 : Nat) := nI_toInt (by omega)
    refine r_iload_n dX9_driftAll_2 rfl rfl ?_
    refine r_bipush (v := 36) dX9_driftAll_3 (by decide) ?_
    refine r_icmp_ge 21 dX9_driftAll_5 (by decide) (fun q5 => ?_) (fun q5 => ?_)
    · skip
      refine r_iconst (v := 0) dX9_driftAll_21 (by decide) ?_
      refine r_ist1 dX9_driftAll_22 (Nat.le_of_ble_eq_true rfl) rfl ?_
      refine R.for (α := Option Value) (36) (fun i a => [some (.ref 2000), some (.int (nI i)), a]) (fun i a => (setA S (ma 39) (dcm (mA S 0) (mI S 28) (fillR (fun _ => 0) (mA S 39) 36) i))) (fun i a => True) ?_ ?_ 0 none (Nat.zero_le _) trivial
      · intro a hI
        have hii : (nI 36).toInt = (36 : Nat) := nI_toInt (by omega)
        refine r_iload_n dX9_driftAll_23 rfl rfl ?_
        refine r_bipush (v := 36) dX9_driftAll_24 (by decide) ?_
        refine r_icmp_ge 68 dX9_driftAll_26 (by decide) (fun q26 => ?_) (fun q26 => ?_)
        · skip
          refine R.heap (show setA S (ma 39) (dcm (mA S 0) (mI S 28) (fillR (fun _ => 0) (mA S 39) 36) 36) = (setA (setI (setA S (ma 39) (dcm (mA S 0) (mI S 28) (fillR (fun _ => 0) (mA S 39) 36) 36)) (fid 9 33) 2000 (gon2 (mA S 0) (dcm (mA S 0) (mI S 28) (fillR (fun _ => 0) (mA S 39) 36) 36) (mI S 33) 0)) (ma 0) (fillR (fun j => mnA ((mA S 0) j + (dcm (mA S 0) (mI S 28) (fillR (fun _ => 0) (mA S 39) 36) 36) j)) (mA S 0) 0)) from by show _ = setA (setI (setA S (ma 39) (dcm (mA S 0) (mI S 28) (fillR (fun _ => 0) (mA S 39) 36) 36)) (fid 9 33) 2000 (sI (setA S (ma 39) (dcm (mA S 0) (mI S 28) (fillR (fun _ => 0) (mA S 39) 36) 36)) (fid 9 33) 2000)) (ma 0) (sA (setA S (ma 39) (dcm (mA S 0) (mI S 28) (fillR (fun _ => 0) (mA S 39) 36) 36)) (ma 0)); rw [setI_self, setA_self]) ?_
          refine r_iconst (v := 0) dX9_driftAll_68 (by decide) ?_
          refine r_ist1 dX9_driftAll_69 (Nat.le_of_ble_eq_true rfl) rfl ?_
          refine R.for (α := Option Value) (36) (fun i a => [some (.ref 2000), some (.int (nI i)), a]) (fun i a => (setA (setI (setA S (ma 39) (dcm (mA S 0) (mI S 28) (fillR (fun _ => 0) (mA S 39) 36) 36)) (fid 9 33) 2000 (gon2 (mA S 0) (dcm (mA S 0) (mI S 28) (fillR (fun _ => 0) (mA S 39) 36) 36) (mI S 33) i)) (ma 0) (fillR (fun j => mnA ((mA S 0) j + (dcm (mA S 0) (mI S 28) (fillR (fun _ => 0) (mA S 39) 36) 36) j)) (mA S 0) i))) (fun i a => True) ?_ ?_ 0 _ (Nat.zero_le _) trivial
          · intro a hI
            have hii : (nI 36).toInt = (36 : Nat) := nI_toInt (by omega)
            refine r_iload_n dX9_driftAll_70 rfl rfl ?_
            refine r_bipush (v := 36) dX9_driftAll_71 (by decide) ?_
            refine r_icmp_ge 127 dX9_driftAll_73 (by decide) (fun q73 => ?_) (fun q73 => ?_)
            · skip
              exact r_vret dX9_driftAll_127 rfl (Nat.zero_le _) (Nat.zero_le _) ⟨rfl, rfl⟩
            · skip
              exact absurd q73 (by (try simp only [b2i_eq0, b2i_ne0, decide_eq_true_eq] at *); (try simp only [mI, mA, sI_setA, sI_setQ, sI_setR, sA_setI, sA_setR, sA_setQ, fa_lt, fa_le, fa_eq, Int32.reduceToInt] at *); omega)
          · intro i a hi hI ih
            have hii : (nI i).toInt = i := nI_toInt (by omega)
            have hic : (nI i).toNatClampNeg = i := nI_clamp (by omega)
            have hsh := h.same (S2 := (setA (setI (setA S (ma 39) (dcm (mA S 0) (mI S 28) (fillR (fun _ => 0) (mA S 39) 36) 36)) (fid 9 33) 2000 (gon2 (mA S 0) (dcm (mA S 0) (mI S 28) (fillR (fun _ => 0) (mA S 39) 36) 36) (mI S 33) i)) (ma 0) (fillR (fun j => mnA ((mA S 0) j + (dcm (mA S 0) (mI S 28) (fillR (fun _ => 0) (mA S 39) 36) 36) j)) (mA S 0) i))) rfl rfl
            have hr2 : sA (setA (setI (setA S (ma 39) (dcm (mA S 0) (mI S 28) (fillR (fun _ => 0) (mA S 39) 36) 36)) (fid 9 33) 2000 (gon2 (mA S 0) (dcm (mA S 0) (mI S 28) (fillR (fun _ => 0) (mA S 39) 36) 36) (mI S 33) i)) (ma 0) (fillR (fun j => mnA ((mA S 0) j + (dcm (mA S 0) (mI S 28) (fillR (fun _ => 0) (mA S 39) 36) 36) j)) (mA S 0) i)) (ma 0) = (fillR (fun j => mnA ((mA S 0) j + (dcm (mA S 0) (mI S 28) (fillR (fun _ => 0) (mA S 39) 36) 36) j)) (mA S 0) i) := rfl
            have hr4 : sA (setA (setI (setA S (ma 39) (dcm (mA S 0) (mI S 28) (fillR (fun _ => 0) (mA S 39) 36) 36)) (fid 9 33) 2000 (gon2 (mA S 0) (dcm (mA S 0) (mI S 28) (fillR (fun _ => 0) (mA S 39) 36) 36) (mI S 33) i)) (ma 0) (fillR (fun j => mnA ((mA S 0) j + (dcm (mA S 0) (mI S 28) (fillR (fun _ => 0) (mA S 39) 36) 36) j)) (mA S 0) i)) (ma 39) = (dcm (mA S 0) (mI S 28) (fillR (fun _ => 0) (mA S 39) 36) 36) := rfl
            have hri : (fillR (fun j => mnA ((mA S 0) j + (dcm (mA S 0) (mI S 28) (fillR (fun _ => 0) (mA S 39) 36) 36) j)) (mA S 0) i) i = (mA S 0) i := fillR_out (Nat.le_refl i)
            refine r_iload_n dX9_driftAll_70 rfl rfl ?_
            refine r_bipush (v := 36) dX9_driftAll_71 (by decide) ?_
            refine r_icmp_ge 127 dX9_driftAll_73 (by decide) (fun q73 => ?_) (fun q73 => ?_)
            · skip
              exact absurd q73 (by (try simp only [b2i_eq0, b2i_ne0, decide_eq_true_eq] at *); (try simp only [mI, mA, sI_setA, sI_setQ, sI_setR, sA_setI, sA_setR, sA_setQ, fa_lt, fa_le, fa_eq, Int32.reduceToInt] at *); omega)
            · skip
              refine r_aload_n dX9_driftAll_76 rfl rfl ?_
              refine r_getR dX9_driftAll_77 lf_X9_9 rfl rfl (shM_R hsh (j := 0) rfl) (shM_L hsh (j := 0) rfl) ?_
              refine r_iload_n dX9_driftAll_80 rfl rfl ?_
              refine r_iald dX9_driftAll_81 rfl (show vp_in _ 36 from vp_in_iff.mpr (by (try simp only [b2i_eq0, b2i_ne0, decide_eq_true_eq] at *); (try simp only [mI, mA, sI_setA, sI_setQ, sI_setR, sA_setI, sA_setR, sA_setQ, fa_lt, fa_le, fa_eq, Int32.reduceToInt] at *); omega)) ?_
              refine r_aload_n dX9_driftAll_82 rfl rfl ?_
              refine r_getR dX9_driftAll_83 lf_X9_99 rfl rfl (shM_R hsh (j := 39) rfl) (shM_L hsh (j := 39) rfl) ?_
              refine r_iload_n dX9_driftAll_86 rfl rfl ?_
              refine r_iald dX9_driftAll_87 rfl (show vp_in _ 36 from vp_in_iff.mpr (by (try simp only [b2i_eq0, b2i_ne0, decide_eq_true_eq] at *); (try simp only [mI, mA, sI_setA, sI_setQ, sI_setR, sA_setI, sA_setR, sA_setQ, fa_lt, fa_le, fa_eq, Int32.reduceToInt] at *); omega)) ?_
              refine r_iadd dX9_driftAll_88 ?_
              refine r_ist2 dX9_driftAll_89 (Nat.le_of_ble_eq_true rfl) rfl ?_
              refine r_aload_n dX9_driftAll_90 rfl rfl ?_
              refine r_dup dX9_driftAll_91 rfl ?_
              refine r_getI dX9_driftAll_92 lf_X9_157 rfl rfl ?_
              refine r_iconst (v := 0) dX9_driftAll_95 (by decide) ?_
              refine r_iload_n dX9_driftAll_96 rfl rfl ?_
              refine r_sipush (v := 10000) dX9_driftAll_97 (by decide) ?_
              refine r_isub dX9_driftAll_100 ?_
              refine r_mmax dX9_driftAll_101 lm_X9_160 (Nat.le_of_ble_eq_true rfl) (Nat.le_of_ble_eq_true rfl) (Nat.zero_le _) (Nat.zero_le _) ?_
              refine r_iadd dX9_driftAll_104 ?_
              refine r_putI dX9_driftAll_105 (lp_X9_157 _) rfl rfl ?_
              refine r_aload_n dX9_driftAll_108 rfl rfl ?_
              refine r_getR dX9_driftAll_109 lf_X9_9 rfl rfl (shM_R hsh (j := 0) rfl) (shM_L hsh (j := 0) rfl) ?_
              refine r_iload_n dX9_driftAll_112 rfl rfl ?_
              refine r_sipush (v := 10000) dX9_driftAll_113 (by decide) ?_
              refine r_iload_n dX9_driftAll_116 rfl rfl ?_
              refine r_mmin dX9_driftAll_117 lm_X9_143 (Nat.le_of_ble_eq_true rfl) (Nat.le_of_ble_eq_true rfl) (Nat.zero_le _) (Nat.zero_le _) ?_
              refine r_iast dX9_driftAll_120 rfl (show vp_in _ 36 from vp_in_iff.mpr (by (try simp only [b2i_eq0, b2i_ne0, decide_eq_true_eq] at *); (try simp only [mI, mA, sI_setA, sI_setQ, sI_setR, sA_setI, sA_setR, sA_setQ, fa_lt, fa_le, fa_eq, Int32.reduceToInt] at *); omega)) ?_
              refine r_in1 dX9_driftAll_121 (show _ + Int32.ofInt 1 = _ + 1 from rfl) (Nat.le_of_ble_eq_true rfl) rfl ?_
              refine r_goto 70 dX9_driftAll_124 (by decide) ?_
              rw [nI_1, hr2, hr4, hic, hri, set4]
              exact ih _ trivial
        · skip
          exact absurd q26 (by (try simp only [b2i_eq0, b2i_ne0, decide_eq_true_eq] at *); (try simp only [mI, mA, sI_setA, sI_setQ, sI_setR, sA_setI, sA_setR, sA_setQ, fa_lt, fa_le, fa_eq, Int32.reduceToInt] at *); omega)
      · intro i a hi hI ih
        have hii : (nI i).toInt = i := nI_toInt (by omega)
        have hic : (nI i).toNatClampNeg = i := nI_clamp (by omega)
        have hsh := h.same (S2 := (setA S (ma 39) (dcm (mA S 0) (mI S 28) (fillR (fun _ => 0) (mA S 39) 36) i))) rfl rfl
        have hbi := besF_in (w := (mI S 28)) (c := nI i) (by omega)
        refine r_iload_n dX9_driftAll_23 rfl rfl ?_
        refine r_bipush (v := 36) dX9_driftAll_24 (by decide) ?_
        refine r_icmp_ge 68 dX9_driftAll_26 (by decide) (fun q26 => ?_) (fun q26 => ?_)
        · skip
          exact absurd q26 (by (try simp only [b2i_eq0, b2i_ne0, decide_eq_true_eq] at *); (try simp only [mI, mA, sI_setA, sI_setQ, sI_setR, sA_setI, sA_setR, sA_setQ, fa_lt, fa_le, fa_eq, Int32.reduceToInt] at *); omega)
        · skip
          refine r_aload_n dX9_driftAll_29 rfl rfl ?_
          refine r_getR dX9_driftAll_30 lf_X9_9 rfl rfl (shM_R hsh (j := 0) rfl) (shM_L hsh (j := 0) rfl) ?_
          refine r_iload_n dX9_driftAll_33 rfl rfl ?_
          refine r_iald dX9_driftAll_34 rfl (show vp_in _ 36 from vp_in_iff.mpr (by (try simp only [b2i_eq0, b2i_ne0, decide_eq_true_eq] at *); (try simp only [mI, mA, sI_setA, sI_setQ, sI_setR, sA_setI, sA_setR, sA_setQ, fa_lt, fa_le, fa_eq, Int32.reduceToInt] at *); omega)) ?_
          refine r_iconst (v := 4) dX9_driftAll_35 (by decide) ?_
          refine r_idiv dX9_driftAll_36 (by decide) ?_
          refine r_ist2 dX9_driftAll_37 (Nat.le_of_ble_eq_true rfl) rfl ?_
          refine r_aload_n dX9_driftAll_38 rfl rfl ?_
          refine r_getR dX9_driftAll_39 lf_X9_99 rfl rfl (shM_R hsh (j := 39) rfl) (shM_L hsh (j := 39) rfl) ?_
          refine r_aload_n dX9_driftAll_42 rfl rfl ?_
          refine r_iload_n dX9_driftAll_43 rfl rfl ?_
          refine r_invV1i dX9_driftAll_44 lm_X9_153 rfl (c_X9_beside _ (setA S (ma 39) (dcm (mA S 0) (mI S 28) (fillR (fun _ => 0) (mA S 39) 36) i)) hsh) (Nat.le_of_ble_eq_true rfl) (Nat.le_of_ble_eq_true rfl) (Nat.zero_le _) (Nat.zero_le _) (fun r44 S44 hq44 => ?_)
          obtain ⟨rfl, hz44⟩ := hq44
          replace hz44 := hz44.symm
          subst hz44
          refine r_dup2 dX9_driftAll_47 rfl rfl ?_
          refine r_iald dX9_driftAll_48 rfl (show vp_in _ 36 from vp_in_iff.mpr hbi) ?_
          refine r_iload_n dX9_driftAll_49 rfl rfl ?_
          refine r_iadd dX9_driftAll_50 ?_
          refine r_iast dX9_driftAll_51 rfl (show vp_in _ 36 from vp_in_iff.mpr hbi) ?_
          refine r_aload_n dX9_driftAll_52 rfl rfl ?_
          refine r_getR dX9_driftAll_53 lf_X9_99 rfl rfl (shM_R hsh (j := 39) rfl) (shM_L hsh (j := 39) rfl) ?_
          refine r_iload_n dX9_driftAll_56 rfl rfl ?_
          refine r_dup2 dX9_driftAll_57 rfl rfl ?_
          refine r_iald dX9_driftAll_58 rfl (show vp_in _ 36 from vp_in_iff.mpr (by (try simp only [b2i_eq0, b2i_ne0, decide_eq_true_eq] at *); (try simp only [mI, mA, sI_setA, sI_setQ, sI_setR, sA_setI, sA_setR, sA_setQ, fa_lt, fa_le, fa_eq, Int32.reduceToInt] at *); omega)) ?_
          refine r_iload_n dX9_driftAll_59 rfl rfl ?_
          refine r_isub dX9_driftAll_60 ?_
          refine r_iast dX9_driftAll_61 rfl (show vp_in _ 36 from vp_in_iff.mpr (by (try simp only [b2i_eq0, b2i_ne0, decide_eq_true_eq] at *); (try simp only [mI, mA, sI_setA, sI_setQ, sI_setR, sA_setI, sA_setR, sA_setQ, fa_lt, fa_le, fa_eq, Int32.reduceToInt] at *); omega)) ?_
          refine r_in1 dX9_driftAll_62 (show _ + Int32.ofInt 1 = _ + 1 from rfl) (Nat.le_of_ble_eq_true rfl) rfl ?_
          refine r_goto 23 dX9_driftAll_65 (by decide) ?_
          rw [nI_1]
          refine R.heap (S2 := (setA S (ma 39) (dcm (mA S 0) (mI S 28) (fillR (fun _ => 0) (mA S 39) 36) (i + 1)))) (by simp only [hic, setA_setA, sA_set, sA_setn (show ma 0 ≠ ma 39 by decide), sI_setA]; rfl) (ih _ trivial)
    · skip
      exact absurd q5 (by (try simp only [b2i_eq0, b2i_ne0, decide_eq_true_eq] at *); (try simp only [mI, mA, sI_setA, sI_setQ, sI_setR, sA_setI, sA_setR, sA_setQ, fa_lt, fa_le, fa_eq, Int32.reduceToInt] at *); omega)
  · intro i a hi hI ih
    have hii : (nI i).toInt = i := nI_toInt (by omega)
    have hic : (nI i).toNatClampNeg = i := nI_clamp (by omega)
    have hsh := h.same (S2 := (setA S (ma 39) (fillR (fun _ => 0) (mA S 39) i))) rfl rfl
    refine r_iload_n dX9_driftAll_2 rfl rfl ?_
    refine r_bipush (v := 36) dX9_driftAll_3 (by decide) ?_
    refine r_icmp_ge 21 dX9_driftAll_5 (by decide) (fun q5 => ?_) (fun q5 => ?_)
    · skip
      exact absurd q5 (by (try simp only [b2i_eq0, b2i_ne0, decide_eq_true_eq] at *); (try simp only [mI, mA, sI_setA, sI_setQ, sI_setR, sA_setI, sA_setR, sA_setQ, fa_lt, fa_le, fa_eq, Int32.reduceToInt] at *); omega)
    · skip
      refine r_aload_n dX9_driftAll_8 rfl rfl ?_
      refine r_getR dX9_driftAll_9 lf_X9_99 rfl rfl (shM_R hsh (j := 39) rfl) (shM_L hsh (j := 39) rfl) ?_
      refine r_iload_n dX9_driftAll_12 rfl rfl ?_
      refine r_iconst (v := 0) dX9_driftAll_13 (by decide) ?_
      refine r_iast dX9_driftAll_14 rfl (show vp_in _ 36 from vp_in_iff.mpr (by (try simp only [b2i_eq0, b2i_ne0, decide_eq_true_eq] at *); (try simp only [mI, mA, sI_setA, sI_setQ, sI_setR, sA_setI, sA_setR, sA_setQ, fa_lt, fa_le, fa_eq, Int32.reduceToInt] at *); omega)) ?_
      refine r_in1 dX9_driftAll_15 (show _ + Int32.ofInt 1 = _ + 1 from rfl) (Nat.le_of_ble_eq_true rfl) rfl ?_
      refine r_goto 2 dX9_driftAll_18 (by decide) ?_
      rw [nI_1, hic, setA_setA, show sA (setA S (ma 39) (fillR (fun _ => 0) (mA S 39) i)) (ma 39) = fillR (fun _ => 0) (mA S 39) i from sA_set _ _ _]
      exact ih () trivial
set_option maxHeartbeats 4000000 in
theorem c_X9_nextBoat {l : Launch} {G : va_G} {cy : Nat → ClassId} (S : HS) (h : ShM S) (hb : 0 ≤ (mI S 25).toInt ∧ (mI S 25).toInt ≤ 12) : Cn l G cy yX9_nextBoat cX9_nextBoat 3 (some .int) 1 [.ref 2000] S 0 0 (qI (fun r S2 => r = nbF (mA S 41) (mA S 5) (mA S 3) (nn (mI S 25)) ∧ S2 = S)) := by
  refine Cn.of [some (.ref 2000), none, none] (by decide) rfl (Nat.le_of_ble_eq_true rfl) ?_
  refine r_iconst (v := (-1)) dX9_nextBoat_0 (by decide) ?_
  refine r_ist1 dX9_nextBoat_1 (Nat.le_of_ble_eq_true rfl) rfl ?_
  refine r_iconst (v := 0) dX9_nextBoat_2 (by decide) ?_
  refine r_ist2 dX9_nextBoat_3 (Nat.le_of_ble_eq_true rfl) rfl ?_
  refine R.for (α := Unit) (nn (mI S 25)) (fun i a => [some (.ref 2000), some (.int (nbF (mA S 41) (mA S 5) (mA S 3) i)), some (.int (nI i))]) (fun i a => S) (fun i a => True) ?_ ?_ 0 () (Nat.zero_le _) trivial
  · intro a hI
    have hnb := nn_int hb.1
    have hii : (nI (nn (mI S 25))).toInt = ((nn (mI S 25) : Nat) : Int) := nI_toInt (by omega)
    refine r_iload_n dX9_nextBoat_4 rfl rfl ?_
    refine r_aload_n dX9_nextBoat_5 rfl rfl ?_
    refine r_getI dX9_nextBoat_6 lf_X9_126 rfl rfl ?_
    refine r_icmp_ge 56 dX9_nextBoat_9 (by decide) (fun q9 => ?_) (fun q9 => ?_)
    · skip
      refine r_iload_n dX9_nextBoat_56 rfl rfl ?_
      exact r_iret dX9_nextBoat_57 rfl (Nat.zero_le _) (Nat.zero_le _) ⟨_, rfl, ⟨rfl, rfl⟩⟩
    · skip
      exact absurd q9 (by (try simp only [b2i_eq0, b2i_ne0, decide_eq_true_eq] at *); (try simp only [mI, mA, sI_setA, sI_setQ, sI_setR, sA_setI, sA_setR, sA_setQ, fa_lt, fa_le, fa_eq, Int32.reduceToInt] at *); omega)
  · intro i a hi hI ih
    have hnb := nn_int hb.1
    have hii : (nI i).toInt = i := nI_toInt (by omega)
    have hic : (nI i).toNatClampNeg = i := nI_clamp (by omega)
    have hbi := nbF_in (sd := mA S 41) (tn := mA S 5) (ce := mA S 3) (n := i) (by omega)
    refine r_iload_n dX9_nextBoat_4 rfl rfl ?_
    refine r_aload_n dX9_nextBoat_5 rfl rfl ?_
    refine r_getI dX9_nextBoat_6 lf_X9_126 rfl rfl ?_
    refine r_icmp_ge 56 dX9_nextBoat_9 (by decide) (fun q9 => ?_) (fun q9 => ?_)
    · skip
      exact absurd q9 (by (try simp only [b2i_eq0, b2i_ne0, decide_eq_true_eq] at *); (try simp only [mI, mA, sI_setA, sI_setQ, sI_setR, sA_setI, sA_setR, sA_setQ, fa_lt, fa_le, fa_eq, Int32.reduceToInt] at *); omega)
    · skip
      refine r_aload_n dX9_nextBoat_12 rfl rfl ?_
      refine r_getR dX9_nextBoat_13 lf_X9_105 rfl rfl (shM_R h (j := 41) rfl) (shM_L h (j := 41) rfl) ?_
      refine r_iload_n dX9_nextBoat_16 rfl rfl ?_
      refine r_zald dX9_nextBoat_17 rfl (show vp_in _ 12 from vp_in_iff.mpr (by (try simp only [b2i_eq0, b2i_ne0, decide_eq_true_eq] at *); (try simp only [mI, mA, sI_setA, sI_setQ, sI_setR, sA_setI, sA_setR, sA_setQ, fa_lt, fa_le, fa_eq, Int32.reduceToInt] at *); omega)) ?_
      refine r_if_ne 50 dX9_nextBoat_18 (by decide) (fun q18 => ?_) (fun q18 => ?_)
      · skip
        refine r_in2 dX9_nextBoat_50 (show _ + Int32.ofInt 1 = _ + 1 from rfl) (Nat.le_of_ble_eq_true rfl) rfl ?_
        refine r_goto 4 dX9_nextBoat_53 (by decide) ?_
        rw [nI_1]
        have h9 := ih () trivial
        by_cases hcd : ((mA S 41 i = 0 ∧ 0 < (mA S 5 i).toInt) ∧ ((nbF (mA S 41) (mA S 5) (mA S 3) i) = -1 ∨ (minF (mA S 3 i)).toInt < (minF (mA S 3 (nbF (mA S 41) (mA S 5) (mA S 3) i).toNatClampNeg)).toInt))
        · rw [show (nbF (mA S 41) (mA S 5) (mA S 3) (i + 1)) = nI i from if_pos hcd] at h9
          first | exact h9 | (exfalso; (simp only [hic, mA, minF, fa_le, fa_eq, Int32.reduceToInt] at *); omega)
        · rw [show (nbF (mA S 41) (mA S 5) (mA S 3) (i + 1)) = (nbF (mA S 41) (mA S 5) (mA S 3) i) from if_neg hcd] at h9
          first | exact h9 | (exfalso; (simp only [hic, mA, minF, fa_le, fa_eq, Int32.reduceToInt] at *); omega)
      · skip
        refine r_aload_n dX9_nextBoat_21 rfl rfl ?_
        refine r_getR dX9_nextBoat_22 lf_X9_26 rfl rfl (shM_R h (j := 5) rfl) (shM_L h (j := 5) rfl) ?_
        refine r_iload_n dX9_nextBoat_25 rfl rfl ?_
        refine r_iald dX9_nextBoat_26 rfl (show vp_in _ 12 from vp_in_iff.mpr (by (try simp only [b2i_eq0, b2i_ne0, decide_eq_true_eq] at *); (try simp only [mI, mA, sI_setA, sI_setQ, sI_setR, sA_setI, sA_setR, sA_setQ, fa_lt, fa_le, fa_eq, Int32.reduceToInt] at *); omega)) ?_
        refine r_if_le 50 dX9_nextBoat_27 (by decide) (fun q27 => ?_) (fun q27 => ?_)
        · skip
          refine r_in2 dX9_nextBoat_50 (show _ + Int32.ofInt 1 = _ + 1 from rfl) (Nat.le_of_ble_eq_true rfl) rfl ?_
          refine r_goto 4 dX9_nextBoat_53 (by decide) ?_
          rw [nI_1]
          have h9 := ih () trivial
          by_cases hcd : ((mA S 41 i = 0 ∧ 0 < (mA S 5 i).toInt) ∧ ((nbF (mA S 41) (mA S 5) (mA S 3) i) = -1 ∨ (minF (mA S 3 i)).toInt < (minF (mA S 3 (nbF (mA S 41) (mA S 5) (mA S 3) i).toNatClampNeg)).toInt))
          · rw [show (nbF (mA S 41) (mA S 5) (mA S 3) (i + 1)) = nI i from if_pos hcd] at h9
            first | exact h9 | (exfalso; (simp only [hic, mA, minF, fa_le, fa_eq, Int32.reduceToInt] at *); omega)
          · rw [show (nbF (mA S 41) (mA S 5) (mA S 3) (i + 1)) = (nbF (mA S 41) (mA S 5) (mA S 3) i) from if_neg hcd] at h9
            first | exact h9 | (exfalso; (simp only [hic, mA, minF, fa_le, fa_eq, Int32.reduceToInt] at *); omega)
        · skip
          refine r_iload_n dX9_nextBoat_30 rfl rfl ?_
          refine r_iconst (v := (-1)) dX9_nextBoat_31 (by decide) ?_
          refine r_icmp_eq 48 dX9_nextBoat_32 (by decide) (fun q32 => ?_) (fun q32 => ?_)
          · skip
            refine r_iload_n dX9_nextBoat_48 rfl rfl ?_
            refine r_ist1 dX9_nextBoat_49 (Nat.le_of_ble_eq_true rfl) rfl ?_
            refine r_in2 dX9_nextBoat_50 (show _ + Int32.ofInt 1 = _ + 1 from rfl) (Nat.le_of_ble_eq_true rfl) rfl ?_
            refine r_goto 4 dX9_nextBoat_53 (by decide) ?_
            rw [nI_1]
            have h9 := ih () trivial
            by_cases hcd : ((mA S 41 i = 0 ∧ 0 < (mA S 5 i).toInt) ∧ ((nbF (mA S 41) (mA S 5) (mA S 3) i) = -1 ∨ (minF (mA S 3 i)).toInt < (minF (mA S 3 (nbF (mA S 41) (mA S 5) (mA S 3) i).toNatClampNeg)).toInt))
            · rw [show (nbF (mA S 41) (mA S 5) (mA S 3) (i + 1)) = nI i from if_pos hcd] at h9
              first | exact h9 | (exfalso; (simp only [hic, mA, minF, fa_le, fa_eq, Int32.reduceToInt] at *); omega)
            · rw [show (nbF (mA S 41) (mA S 5) (mA S 3) (i + 1)) = (nbF (mA S 41) (mA S 5) (mA S 3) i) from if_neg hcd] at h9
              first | exact h9 | (exfalso; (simp only [hic, mA, minF, fa_le, fa_eq, Int32.reduceToInt] at *); omega)
          · skip
            refine r_aload_n dX9_nextBoat_35 rfl rfl ?_
            refine r_iload_n dX9_nextBoat_36 rfl rfl ?_
            refine r_invV1i dX9_nextBoat_37 lm_X9_163 rfl (c_X9_minute _ S h (by (try simp only [b2i_eq0, b2i_ne0, decide_eq_true_eq] at *); (try simp only [mI, mA, sI_setA, sI_setQ, sI_setR, sA_setI, sA_setR, sA_setQ, fa_lt, fa_le, fa_eq, Int32.reduceToInt] at *); omega)) (Nat.le_of_ble_eq_true rfl) (Nat.le_of_ble_eq_true rfl) (Nat.zero_le _) (Nat.zero_le _) (fun r37 S37 hq37 => ?_)
            obtain ⟨rfl, hz37⟩ := hq37
            replace hz37 := hz37.symm
            subst hz37
            refine r_aload_n dX9_nextBoat_40 rfl rfl ?_
            refine r_iload_n dX9_nextBoat_41 rfl rfl ?_
            refine r_invV1i dX9_nextBoat_42 lm_X9_163 rfl (c_X9_minute _ S h (by rcases hbi with q | q; exact absurd q q32; omega)) (Nat.le_of_ble_eq_true rfl) (Nat.le_of_ble_eq_true rfl) (Nat.zero_le _) (Nat.zero_le _) (fun r42 S42 hq42 => ?_)
            obtain ⟨rfl, hz42⟩ := hq42
            replace hz42 := hz42.symm
            subst hz42
            refine r_icmp_ge 50 dX9_nextBoat_45 (by decide) (fun q45 => ?_) (fun q45 => ?_)
            · skip
              refine r_in2 dX9_nextBoat_50 (show _ + Int32.ofInt 1 = _ + 1 from rfl) (Nat.le_of_ble_eq_true rfl) rfl ?_
              refine r_goto 4 dX9_nextBoat_53 (by decide) ?_
              rw [nI_1]
              have h9 := ih () trivial
              by_cases hcd : ((mA S 41 i = 0 ∧ 0 < (mA S 5 i).toInt) ∧ ((nbF (mA S 41) (mA S 5) (mA S 3) i) = -1 ∨ (minF (mA S 3 i)).toInt < (minF (mA S 3 (nbF (mA S 41) (mA S 5) (mA S 3) i).toNatClampNeg)).toInt))
              · rw [show (nbF (mA S 41) (mA S 5) (mA S 3) (i + 1)) = nI i from if_pos hcd] at h9
                first | exact h9 | (exfalso; (simp only [hic, mA, minF, fa_le, fa_eq, Int32.reduceToInt] at *); omega)
              · rw [show (nbF (mA S 41) (mA S 5) (mA S 3) (i + 1)) = (nbF (mA S 41) (mA S 5) (mA S 3) i) from if_neg hcd] at h9
                first | exact h9 | (exfalso; (simp only [hic, mA, minF, fa_le, fa_eq, Int32.reduceToInt] at *); omega)
            · skip
              refine r_iload_n dX9_nextBoat_48 rfl rfl ?_
              refine r_ist1 dX9_nextBoat_49 (Nat.le_of_ble_eq_true rfl) rfl ?_
              refine r_in2 dX9_nextBoat_50 (show _ + Int32.ofInt 1 = _ + 1 from rfl) (Nat.le_of_ble_eq_true rfl) rfl ?_
              refine r_goto 4 dX9_nextBoat_53 (by decide) ?_
              rw [nI_1]
              have h9 := ih () trivial
              by_cases hcd : ((mA S 41 i = 0 ∧ 0 < (mA S 5 i).toInt) ∧ ((nbF (mA S 41) (mA S 5) (mA S 3) i) = -1 ∨ (minF (mA S 3 i)).toInt < (minF (mA S 3 (nbF (mA S 41) (mA S 5) (mA S 3) i).toNatClampNeg)).toInt))
              · rw [show (nbF (mA S 41) (mA S 5) (mA S 3) (i + 1)) = nI i from if_pos hcd] at h9
                first | exact h9 | (exfalso; (simp only [hic, mA, minF, fa_le, fa_eq, Int32.reduceToInt] at *); omega)
              · rw [show (nbF (mA S 41) (mA S 5) (mA S 3) (i + 1)) = (nbF (mA S 41) (mA S 5) (mA S 3) i) from if_neg hcd] at h9
                first | exact h9 | (exfalso; (simp only [hic, mA, minF, fa_le, fa_eq, Int32.reduceToInt] at *); omega)
set_option maxHeartbeats 4000000 in
theorem c_X9_sell {l : Launch} {G : va_G} {cy : Nat → ClassId} (b y n : Int32) (S : HS) (h : ShM S) (hb : 0 ≤ b.toInt ∧ b.toInt < 12) (hy : 0 ≤ y.toInt ∧ y.toInt < 4) (hl : 0 ≤ (mI S 27).toInt ∧ (mI S 27).toInt < 400) : Cn l G cy yX9_sell cX9_sell 4 none 1 [.ref 2000, .int b, .int y, .int n] S 0 0 (qV (fun S2 => S2 = sellS S b y n)) := by
  refine Cn.of [some (.ref 2000), some (.int b), some (.int y), some (.int n)] (by decide) rfl (Nat.le_of_ble_eq_true rfl) ?_
  refine r_aload_n dX9_sell_0 rfl rfl ?_
  refine r_getR dX9_sell_1 lf_X9_102 rfl rfl (shM_R (h.same rfl rfl) (j := 40) rfl) (shM_L (h.same rfl rfl) (j := 40) rfl) ?_
  refine r_iload_n dX9_sell_4 rfl rfl ?_
  refine r_dup2 dX9_sell_5 rfl rfl ?_
  refine r_iald dX9_sell_6 rfl (show vp_in _ 4 from vp_in_iff.mpr hy) ?_
  refine r_iload_n dX9_sell_7 rfl rfl ?_
  refine r_isub dX9_sell_8 ?_
  refine r_iast dX9_sell_9 rfl (show vp_in _ 4 from vp_in_iff.mpr hy) ?_
  refine r_aload_n dX9_sell_10 rfl rfl ?_
  refine r_getR dX9_sell_11 lf_X9_29 rfl rfl (shM_R (h.same rfl rfl) (j := 6) rfl) (shM_L (h.same rfl rfl) (j := 6) rfl) ?_
  refine r_iload_n dX9_sell_14 rfl rfl ?_
  refine r_dup2 dX9_sell_15 rfl rfl ?_
  refine r_iald dX9_sell_16 rfl (show vp_in _ 12 from vp_in_iff.mpr hb) ?_
  refine r_iload_n dX9_sell_17 rfl rfl ?_
  refine r_aload_n dX9_sell_18 rfl rfl ?_
  refine r_getR dX9_sell_19 lf_X9_47 rfl rfl (shM_R (h.same rfl rfl) (j := 12) rfl) (shM_L (h.same rfl rfl) (j := 12) rfl) ?_
  refine r_iload_n dX9_sell_22 rfl rfl ?_
  refine r_iald dX9_sell_23 rfl (show vp_in _ 4 from vp_in_iff.mpr hy) ?_
  refine r_imul dX9_sell_24 ?_
  refine r_iadd dX9_sell_25 ?_
  refine r_iast dX9_sell_26 rfl (show vp_in _ 12 from vp_in_iff.mpr hb) ?_
  refine r_aload_n dX9_sell_27 rfl rfl ?_
  refine r_getR dX9_sell_28 lf_X9_50 rfl rfl (shM_R (h.same rfl rfl) (j := 13) rfl) (shM_L (h.same rfl rfl) (j := 13) rfl) ?_
  refine r_aload_n dX9_sell_31 rfl rfl ?_
  refine r_getI dX9_sell_32 lf_X9_173 rfl rfl ?_
  refine r_aload_n dX9_sell_35 rfl rfl ?_
  refine r_getI dX9_sell_36 lf_X9_183 rfl rfl ?_
  refine r_iast dX9_sell_39 rfl (show vp_in _ 400 from vp_in_iff.mpr hl) ?_
  refine r_aload_n dX9_sell_40 rfl rfl ?_
  refine r_getR dX9_sell_41 lf_X9_53 rfl rfl (shM_R (h.same rfl rfl) (j := 14) rfl) (shM_L (h.same rfl rfl) (j := 14) rfl) ?_
  refine r_aload_n dX9_sell_44 rfl rfl ?_
  refine r_getI dX9_sell_45 lf_X9_173 rfl rfl ?_
  refine r_iload_n dX9_sell_48 rfl rfl ?_
  refine r_iast dX9_sell_49 rfl (show vp_in _ 400 from vp_in_iff.mpr hl) ?_
  refine r_aload_n dX9_sell_50 rfl rfl ?_
  refine r_getR dX9_sell_51 lf_X9_56 rfl rfl (shM_R (h.same rfl rfl) (j := 15) rfl) (shM_L (h.same rfl rfl) (j := 15) rfl) ?_
  refine r_aload_n dX9_sell_54 rfl rfl ?_
  refine r_getI dX9_sell_55 lf_X9_173 rfl rfl ?_
  refine r_aload_n dX9_sell_58 rfl rfl ?_
  refine r_getR dX9_sell_59 lf_X9_20 rfl rfl (shM_R (h.same rfl rfl) (j := 3) rfl) (shM_L (h.same rfl rfl) (j := 3) rfl) ?_
  refine r_iload_n dX9_sell_62 rfl rfl ?_
  refine r_iald dX9_sell_63 rfl (show vp_in _ 12 from vp_in_iff.mpr hb) ?_
  refine r_iast dX9_sell_64 rfl (show vp_in _ 400 from vp_in_iff.mpr hl) ?_
  refine r_aload_n dX9_sell_65 rfl rfl ?_
  refine r_getR dX9_sell_66 lf_X9_59 rfl rfl (shM_R (h.same rfl rfl) (j := 16) rfl) (shM_L (h.same rfl rfl) (j := 16) rfl) ?_
  refine r_aload_n dX9_sell_69 rfl rfl ?_
  refine r_getI dX9_sell_70 lf_X9_173 rfl rfl ?_
  refine r_iload_n dX9_sell_73 rfl rfl ?_
  refine r_iast dX9_sell_74 rfl (show vp_in _ 400 from vp_in_iff.mpr hl) ?_
  refine r_aload_n dX9_sell_75 rfl rfl ?_
  refine r_getR dX9_sell_76 lf_X9_62 rfl rfl (shM_R (h.same rfl rfl) (j := 17) rfl) (shM_L (h.same rfl rfl) (j := 17) rfl) ?_
  refine r_aload_n dX9_sell_79 rfl rfl ?_
  refine r_getI dX9_sell_80 lf_X9_173 rfl rfl ?_
  refine r_iload_n dX9_sell_83 rfl rfl ?_
  refine r_iast dX9_sell_84 rfl (show vp_in _ 400 from vp_in_iff.mpr hl) ?_
  refine r_aload_n dX9_sell_85 rfl rfl ?_
  refine r_getR dX9_sell_86 lf_X9_71 rfl rfl (shM_R (h.same rfl rfl) (j := 20) rfl) (shM_L (h.same rfl rfl) (j := 20) rfl) ?_
  refine r_aload_n dX9_sell_89 rfl rfl ?_
  refine r_getI dX9_sell_90 lf_X9_173 rfl rfl ?_
  refine r_aload_n dX9_sell_93 rfl rfl ?_
  refine r_iload_n dX9_sell_94 rfl rfl ?_
  refine r_invV1i dX9_sell_95 lm_X9_163 rfl (c_X9_minute _ _ (h.same rfl rfl) hb) (Nat.le_of_ble_eq_true rfl) (Nat.le_of_ble_eq_true rfl) (Nat.zero_le _) (Nat.zero_le _) (fun r95 S95 hq95 => ?_)
  obtain ⟨rfl, hz95⟩ := hq95
  replace hz95 := hz95.symm
  subst hz95
  refine r_iast dX9_sell_98 rfl (show vp_in _ 400 from vp_in_iff.mpr hl) ?_
  refine r_aload_n dX9_sell_99 rfl rfl ?_
  refine r_getR dX9_sell_100 lf_X9_74 rfl rfl (shM_R (h.same rfl rfl) (j := 21) rfl) (shM_L (h.same rfl rfl) (j := 21) rfl) ?_
  refine r_aload_n dX9_sell_103 rfl rfl ?_
  refine r_getI dX9_sell_104 lf_X9_173 rfl rfl ?_
  refine r_aload_n dX9_sell_107 rfl rfl ?_
  refine r_getR dX9_sell_108 lf_X9_47 rfl rfl (shM_R (h.same rfl rfl) (j := 12) rfl) (shM_L (h.same rfl rfl) (j := 12) rfl) ?_
  refine r_iload_n dX9_sell_111 rfl rfl ?_
  refine r_iald dX9_sell_112 rfl (show vp_in _ 4 from vp_in_iff.mpr hy) ?_
  refine r_iast dX9_sell_113 rfl (show vp_in _ 400 from vp_in_iff.mpr hl) ?_
  refine r_aload_n dX9_sell_114 rfl rfl ?_
  refine r_dup dX9_sell_115 rfl ?_
  refine r_getI dX9_sell_116 lf_X9_173 rfl rfl ?_
  refine r_iconst (v := 1) dX9_sell_119 (by decide) ?_
  refine r_iadd dX9_sell_120 ?_
  refine r_putI dX9_sell_121 (lp_X9_173 _) rfl rfl ?_
  exact r_vret dX9_sell_124 rfl (Nat.zero_le _) (Nat.zero_le _) ⟨rfl, rfl⟩
