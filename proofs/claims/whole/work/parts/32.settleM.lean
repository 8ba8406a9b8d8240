/-! ===== the reference: settle ===== -/
theorem nI_nn {x : Int32} (h : 0 ≤ x.toInt) : nI (nn x) = x := by
  rw [fa_eq, nI_toInt (by have := (fb_rng x).2; unfold nn; omega)]
  exact nn_int h
theorem nI_8 (a : Nat) : 8 * nI a = nI (8 * a) := by
  rw [show (8 : Int32) * nI a = nI a + nI a + nI a + nI a + nI a + nI a + nI a + nI a from ?_]
  · simp only [nI_add]; congr 1; omega
  · apply Int32.toBitVec_inj.mp
    simp only [Int32.toBitVec_mul, Int32.toBitVec_add]
    rw [show (8 : Int32).toBitVec = 8#32 from rfl]
    generalize (nI a).toBitVec = x
    apply BitVec.eq_of_toNat_eq
    simp only [BitVec.toNat_mul, BitVec.toNat_add, BitVec.toNat_ofNat]
    omega
/-- the reference's own rows for parting, set -/
def scM (S : HS) (a b c d : Nat → Int32) : HS := setA (setA (setA (setA S (ma 35) a) (ma 36) b) (ma 37) c) (ma 38) d
theorem scM_A {S : HS} {a b c d : Nat → Int32} {j : Nat} (h : j < 35 ∨ 38 < j) : sA (scM S a b c d) (ma j) = sA S (ma j) := by
  unfold scM
  rw [sA_setn (by unfold ma; omega), sA_setn (by unfold ma; omega), sA_setn (by unfold ma; omega), sA_setn (by unfold ma; omega)]
theorem scM_A35 {S : HS} {a b c d : Nat → Int32} : sA (scM S a b c d) (ma 35) = a := by
  unfold scM
  rw [sA_setn (by decide), sA_setn (by decide), sA_setn (by decide), sA_set]
theorem scM_A36 {S : HS} {a b c d : Nat → Int32} : sA (scM S a b c d) (ma 36) = b := by
  unfold scM
  rw [sA_setn (by decide), sA_setn (by decide), sA_set]
theorem scM_A37 {S : HS} {a b c d : Nat → Int32} : sA (scM S a b c d) (ma 37) = c := by
  unfold scM
  rw [sA_setn (by decide), sA_set]
theorem scM_A38 {S : HS} {a b c d : Nat → Int32} : sA (scM S a b c d) (ma 38) = d := by
  unfold scM
  rw [sA_set]
theorem scM_self (S : HS) : S = scM S (mA S 35) (mA S 36) (mA S 37) (mA S 38) := by
  unfold scM
  conv => rhs; rw [setA_self]
  rw [show mA S 36 = sA S (ma 36) from rfl, setA_self, setA_self, setA_self]
theorem scM_35 (S : HS) (a b c d r : Nat → Int32) : setA (scM S a b c d) (ma 35) r = scM S r b c d := by
  unfold scM
  rw [setA_comm _ (show ma 38 ≠ ma 35 by decide), setA_comm _ (show ma 37 ≠ ma 35 by decide), setA_comm _ (show ma 36 ≠ ma 35 by decide), setA_setA]
theorem scM_36 (S : HS) (a b c d r : Nat → Int32) : setA (scM S a b c d) (ma 36) r = scM S a r c d := by
  unfold scM
  rw [setA_comm _ (show ma 38 ≠ ma 36 by decide), setA_comm _ (show ma 37 ≠ ma 36 by decide), setA_setA]
theorem scM_37 (S : HS) (a b c d r : Nat → Int32) : setA (scM S a b c d) (ma 37) r = scM S a b r d := by
  unfold scM
  rw [setA_comm _ (show ma 38 ≠ ma 37 by decide), setA_setA]
theorem scM_38 (S : HS) (a b c d r : Nat → Int32) : setA (scM S a b c d) (ma 38) r = scM S a b c r := by
  unfold scM
  rw [setA_setA]
theorem scM_o (S : HS) (a b c d r : Nat → Int32) {j : Nat} (h : j < 35 ∨ 38 < j) : setA (scM S a b c d) (ma j) r = scM (setA S (ma j) r) a b c d := by
  unfold scM
  rw [setA_comm _ (show ma 38 ≠ ma j by unfold ma; omega), setA_comm _ (show ma 37 ≠ ma j by unfold ma; omega), setA_comm _ (show ma 36 ≠ ma j by unfold ma; omega), setA_comm _ (show ma 35 ≠ ma j by unfold ma; omega)]
theorem scM_pa (n : Nat) (m : Nat → Nat) (many : Nat) (S : HS) (a b c d : Nat → Int32) (t : Nat) : paS n m many (scM S a b c d) t = scM S a (shT n m many b t) (moT n m many c t) d := by
  unfold paS
  rw [show mA (scM S a b c d) 36 = b from scM_A36, show mA (scM S a b c d) 37 = c from scM_A37, scM_36, scM_37]
theorem scM_I (S : HS) (a b c d : Nat → Int32) (j : Nat) : mI (scM S a b c d) j = mI S j := rfl
theorem ShM.scM {S : HS} (h : ShM S) (a b c d : Nat → Int32) : ShM (scM S a b c d) := h.same rfl rfl
theorem ShM.setA {S : HS} (h : ShM S) (t : Nat) (r : Nat → Int32) : ShM (setA S t r) := h.same rfl rfl
theorem ShM.setI {S : HS} (h : ShM S) (f a : Nat) (v : Int32) : ShM (setI S f a v) := h.same rfl rfl
theorem shT_prt {n : Nat} {m : Nat → Nat} {many k : Nat} {old : Nat → Int32} (hk : k < many) : shT n m many old (pL n m many) k = nI (prt n m many k) := if_pos hk
set_option maxHeartbeats 4000000 in
theorem c_X9_settle {l : Launch} {G : va_G} {cy : Nat → ClassId} (bb : Nat) (S : HS) (h : ShM S) (hb : 0 ≤ (mI S 25).toInt ∧ (mI S 25).toInt ≤ 12) (hbb : (bb : Int) < (mI S 25).toInt) (hp : ∀ j, j < 96 → 0 ≤ (mA S 8 j).toInt ∧ (mA S 8 j).toInt ≤ 100) (how : 0 ≤ (mA S 6 bb).toInt) : Cn l G cy yX9_settle cX9_settle 5 (some .int) 2 [.ref 2000, .int (nI bb)] S 0 0 (qI (fun r S2 => (r = if (0 < fb_sm (fun k => nn (mA S 8 (8 * bb + k))) 8 ∧ ¬ (mA S 6 bb) = 0) then (mA S 6 bb) else -1) ∧ ∃ a b c, S2 = scM (if (0 < fb_sm (fun k => nn (mA S 8 (8 * bb + k))) 8 ∧ ¬ (mA S 6 bb) = 0) then setA (setA S (ma 9) (fb_put (mA S 9) (fun k => mA S 9 (8 * bb + k) + nI (prt (nn (mA S 6 bb)) (fun k => nn (mA S 8 (8 * bb + k))) 8 k)) (8 * bb) 8)) (ma 6) (upd (mA S 6) bb 0) else S) a b c (mA S 38))) := by
  refine Cn.of [some (.ref 2000), some (.int (nI bb)), none, none, none] (by decide) rfl (Nat.le_of_ble_eq_true rfl) ?_
  have hsh := h
  have hbi : (nI bb).toInt = (bb : Nat) := nI_toInt (by omega)
  have hbc : (nI bb).toNatClampNeg = bb := nI_clamp (by omega)
  have hsm : fb_sm (fun k => nn (mA S 8 (8 * bb + k))) 8 ≤ 800 := by
    have := fb_sm_bound (f := (fun k => nn (mA S 8 (8 * bb + k)))) (c := 100) (n := 8) (fun k hk => by have := hp (8 * bb + k) (by omega); show nn _ ≤ 100; unfold nn; omega)
    omega
  refine R.heap (S2 := (scM S (fillR (fun k => mA S 8 (8 * bb + k)) (mA S 35) 0) (mA S 36) (mA S 37) (mA S 38))) (scM_self S) ?_
  refine r_iconst (v := 0) dX9_settle_0 (by decide) ?_
  refine r_ist2 dX9_settle_1 (Nat.le_of_ble_eq_true rfl) rfl ?_
  refine r_iconst (v := 0) dX9_settle_2 (by decide) ?_
  refine r_ist3 dX9_settle_3 (Nat.le_of_ble_eq_true rfl) rfl ?_
  refine R.for (α := Unit) (8) (fun i a => [some (.ref 2000), some (.int (nI bb)), some (.int (nI (fb_sm (fun k => nn (mA S 8 (8 * bb + k))) i))), some (.int (nI i)), none]) (fun i a => (scM S (fillR (fun k => mA S 8 (8 * bb + k)) (mA S 35) i) (mA S 36) (mA S 37) (mA S 38))) (fun i a => True) ?_ ?_ 0 () (Nat.zero_le _) trivial
  · intro a hI
    have hii : (nI 8).toInt = (8 : Nat) := nI_toInt (by omega)
    refine r_iload_n dX9_settle_4 rfl rfl ?_
    refine r_bipush (v := 8) dX9_settle_5 (by decide) ?_
    refine r_icmp_ge 50 dX9_settle_7 (by decide) (fun q7 => ?_) (fun q7 => ?_)
    · skip
      replace hsh : ShM (scM S (fillR (fun k => mA S 8 (8 * bb + k)) (mA S 35) 8) (mA S 36) (mA S 37) (mA S 38)) := h.scM _ _ _ _
      have h6 : sA (scM S (fillR (fun k => mA S 8 (8 * bb + k)) (mA S 35) 8) (mA S 36) (mA S 37) (mA S 38)) (ma 6) = mA S 6 := scM_A (Or.inl (by decide))
      refine r_iload_n dX9_settle_50 rfl rfl ?_
      refine r_if_eq 63 dX9_settle_51 (by decide) (fun q51 => ?_) (fun q51 => ?_)
      · skip
        refine r_iconst (v := (-1)) dX9_settle_63 (by decide) ?_
        exact r_iret dX9_settle_64 rfl (Nat.zero_le _) (Nat.zero_le _) ⟨_, rfl, by
            have hc : ¬ (0 < fb_sm (fun k => nn (mA S 8 (8 * bb + k))) 8 ∧ ¬ (mA S 6 bb) = 0) := by
              first
                | (intro hh; have := nI_ne0 hh.1 (by omega); exact this q51)
                | exact fun hh => hh.2 q60
            rw [if_neg hc, if_neg hc]
            exact ⟨rfl, _, _, _, rfl⟩⟩
      · skip
        refine r_aload_n dX9_settle_54 rfl rfl ?_
        refine r_getR dX9_settle_55 lf_X9_29 rfl rfl (shM_R hsh (j := 6) rfl) (shM_L hsh (j := 6) rfl) ?_
        refine r_iload_n dX9_settle_58 rfl rfl ?_
        refine r_iald dX9_settle_59 rfl (show vp_in (nI bb) 12 from vp_in_nI (by omega) (by omega)) ?_
        rw [hbc, h6]
        refine r_if_ne 65 dX9_settle_60 (by decide) (fun q60 => ?_) (fun q60 => ?_)
        · skip
          refine r_aload_n dX9_settle_65 rfl rfl ?_
          refine r_getR dX9_settle_66 lf_X9_29 rfl rfl (shM_R hsh (j := 6) rfl) (shM_L hsh (j := 6) rfl) ?_
          refine r_iload_n dX9_settle_69 rfl rfl ?_
          refine r_iald dX9_settle_70 rfl (show vp_in (nI bb) 12 from vp_in_nI (by omega) (by omega)) ?_
          rw [hbc, h6]
          have h0 : 0 < fb_sm (fun k => nn (mA S 8 (8 * bb + k))) 8 := Nat.pos_of_ne_zero (fun q => q51 (by rw [q]; rfl))
          refine r_ist3 dX9_settle_71 (Nat.le_of_ble_eq_true rfl) rfl ?_
          refine r_aload_n dX9_settle_72 rfl rfl ?_
          refine r_iload_n dX9_settle_73 rfl rfl ?_
          refine r_i2l dX9_settle_74 ?_
          refine r_bipush (v := 8) dX9_settle_75 (by decide) ?_
          rw [show ((mA S 6 bb)).toInt64 = lN (nn (mA S 6 bb)) from by rw [← nI_l (by have := (fb_rng (mA S 6 bb)).2; unfold nn; omega), nI_nn how]]
          refine R.heap (S2 := (scM S (fillR (fun k => mA S 8 (8 * bb + k)) (mA S 35) 8) (mA S 36) (mA S 37) (mA S 38))) rfl ?_
          refine r_invV2v dX9_settle_77 lm_X9_149 rfl (c_X9_partAmong (nn (mA S 6 bb)) 8 (fun k => nn (mA S 8 (8 * bb + k))) (scM S (fillR (fun k => mA S 8 (8 * bb + k)) (mA S 35) 8) (mA S 36) (mA S 37) (mA S 38)) hsh (by have := (fb_rng (mA S 6 bb)).2; unfold nn; omega) (by decide) (fun k hk => ⟨by rw [show mA (scM S (fillR (fun k => mA S 8 (8 * bb + k)) (mA S 35) 8) (mA S 36) (mA S 37) (mA S 38)) 35 = _ from scM_A35, fillR_in hk]; exact (nI_nn (hp (8 * bb + k) (by omega)).1).symm, by have := hp (8 * bb + k) (by omega); show nn _ ≤ 100; unfold nn; omega⟩) h0) (Nat.le_of_ble_eq_true rfl) (Nat.le_of_ble_eq_true rfl) (Nat.zero_le _) (Nat.zero_le _) (fun S77 hq77 => ?_)
          replace hq77 : S77 = (scM (setA S (ma 9) (fb_put (mA S 9) (fun k => mA S 9 (8 * bb + k) + nI (prt (nn (mA S 6 bb)) (fun k => nn (mA S 8 (8 * bb + k))) 8 k)) (8 * bb) 0)) (fillR (fun k => mA S 8 (8 * bb + k)) (mA S 35) 8) (shT (nn (mA S 6 bb)) (fun k => nn (mA S 8 (8 * bb + k))) 8 (mA S 36) (pL (nn (mA S 6 bb)) (fun k => nn (mA S 8 (8 * bb + k))) 8)) (moT (nn (mA S 6 bb)) (fun k => nn (mA S 8 (8 * bb + k))) 8 (mA S 37) (pL (nn (mA S 6 bb)) (fun k => nn (mA S 8 (8 * bb + k))) 8)) (mA S 38)) := by
            rw [hq77, scM_pa]
            rw [fb_put_0, show mA S 9 = sA S (ma 9) from rfl, setA_self]
          subst hq77
          refine r_iconst (v := 0) dX9_settle_80 (by decide) ?_
          refine r_ist4 dX9_settle_81 (Nat.le_of_ble_eq_true rfl) rfl ?_
          refine R.for (α := Unit) (8) (fun i a => [some (.ref 2000), some (.int (nI bb)), some (.int (nI (fb_sm (fun k => nn (mA S 8 (8 * bb + k))) 8))), some (.int (mA S 6 bb)), some (.int (nI i))]) (fun i a => (scM (setA S (ma 9) (fb_put (mA S 9) (fun k => mA S 9 (8 * bb + k) + nI (prt (nn (mA S 6 bb)) (fun k => nn (mA S 8 (8 * bb + k))) 8 k)) (8 * bb) i)) (fillR (fun k => mA S 8 (8 * bb + k)) (mA S 35) 8) (shT (nn (mA S 6 bb)) (fun k => nn (mA S 8 (8 * bb + k))) 8 (mA S 36) (pL (nn (mA S 6 bb)) (fun k => nn (mA S 8 (8 * bb + k))) 8)) (moT (nn (mA S 6 bb)) (fun k => nn (mA S 8 (8 * bb + k))) 8 (mA S 37) (pL (nn (mA S 6 bb)) (fun k => nn (mA S 8 (8 * bb + k))) 8)) (mA S 38))) (fun i a => True) ?_ ?_ 0 () (Nat.zero_le _) trivial
          · intro a hI
            have hii : (nI 8).toInt = (8 : Nat) := nI_toInt (by omega)
            have hsh : ShM (scM (setA S (ma 9) (fb_put (mA S 9) (fun k => mA S 9 (8 * bb + k) + nI (prt (nn (mA S 6 bb)) (fun k => nn (mA S 8 (8 * bb + k))) 8 k)) (8 * bb) 8)) (fillR (fun k => mA S 8 (8 * bb + k)) (mA S 35) 8) (shT (nn (mA S 6 bb)) (fun k => nn (mA S 8 (8 * bb + k))) 8 (mA S 36) (pL (nn (mA S 6 bb)) (fun k => nn (mA S 8 (8 * bb + k))) 8)) (moT (nn (mA S 6 bb)) (fun k => nn (mA S 8 (8 * bb + k))) 8 (mA S 37) (pL (nn (mA S 6 bb)) (fun k => nn (mA S 8 (8 * bb + k))) 8)) (mA S 38)) := (h.setA _ _).scM _ _ _ _
            refine r_iload dX9_settle_83 rfl ?_
            refine r_bipush (v := 8) dX9_settle_85 (by decide) ?_
            refine r_icmp_ge 118 dX9_settle_87 (by decide) (fun q87 => ?_) (fun q87 => ?_)
            · skip
              refine r_aload_n dX9_settle_118 rfl rfl ?_
              refine r_getR dX9_settle_119 lf_X9_29 rfl rfl (shM_R hsh (j := 6) rfl) (shM_L hsh (j := 6) rfl) ?_
              refine r_iload_n dX9_settle_122 rfl rfl ?_
              refine r_iconst (v := 0) dX9_settle_123 (by decide) ?_
              refine r_iast dX9_settle_124 rfl (show vp_in (nI bb) 12 from vp_in_nI (by omega) (by omega)) ?_
              refine r_iload_n dX9_settle_125 rfl rfl ?_
              exact r_iret dX9_settle_126 rfl (Nat.zero_le _) (Nat.zero_le _) ⟨_, rfl, by
                  have hc : (0 < fb_sm (fun k => nn (mA S 8 (8 * bb + k))) 8 ∧ ¬ (mA S 6 bb) = 0) := ⟨h0, q60⟩
                  rw [if_pos hc, if_pos hc]
                  refine ⟨rfl, (fillR (fun k => mA S 8 (8 * bb + k)) (mA S 35) 8), shT (nn (mA S 6 bb)) (fun k => nn (mA S 8 (8 * bb + k))) 8 (mA S 36) (pL (nn (mA S 6 bb)) (fun k => nn (mA S 8 (8 * bb + k))) 8), moT (nn (mA S 6 bb)) (fun k => nn (mA S 8 (8 * bb + k))) 8 (mA S 37) (pL (nn (mA S 6 bb)) (fun k => nn (mA S 8 (8 * bb + k))) 8), ?_⟩
                  rw [hbc, scM_A (j := 6) (Or.inl (by decide)), sA_setn (show ma 6 ≠ ma 9 by decide), scM_o _ _ _ _ _ _ (Or.inl (by decide))]⟩
            · skip
              exact absurd q87 (by (try simp only [b2i_eq0, b2i_ne0, decide_eq_true_eq] at *); (try simp only [mI, mA, sI_setA, sI_setQ, sI_setR, sA_setI, sA_setR, sA_setQ, fa_lt, fa_le, fa_eq, Int32.reduceToInt] at *); omega)
          · intro i a hi hI ih
            have hii : (nI i).toInt = i := nI_toInt (by omega)
            have hic : (nI i).toNatClampNeg = i := nI_clamp (by omega)
            have hsh : ShM (scM (setA S (ma 9) (fb_put (mA S 9) (fun k => mA S 9 (8 * bb + k) + nI (prt (nn (mA S 6 bb)) (fun k => nn (mA S 8 (8 * bb + k))) 8 k)) (8 * bb) i)) (fillR (fun k => mA S 8 (8 * bb + k)) (mA S 35) 8) (shT (nn (mA S 6 bb)) (fun k => nn (mA S 8 (8 * bb + k))) 8 (mA S 36) (pL (nn (mA S 6 bb)) (fun k => nn (mA S 8 (8 * bb + k))) 8)) (moT (nn (mA S 6 bb)) (fun k => nn (mA S 8 (8 * bb + k))) 8 (mA S 37) (pL (nn (mA S 6 bb)) (fun k => nn (mA S 8 (8 * bb + k))) 8)) (mA S 38)) := (h.setA _ _).scM _ _ _ _
            have hx : 8 * nI bb + nI i = nI (8 * bb + i) := by rw [nI_8, nI_add]
            have hxi : (nI (8 * bb + i)).toInt = ((8 * bb + i : Nat) : Int) := nI_toInt (by omega)
            have hxc : (nI (8 * bb + i)).toNatClampNeg = 8 * bb + i := nI_clamp (by omega)
            refine r_iload dX9_settle_83 rfl ?_
            refine r_bipush (v := 8) dX9_settle_85 (by decide) ?_
            refine r_icmp_ge 118 dX9_settle_87 (by decide) (fun q87 => ?_) (fun q87 => ?_)
            · skip
              exact absurd q87 (by (try simp only [b2i_eq0, b2i_ne0, decide_eq_true_eq] at *); (try simp only [mI, mA, sI_setA, sI_setQ, sI_setR, sA_setI, sA_setR, sA_setQ, fa_lt, fa_le, fa_eq, Int32.reduceToInt] at *); omega)
            · skip
              refine r_aload_n dX9_settle_90 rfl rfl ?_
              refine r_getR dX9_settle_91 lf_X9_38 rfl rfl (shM_R hsh (j := 9) rfl) (shM_L hsh (j := 9) rfl) ?_
              refine r_bipush (v := 8) dX9_settle_94 (by decide) ?_
              refine r_iload_n dX9_settle_96 rfl rfl ?_
              refine r_imul dX9_settle_97 ?_
              refine r_iload dX9_settle_98 rfl ?_
              refine r_iadd dX9_settle_100 ?_
              refine r_dup2 dX9_settle_101 rfl rfl ?_
              rw [hx]
              refine r_iald dX9_settle_102 rfl (show vp_in (nI (8 * bb + i)) 96 from vp_in_nI (by omega) (by omega)) ?_
              refine r_aload_n dX9_settle_103 rfl rfl ?_
              refine r_getR dX9_settle_104 lf_X9_90 rfl rfl (shM_R hsh (j := 36) rfl) (shM_L hsh (j := 36) rfl) ?_
              refine r_iload dX9_settle_107 rfl ?_
              refine r_iald dX9_settle_109 rfl (show vp_in (nI i) 12 from vp_in_nI (by omega) (by omega)) ?_
              refine r_iadd dX9_settle_110 ?_
              refine r_iast dX9_settle_111 rfl (show vp_in (nI (8 * bb + i)) 96 from vp_in_nI (by omega) (by omega)) ?_
              refine r_in4 dX9_settle_112 (show _ + Int32.ofInt 1 = _ + 1 from rfl) (Nat.le_of_ble_eq_true rfl) rfl ?_
              refine r_goto 83 dX9_settle_115 (by decide) ?_
              rw [nI_1]
              refine R.heap (S2 := (scM (setA S (ma 9) (fb_put (mA S 9) (fun k => mA S 9 (8 * bb + k) + nI (prt (nn (mA S 6 bb)) (fun k => nn (mA S 8 (8 * bb + k))) 8 k)) (8 * bb) (i + 1))) (fillR (fun k => mA S 8 (8 * bb + k)) (mA S 35) 8) (shT (nn (mA S 6 bb)) (fun k => nn (mA S 8 (8 * bb + k))) 8 (mA S 36) (pL (nn (mA S 6 bb)) (fun k => nn (mA S 8 (8 * bb + k))) 8)) (moT (nn (mA S 6 bb)) (fun k => nn (mA S 8 (8 * bb + k))) 8 (mA S 37) (pL (nn (mA S 6 bb)) (fun k => nn (mA S 8 (8 * bb + k))) 8)) (mA S 38))) ?_ (ih () trivial)
              rw [scM_A (j := 9) (Or.inl (by decide)), sA_set, scM_A36, hic, hxc, fb_put_out (k := 8 * bb + i) (by omega), shT_prt hi, scM_o _ _ _ _ _ _ (Or.inl (by decide)), setA_setA, show mA S 9 (8 * bb + i) + nI (prt (nn (mA S 6 bb)) (fun k => nn (mA S 8 (8 * bb + k))) 8 i) = (fun k => mA S 9 (8 * bb + k) + nI (prt (nn (mA S 6 bb)) (fun k => nn (mA S 8 (8 * bb + k))) 8 k)) i from rfl, fb_put_succ]
        · skip
          refine r_iconst (v := (-1)) dX9_settle_63 (by decide) ?_
          exact r_iret dX9_settle_64 rfl (Nat.zero_le _) (Nat.zero_le _) ⟨_, rfl, by
              have hc : ¬ (0 < fb_sm (fun k => nn (mA S 8 (8 * bb + k))) 8 ∧ ¬ (mA S 6 bb) = 0) := by
                first
                  | (intro hh; have := nI_ne0 hh.1 (by omega); exact this q51)
                  | exact fun hh => hh.2 q60
              rw [if_neg hc, if_neg hc]
              exact ⟨rfl, _, _, _, rfl⟩⟩
    · skip
      exact absurd q7 (by (try simp only [b2i_eq0, b2i_ne0, decide_eq_true_eq] at *); (try simp only [mI, mA, sI_setA, sI_setQ, sI_setR, sA_setI, sA_setR, sA_setQ, fa_lt, fa_le, fa_eq, Int32.reduceToInt] at *); omega)
  · intro i a hi hI ih
    have hii : (nI i).toInt = i := nI_toInt (by omega)
    have hic : (nI i).toNatClampNeg = i := nI_clamp (by omega)
    have hsh : ShM (scM S (fillR (fun k => mA S 8 (8 * bb + k)) (mA S 35) i) (mA S 36) (mA S 37) (mA S 38)) := h.scM _ _ _ _
    have hx : 8 * nI bb + nI i = nI (8 * bb + i) := by rw [nI_8, nI_add]
    have hxi : (nI (8 * bb + i)).toInt = ((8 * bb + i : Nat) : Int) := nI_toInt (by omega)
    have hxc : (nI (8 * bb + i)).toNatClampNeg = 8 * bb + i := nI_clamp (by omega)
    have hpi := hp (8 * bb + i) (by omega)
    have h8 : sA (scM S (fillR (fun k => mA S 8 (8 * bb + k)) (mA S 35) i) (mA S 36) (mA S 37) (mA S 38)) (ma 8) = sA S (ma 8) := scM_A (Or.inl (by decide))
    refine r_iload_n dX9_settle_4 rfl rfl ?_
    refine r_bipush (v := 8) dX9_settle_5 (by decide) ?_
    refine r_icmp_ge 50 dX9_settle_7 (by decide) (fun q7 => ?_) (fun q7 => ?_)
    · skip
      exact absurd q7 (by (try simp only [b2i_eq0, b2i_ne0, decide_eq_true_eq] at *); (try simp only [mI, mA, sI_setA, sI_setQ, sI_setR, sA_setI, sA_setR, sA_setQ, fa_lt, fa_le, fa_eq, Int32.reduceToInt] at *); omega)
    · skip
      refine r_aload_n dX9_settle_10 rfl rfl ?_
      refine r_iload_n dX9_settle_11 rfl rfl ?_
      refine r_invV1i dX9_settle_12 lm_X9_136 rfl (c_X9_isBoat _ (scM S (fillR (fun k => mA S 8 (8 * bb + k)) (mA S 35) i) (mA S 36) (mA S 37) (mA S 38)) hsh (by rw [scM_I]; exact hb)) (Nat.le_of_ble_eq_true rfl) (Nat.le_of_ble_eq_true rfl) (Nat.zero_le _) (Nat.zero_le _) (fun r12 S12 hq12 => ?_)
      obtain ⟨rfl, hz12⟩ := hq12
      replace hz12 := hz12.symm
      subst hz12
      refine r_if_eq 50 dX9_settle_15 (by decide) (fun q15 => ?_) (fun q15 => ?_)
      · skip
        exact absurd (show _ ∧ _ from ⟨by omega, by rw [scM_I]; omega⟩) (b2i_eq0.mp q15)
      · skip
        refine r_aload_n dX9_settle_18 rfl rfl ?_
        refine r_getR dX9_settle_19 lf_X9_87 rfl rfl (shM_R hsh (j := 35) rfl) (shM_L hsh (j := 35) rfl) ?_
        refine r_iload_n dX9_settle_22 rfl rfl ?_
        refine r_aload_n dX9_settle_23 rfl rfl ?_
        refine r_getR dX9_settle_24 lf_X9_35 rfl rfl (shM_R hsh (j := 8) rfl) (shM_L hsh (j := 8) rfl) ?_
        refine r_bipush (v := 8) dX9_settle_27 (by decide) ?_
        refine r_iload_n dX9_settle_29 rfl rfl ?_
        refine r_imul dX9_settle_30 ?_
        refine r_iload_n dX9_settle_31 rfl rfl ?_
        refine r_iadd dX9_settle_32 ?_
        rw [hx]
        refine r_iald dX9_settle_33 rfl (show vp_in (nI (8 * bb + i)) 96 from vp_in_nI (by omega) (by omega)) ?_
        rw [hxc, h8]
        refine r_iast dX9_settle_34 rfl (show vp_in (nI i) 12 from vp_in_nI (by omega) (by omega)) ?_
        rw [hic, scM_A35, scM_35]
        have hsh : ShM (scM S (upd (fillR (fun k => mA S 8 (8 * bb + k)) (mA S 35) i) i (sA S (ma 8) (8 * bb + i))) (mA S 36) (mA S 37) (mA S 38)) := h.scM _ _ _ _
        refine r_iload_n dX9_settle_35 rfl rfl ?_
        refine r_aload_n dX9_settle_36 rfl rfl ?_
        refine r_getR dX9_settle_37 lf_X9_87 rfl rfl (shM_R hsh (j := 35) rfl) (shM_L hsh (j := 35) rfl) ?_
        refine r_iload_n dX9_settle_40 rfl rfl ?_
        refine r_iald dX9_settle_41 rfl (show vp_in (nI i) 12 from vp_in_nI (by omega) (by omega)) ?_
        rw [scM_A35, hic, pk_us]
        refine r_iadd dX9_settle_42 ?_
        refine r_ist2 dX9_settle_43 (Nat.le_of_ble_eq_true rfl) rfl ?_
        refine r_in3 dX9_settle_44 (show _ + Int32.ofInt 1 = _ + 1 from rfl) (Nat.le_of_ble_eq_true rfl) rfl ?_
        refine r_goto 4 dX9_settle_47 (by decide) ?_
        rw [nI_1]
        have h9 := ih () trivial
        have hs : fb_sm (fun k => nn (mA S 8 (8 * bb + k))) (i + 1) = fb_sm (fun k => nn (mA S 8 (8 * bb + k))) i + nn (mA S 8 (8 * bb + i)) := fb_sm_succ _ _
        rw [hs] at h9
        rw [show sA S (ma 8) (8 * bb + i) = nI (nn (mA S 8 (8 * bb + i))) from (nI_nn hpi.1).symm, nI_add]
        refine R.heap (S2 := (scM S (fillR (fun k => mA S 8 (8 * bb + k)) (mA S 35) (i + 1)) (mA S 36) (mA S 37) (mA S 38))) (by rw [nI_nn hpi.1]; rfl) h9
set_option maxHeartbeats 4000000 in
theorem c_X9_settleN {l : Launch} {G : va_G} {cy : Nat → ClassId} (bt : Int32) (S : HS) (h : ShM S) (hb : 0 ≤ (mI S 25).toInt ∧ (mI S 25).toInt ≤ 12) (hbb : ¬ (0 ≤ bt.toInt ∧ bt.toInt < (mI S 25).toInt)) : Cn l G cy yX9_settle cX9_settle 5 (some .int) 2 [.ref 2000, .int bt] S 0 0 (qI (fun r S2 => r = -1 ∧ S2 = S)) := by
  refine Cn.of [some (.ref 2000), some (.int bt), none, none, none] (by decide) rfl (Nat.le_of_ble_eq_true rfl) ?_
  refine r_iconst (v := 0) dX9_settle_0 (by decide) ?_
  refine r_ist2 dX9_settle_1 (Nat.le_of_ble_eq_true rfl) rfl ?_
  refine r_iconst (v := 0) dX9_settle_2 (by decide) ?_
  refine r_ist3 dX9_settle_3 (Nat.le_of_ble_eq_true rfl) rfl ?_
  refine r_iload_n dX9_settle_4 rfl rfl ?_
  refine r_bipush (v := 8) dX9_settle_5 (by decide) ?_
  refine r_icmp_ge 50 dX9_settle_7 (by decide) (fun q7 => ?_) (fun q7 => ?_)
  · skip
    exact absurd q7 (by decide)
  · skip
    refine r_aload_n dX9_settle_10 rfl rfl ?_
    refine r_iload_n dX9_settle_11 rfl rfl ?_
    refine r_invV1i dX9_settle_12 lm_X9_136 rfl (c_X9_isBoat _ S h hb) (Nat.le_of_ble_eq_true rfl) (Nat.le_of_ble_eq_true rfl) (Nat.zero_le _) (Nat.zero_le _) (fun r12 S12 hq12 => ?_)
    obtain ⟨rfl, hz12⟩ := hq12
    replace hz12 := hz12.symm
    subst hz12
    refine r_if_eq 50 dX9_settle_15 (by decide) (fun q15 => ?_) (fun q15 => ?_)
    · skip
      refine r_iload_n dX9_settle_50 rfl rfl ?_
      refine r_if_eq 63 dX9_settle_51 (by decide) (fun q51 => ?_) (fun q51 => ?_)
      · skip
        refine r_iconst (v := (-1)) dX9_settle_63 (by decide) ?_
        exact r_iret dX9_settle_64 rfl (Nat.zero_le _) (Nat.zero_le _) ⟨_, rfl, ⟨rfl, rfl⟩⟩
      · skip
        exact absurd rfl q51
    · skip
      exact absurd (b2i_ne0.mp q15) hbb
