/-! ===== the system: judge, fault, feed, copyFrom ===== -/
/-- the text of a brand -/
def txt (S : HS) (a : Int32) : Option Nat := if 0 ≤ a.toInt ∧ a.toInt < 4 then sQ S 10 (nn a) else none
def TxL (S : HS) : Prop := ∀ t, 0 ≤ (sI S (fid 5 1) t).toInt ∧ (sI S (fid 5 1) t).toInt ≤ 200
theorem txt_ok {S : HS} (h : ShC S) {a : Int32} {t : Nat} (e : txt S a = some t) : tk t = 5 ∧ sR S (fid 5 0) t = some (t + 1) ∧ t + 1 ∈ sL S ∧ tk (t + 1) = 10 ∧ tn (t + 1) = 200 := by
  unfold txt at e
  split at e
  · have hi : nn a < 4 := by unfold nn; omega
    rcases h.2.2.2.2.2.2.2.2.1 (nn a) hi with q | ⟨q, q2⟩
    · rw [q] at e; cases e
    · rw [q] at e
      have et : t = 300 + 2 * nn a := (Option.some.inj e).symm
      subst et
      rw [show 300 + 2 * nn a + 1 = 301 + 2 * nn a by omega]
      exact ⟨tkT hi, q2, h.2.2.2.2.2.2.2.2.2.1.1 _ _ _ q2, tkTb hi, tnTb hi⟩
  · cases e
theorem R.heap {l : Launch} {G : va_G} {cy : Nat → ClassId} {y : MethodName} {b : ByteArray} {nL : Nat} {rt : Option FieldType} {d mc ms : Nat} {Q : Option Value → HS → Prop} {pc : Nat} {lv : List (Option Value)} {st : List Value} {S S2 : HS} {k n : Nat} (e : S = S2) (h : R l G cy y b nL rt d mc ms Q pc lv st S2 k n) : R l G cy y b nL rt d mc ms Q pc lv st S k n := by rw [e]; exact h
theorem setV_self (S : HS) : S = setV S (sI S (fid 6 0) 16, sI S (fid 6 1) 16, sI S (fid 6 2) 16, sI S (fid 6 3) 16, sI S (fid 6 4) 16) := by
  unfold setV
  dsimp only
  rw [setI_self, setI_self, setI_self, setI_self, setI_self]
/-- what the verdict comes to, begun with a stale sign and number -/
def vFin (S : HS) (s0 n0 : Int32) (t q : Nat) (w : Int32) : VT := vPart (vEnd (mF S q w) (vRun (mF S q w) (sA S (t + 1)) (0, 1, 0, s0, n0) (nn (sI S (fid 5 1) t))))
theorem setG_self (S : HS) : S = setG S (sI S (fid 1 0) 15, sI S (fid 1 1) 15, sI S (fid 1 2) 15) := by
  unfold setG
  dsimp only
  rw [setI_self, setI_self, setI_self]
set_option maxHeartbeats 4000000 in
theorem c_X8_judge {l : Launch} {G : va_G} {cy : Nat → ClassId} (a z : Int32) (S : HS) (h : ShC S) (hx : TxL S) : Cn l G cy yX8_judge cX8_judge 5 (some .int) 4 [.ref 0, .int a, .int z] S 0 0 (qI (fun r S2 => r = (match txt S a with | none => (-1 : Int32) | some t => if 0 ≤ z.toInt ∧ z.toInt < (cI S 11).toInt then b2i ((vFin S (sI S (fid 6 3) 16) (sI S (fid 6 4) 16) t (1000 + nn z) (cI S 12)).1 &&& 1 = 1) else -1) ∧ ∃ v, S2 = setV S v)) := by
  refine Cn.of [some (.ref 0), some (.int a), some (.int z), none, none] (by decide) rfl (Nat.le_of_ble_eq_true rfl) ?_
  refine r_aload_n dX8_judge_0 rfl rfl ?_
  refine r_iload_n dX8_judge_1 rfl rfl ?_
  refine r_invV1r dX8_judge_2 lm_X8_159 rfl (c_X8_textAt _ _ h) (Nat.le_of_ble_eq_true rfl) (Nat.le_of_ble_eq_true rfl) (Nat.zero_le _) (Nat.zero_le _) (fun r2 S2 hq2 => ?_)
  obtain ⟨hr2, hz2⟩ := hq2
  replace hz2 := hz2.symm
  subst hz2
  replace hr2 : r2 = txt S a := hr2
  subst hr2
  cases hc2 : txt S a with
  | none =>
    refine r_ast3N dX8_judge_5 (Nat.le_of_ble_eq_true rfl) rfl ?_
    refine r_aload_n dX8_judge_6 rfl rfl ?_
    refine r_iload_n dX8_judge_7 rfl rfl ?_
    refine r_invV1r dX8_judge_8 lm_X8_163 rfl (c_X8_lotAt _ _ h) (Nat.le_of_ble_eq_true rfl) (Nat.le_of_ble_eq_true rfl) (Nat.zero_le _) (Nat.zero_le _) (fun r8 S8 hq8 => ?_)
    obtain ⟨rfl, hz8⟩ := hq8
    replace hz8 := hz8.symm
    subst hz8
    by_cases hc8 : 0 ≤ z.toInt ∧ z.toInt < (cI S 11).toInt
    · rw [if_pos (α := Option Nat) hc8]
      have hbb := h.l
      have hlt : nn z < 400 := by unfold nn; omega
      have hkl := tkLo hlt
      refine r_ast4 dX8_judge_11 (Nat.le_of_ble_eq_true rfl) rfl ?_
      refine r_aload_nN dX8_judge_13 rfl rfl ?_
      refine r_ifnullN 22 dX8_judge_14 (by decide) ?_
      refine r_iconst (v := (-1)) dX8_judge_22 (by decide) ?_
      exact r_iret dX8_judge_23 rfl (Nat.zero_le _) (Nat.zero_le _) ⟨_, rfl, ⟨by first | (simp only [hc2]; done) | (simp only [hc2]; exact (if_neg (by (try simp only [b2i_eq0, b2i_ne0, decide_eq_true_eq] at *); (try simp only [cI, sI_setA, sI_setQ, sI_setR, sA_setI, sA_setR, sA_setQ, fa_lt, fa_le, fa_eq, Int32.reduceToInt] at *); omega)).symm), _, setV_self S⟩⟩
    · rw [if_neg (α := Option Nat) hc8]
      have hbb := h.l
      refine r_ast4N dX8_judge_11 (Nat.le_of_ble_eq_true rfl) rfl ?_
      refine r_aload_nN dX8_judge_13 rfl rfl ?_
      refine r_ifnullN 22 dX8_judge_14 (by decide) ?_
      refine r_iconst (v := (-1)) dX8_judge_22 (by decide) ?_
      exact r_iret dX8_judge_23 rfl (Nat.zero_le _) (Nat.zero_le _) ⟨_, rfl, ⟨by first | (simp only [hc2]; done) | (simp only [hc2]; exact (if_neg (by (try simp only [b2i_eq0, b2i_ne0, decide_eq_true_eq] at *); (try simp only [cI, sI_setA, sI_setQ, sI_setR, sA_setI, sA_setR, sA_setQ, fa_lt, fa_le, fa_eq, Int32.reduceToInt] at *); omega)).symm), _, setV_self S⟩⟩
  | some t2 =>
    obtain ⟨x1, x2, x3, x4, x5⟩ := txt_ok h hc2
    refine r_ast3 dX8_judge_5 (Nat.le_of_ble_eq_true rfl) rfl ?_
    refine r_aload_n dX8_judge_6 rfl rfl ?_
    refine r_iload_n dX8_judge_7 rfl rfl ?_
    refine r_invV1r dX8_judge_8 lm_X8_163 rfl (c_X8_lotAt _ _ h) (Nat.le_of_ble_eq_true rfl) (Nat.le_of_ble_eq_true rfl) (Nat.zero_le _) (Nat.zero_le _) (fun r8 S8 hq8 => ?_)
    obtain ⟨rfl, hz8⟩ := hq8
    replace hz8 := hz8.symm
    subst hz8
    by_cases hc8 : 0 ≤ z.toInt ∧ z.toInt < (cI S 11).toInt
    · rw [if_pos (α := Option Nat) hc8]
      have hbb := h.l
      have hlt : nn z < 400 := by unfold nn; omega
      have hkl := tkLo hlt
      refine r_ast4 dX8_judge_11 (Nat.le_of_ble_eq_true rfl) rfl ?_
      refine r_aload_n dX8_judge_13 rfl rfl ?_
      refine r_ifnull dX8_judge_14 ?_
      refine r_aload dX8_judge_17 rfl ?_
      refine r_ifnonnull 24 dX8_judge_19 (by decide) ?_
      refine r_aload_n dX8_judge_24 rfl rfl ?_
      refine r_getR dX8_judge_25 lf_X8_62 rfl rfl (shR8_8 h.F) (shL_16 h.F) ?_
      refine r_aload_n dX8_judge_28 rfl rfl ?_
      refine r_aload dX8_judge_29 rfl ?_
      refine r_aload_n dX8_judge_31 rfl rfl ?_
      refine r_getI dX8_judge_32 lf_X8_118 rfl rfl ?_
      refine r_invV3i dX8_judge_35 lm_X8_167 rfl (c_X6_holds t2 (t2 + 1) (1000 + nn z) _ S x1 x2 x3 x4 x5 (hx t2) hkl) (Nat.le_of_ble_eq_true rfl) (Nat.le_of_ble_eq_true rfl) (Nat.zero_le _) (Nat.zero_le _) (fun r35 S35 hq35 => ?_)
      obtain ⟨rfl, hz35⟩ := hq35
      replace hz35 := hz35.symm
      subst hz35
      refine r_if_eq 45 dX8_judge_38 (by decide) (fun q38 => ?_) (fun q38 => ?_)
      · skip
        refine r_iconst (v := 0) dX8_judge_45 (by decide) ?_
        exact r_iret dX8_judge_46 rfl (Nat.zero_le _) (Nat.zero_le _) ⟨_, rfl, ⟨by simp only [hc2]; rw [if_pos hc8]; first | exact (b2i_t (by (simp only [b2i_ne0] at q38); exact q38)).symm | exact (b2i_f (by (simp only [b2i_eq0] at q38); exact q38)).symm, _, rfl⟩⟩
      · skip
        refine r_iconst (v := 1) dX8_judge_41 (by decide) ?_
        refine r_goto 46 dX8_judge_42 (by decide) ?_
        exact r_iret dX8_judge_46 rfl (Nat.zero_le _) (Nat.zero_le _) ⟨_, rfl, ⟨by simp only [hc2]; rw [if_pos hc8]; first | exact (b2i_t (by (simp only [b2i_ne0] at q38); exact q38)).symm | exact (b2i_f (by (simp only [b2i_eq0] at q38); exact q38)).symm, _, rfl⟩⟩
    · rw [if_neg (α := Option Nat) hc8]
      have hbb := h.l
      refine r_ast4N dX8_judge_11 (Nat.le_of_ble_eq_true rfl) rfl ?_
      refine r_aload_n dX8_judge_13 rfl rfl ?_
      refine r_ifnull dX8_judge_14 ?_
      refine r_aloadN dX8_judge_17 rfl ?_
      refine r_ifnonnullN dX8_judge_19 ?_
      refine r_iconst (v := (-1)) dX8_judge_22 (by decide) ?_
      exact r_iret dX8_judge_23 rfl (Nat.zero_le _) (Nat.zero_le _) ⟨_, rfl, ⟨by first | (simp only [hc2]; done) | (simp only [hc2]; exact (if_neg (by (try simp only [b2i_eq0, b2i_ne0, decide_eq_true_eq] at *); (try simp only [cI, sI_setA, sI_setQ, sI_setR, sA_setI, sA_setR, sA_setQ, fa_lt, fa_le, fa_eq, Int32.reduceToInt] at *); omega)).symm), _, setV_self S⟩⟩
set_option maxHeartbeats 4000000 in
theorem c_X8_fault {l : Launch} {G : va_G} {cy : Nat → ClassId} (S : HS) (h : ShF S) (hb : 0 ≤ (sI S (fid 5 1) 8).toInt ∧ (sI S (fid 5 1) 8).toInt ≤ 200) : Cn l G cy yX8_fault cX8_fault 1 (some .int) 4 [.ref 0] S 0 0 (qI (fun r S2 => ((∃ j, j < nn (sI S (fid 5 1) 8) ∧ (∀ k, k < j → gOk (sA S 9) k) ∧ ¬ gOk (sA S 9) j ∧ r = nI j) ∨ ((∀ k, k < nn (sI S (fid 5 1) 8) → gOk (sA S 9) k) ∧ r = if (gRun (sA S 9) (nn (sI S (fid 5 1) 8))).1.toInt = 3 ∧ (gRun (sA S 9) (nn (sI S (fid 5 1) 8))).2.1.toInt = 0 then -1 else sI S (fid 5 1) 8)) ∧ ∃ g : GT, S2 = setG S g)) := by
  refine Cn.of [some (.ref 0)] (by decide) rfl (Nat.le_of_ble_eq_true rfl) ?_
  refine r_aload_n dX8_fault_0 rfl rfl ?_
  refine r_getR dX8_fault_1 lf_X8_55 rfl rfl (shR8_7 h) (shL_15 h) ?_
  refine r_aload_n dX8_fault_4 rfl rfl ?_
  refine r_getR dX8_fault_5 lf_X8_37 rfl rfl (shR8_4 h) (shL_8 h) ?_
  refine r_invV1i dX8_fault_8 lm_X8_151 rfl (c_X1_faultOf 8 9 S rfl (shR5_0t h) (shL_9 h) rfl rfl hb) (Nat.le_of_ble_eq_true rfl) (Nat.le_of_ble_eq_true rfl) (Nat.zero_le _) (Nat.zero_le _) (fun r8 S8 hq8 => ?_)
  exact r_iret dX8_fault_11 rfl (Nat.zero_le _) (Nat.zero_le _) ⟨_, rfl, hq8⟩
set_option maxHeartbeats 4000000 in
theorem c_X5_copyFrom {l : Launch} {G : va_G} {cy : Nat → ClassId} (o ob u ub : Nat) (S : HS) (hk : tk o = 5) (hr : sR S (fid 5 0) o = some ob) (hl : ob ∈ sL S) (hkb : tk ob = 10) (hnb : tn ob = 200) (hk2 : tk u = 5) (hr2 : sR S (fid 5 0) u = some ub) (hl2 : ub ∈ sL S) (hkb2 : tk ub = 10) (hnb2 : tn ub = 200) (hou : o ≠ u) (hbb : ob ≠ ub) (hb : 0 ≤ (sI S (fid 5 1) u).toInt ∧ (sI S (fid 5 1) u).toInt ≤ 200) : Cn l G cy yX5_copyFrom cX5_copyFrom 3 none 1 [.ref o, .ref u] S 0 0 (qV (fun S2 => ∃ r, S2 = setA (setI S (fid 5 1) o (sI S (fid 5 1) u)) ob r ∧ ∀ j, j < nn (sI S (fid 5 1) u) → r j = sA S ub j)) := by
  refine Cn.of [some (.ref o), some (.ref u), none] (by decide) rfl (Nat.le_of_ble_eq_true rfl) ?_
  refine r_aload_n dX5_copyFrom_0 rfl rfl ?_
  refine r_aload_n dX5_copyFrom_1 rfl rfl ?_
  refine r_getI dX5_copyFrom_2 lf_X5_15 rfl hk2 ?_
  refine r_putI dX5_copyFrom_5 (lp_X5_15 _) rfl hk ?_
  refine R.heap (setA_self (setI S (fid 5 1) o (sI S (fid 5 1) u)) ob).symm ?_
  refine r_iconst (v := 0) dX5_copyFrom_8 (by decide) ?_
  refine r_ist2 dX5_copyFrom_9 (Nat.le_of_ble_eq_true rfl) rfl ?_
  refine R.for (α := (Nat → Int32)) (nn (sI S (fid 5 1) u)) (fun i a => [some (.ref o), some (.ref u), some (.int (nI i))]) (fun i a => (setA (setI S (fid 5 1) o (sI S (fid 5 1) u)) ob a)) (fun i a => ∀ j, j < i → a j = sA S ub j) ?_ ?_ 0 (sA S ob) (Nat.zero_le _) (fun j hj => absurd hj (Nat.not_lt_zero j))
  · intro a hI
    have hnb3 := nn_int hb.1
    have hgl : sI (setA (setI S (fid 5 1) o (sI S (fid 5 1) u)) ob a) (fid 5 1) o = sI S (fid 5 1) u := by simp [sI_setA, sI_setI, up2]
    have hii : (nI (nn (sI S (fid 5 1) u))).toInt = ((nn (sI S (fid 5 1) u) : Nat) : Int) := nI_toInt (by omega)
    refine r_iload_n dX5_copyFrom_10 rfl rfl ?_
    refine r_aload_n dX5_copyFrom_11 rfl rfl ?_
    refine r_getI dX5_copyFrom_12 lf_X5_15 rfl hk ?_
    refine r_icmp_ge 42 dX5_copyFrom_15 (by decide) (fun q15 => ?_) (fun q15 => ?_)
    · skip
      exact r_vret dX5_copyFrom_42 rfl (Nat.zero_le _) (Nat.zero_le _) ⟨rfl, ⟨_, rfl, hI⟩⟩
    · skip
      rw [hgl] at q15
      exact absurd q15 (by (try simp only [b2i_eq0, b2i_ne0, decide_eq_true_eq] at *); (try simp only [cI, sI_setA, sI_setQ, sI_setR, sA_setI, sA_setR, sA_setQ, fa_lt, fa_le, fa_eq, Int32.reduceToInt] at *); omega)
  · intro i a hi hI ih
    have hnb3 := nn_int hb.1
    have hgl : sI (setA (setI S (fid 5 1) o (sI S (fid 5 1) u)) ob a) (fid 5 1) o = sI S (fid 5 1) u := by simp [sI_setA, sI_setI, up2]
    have hii : (nI i).toInt = i := nI_toInt (by omega)
    have hic : (nI i).toNatClampNeg = i := nI_clamp (by omega)
    refine r_iload_n dX5_copyFrom_10 rfl rfl ?_
    refine r_aload_n dX5_copyFrom_11 rfl rfl ?_
    refine r_getI dX5_copyFrom_12 lf_X5_15 rfl hk ?_
    refine r_icmp_ge 42 dX5_copyFrom_15 (by decide) (fun q15 => ?_) (fun q15 => ?_)
    · skip
      rw [hgl] at q15
      exact absurd q15 (by (try simp only [b2i_eq0, b2i_ne0, decide_eq_true_eq] at *); (try simp only [cI, sI_setA, sI_setQ, sI_setR, sA_setI, sA_setR, sA_setQ, fa_lt, fa_le, fa_eq, Int32.reduceToInt] at *); omega)
    · skip
      refine r_iload_n dX5_copyFrom_18 rfl rfl ?_
      refine r_sipush (v := 200) dX5_copyFrom_19 (by decide) ?_
      refine r_icmp_ge 42 dX5_copyFrom_22 (by decide) (fun q22 => ?_) (fun q22 => ?_)
      · skip
        exact absurd q22 (by (try simp only [b2i_eq0, b2i_ne0, decide_eq_true_eq] at *); (try simp only [cI, sI_setA, sI_setQ, sI_setR, sA_setI, sA_setR, sA_setQ, fa_lt, fa_le, fa_eq, Int32.reduceToInt] at *); omega)
      · skip
        refine r_aload_n dX5_copyFrom_25 rfl rfl ?_
        refine r_getR dX5_copyFrom_26 lf_X5_9 rfl hk hr hl ?_
        refine r_iload_n dX5_copyFrom_29 rfl rfl ?_
        refine r_aload_n dX5_copyFrom_30 rfl rfl ?_
        refine r_iload_n dX5_copyFrom_31 rfl rfl ?_
        refine r_invV1i dX5_copyFrom_32 lm_X5_19 hk2 (c_X5_byteAt u ub _ _ hk2 hr2 hl2 hkb2 hnb2) (Nat.le_of_ble_eq_true rfl) (Nat.le_of_ble_eq_true rfl) (Nat.zero_le _) (Nat.zero_le _) (fun r32 S32 hq32 => ?_)
        obtain ⟨rfl, hz32⟩ := hq32
        replace hz32 := hz32.symm
        subst hz32
        rw [show (if 0 ≤ (nI i).toInt ∧ (nI i).toInt < 200 then sA (setA (setI S (fid 5 1) o (sI S (fid 5 1) u)) ob a) ub (nI i).toNatClampNeg else 0) = sA S ub i from by rw [if_pos (by omega), hic, sA_setA, va_up_ne _ _ (Ne.symm hbb)]; rfl]
        refine r_iast dX5_copyFrom_35 hkb (vq_cast hnb (vp_in_iff.mpr (by (try simp only [b2i_eq0, b2i_ne0, decide_eq_true_eq] at *); (try simp only [cI, sI_setA, sI_setQ, sI_setR, sA_setI, sA_setR, sA_setQ, fa_lt, fa_le, fa_eq, Int32.reduceToInt] at *); omega))) ?_
        refine r_in2 dX5_copyFrom_36 (show _ + Int32.ofInt 1 = _ + 1 from rfl) (Nat.le_of_ble_eq_true rfl) rfl ?_
        refine r_goto 10 dX5_copyFrom_39 (by decide) ?_
        rw [nI_1, setA_setA, show sA (setA (setI S (fid 5 1) o (sI S (fid 5 1) u)) ob a) ob = a from by simp [sA_setA, va_up], hic]
        exact ih (upd a i (sA S ub i)) (fun j hj => by
          by_cases hji : j = i
          · rw [hji, pk_us]
          · rw [pk_un hji]; exact hI j (by omega))
theorem setT_step2 (S : HS) (o ob : Nat) (s r : (Nat → Int32) × Int32) : setT (setT S o ob s) o ob r = setT S o ob r := setT_step S o ob s r.1 r.2
set_option maxHeartbeats 4000000 in
theorem c_X8_feed {l : Launch} {G : va_G} {cy : Nat → ClassId} (a b c e f : Int32) (S : HS) (h : ShF S) (hb : 0 ≤ (sI S (fid 5 1) 8).toInt ∧ (sI S (fid 5 1) 8).toInt ≤ 200) : Cn l G cy yX8_feed cX8_feed 7 (some .int) 1 [.ref 0, .int a, .int b, .int c, .int e, .int f] S 0 0 (qI (fun r S2 => (r = if ((cnt4 a 4 + cnt4 b 4 + cnt4 c 4 + cnt4 e 4 + cnt4 f 4).toInt ≤ (200 - sI S (fid 5 1) 8).toInt) then (awF f (awF e (awF c (awF b (awF a (sA S 9, sI S (fid 5 1) 8) 4) 4) 4) 4) 4).2 else -1) ∧ S2 = if ((cnt4 a 4 + cnt4 b 4 + cnt4 c 4 + cnt4 e 4 + cnt4 f 4).toInt ≤ (200 - sI S (fid 5 1) 8).toInt) then setT S 8 9 (awF f (awF e (awF c (awF b (awF a (sA S 9, sI S (fid 5 1) 8) 4) 4) 4) 4) 4) else S)) := by
  refine Cn.of [some (.ref 0), some (.int a), some (.int b), some (.int c), some (.int e), some (.int f), none] (by decide) rfl (Nat.le_of_ble_eq_true rfl) ?_
  refine r_iload_n dX8_feed_0 rfl rfl ?_
  refine r_invS1i dX8_feed_1 lm_X8_141 (c_X5_bytesIn _ _) (Nat.le_of_ble_eq_true rfl) (Nat.le_of_ble_eq_true rfl) (Nat.zero_le _) (Nat.zero_le _) (fun r1 S1 hq1 => ?_)
  obtain ⟨rfl, hz1⟩ := hq1
  replace hz1 := hz1.symm
  subst hz1
  refine r_iload_n dX8_feed_4 rfl rfl ?_
  refine r_invS1i dX8_feed_5 lm_X8_141 (c_X5_bytesIn _ _) (Nat.le_of_ble_eq_true rfl) (Nat.le_of_ble_eq_true rfl) (Nat.zero_le _) (Nat.zero_le _) (fun r5 S5 hq5 => ?_)
  obtain ⟨rfl, hz5⟩ := hq5
  replace hz5 := hz5.symm
  subst hz5
  refine r_iadd dX8_feed_8 ?_
  refine r_iload_n dX8_feed_9 rfl rfl ?_
  refine r_invS1i dX8_feed_10 lm_X8_141 (c_X5_bytesIn _ _) (Nat.le_of_ble_eq_true rfl) (Nat.le_of_ble_eq_true rfl) (Nat.zero_le _) (Nat.zero_le _) (fun r10 S10 hq10 => ?_)
  obtain ⟨rfl, hz10⟩ := hq10
  replace hz10 := hz10.symm
  subst hz10
  refine r_iadd dX8_feed_13 ?_
  refine r_iload dX8_feed_14 rfl ?_
  refine r_invS1i dX8_feed_16 lm_X8_141 (c_X5_bytesIn _ _) (Nat.le_of_ble_eq_true rfl) (Nat.le_of_ble_eq_true rfl) (Nat.zero_le _) (Nat.zero_le _) (fun r16 S16 hq16 => ?_)
  obtain ⟨rfl, hz16⟩ := hq16
  replace hz16 := hz16.symm
  subst hz16
  refine r_iadd dX8_feed_19 ?_
  refine r_iload dX8_feed_20 rfl ?_
  refine r_invS1i dX8_feed_22 lm_X8_141 (c_X5_bytesIn _ _) (Nat.le_of_ble_eq_true rfl) (Nat.le_of_ble_eq_true rfl) (Nat.zero_le _) (Nat.zero_le _) (fun r22 S22 hq22 => ?_)
  obtain ⟨rfl, hz22⟩ := hq22
  replace hz22 := hz22.symm
  subst hz22
  refine r_iadd dX8_feed_25 ?_
  refine r_ist6 dX8_feed_26 (Nat.le_of_ble_eq_true rfl) rfl ?_
  refine r_iload dX8_feed_28 rfl ?_
  refine r_sipush (v := 200) dX8_feed_30 (by decide) ?_
  refine r_aload_n dX8_feed_33 rfl rfl ?_
  refine r_getR dX8_feed_34 lf_X8_37 rfl rfl (shR8_4 h) (shL_8 h) ?_
  refine r_getI dX8_feed_37 lf_X8_145 rfl (by first | assumption | rfl) ?_
  refine r_isub dX8_feed_40 ?_
  refine r_icmp_le 46 dX8_feed_41 (by decide) (fun q41 => ?_) (fun q41 => ?_)
  · skip
    have ha1 := awF_len (w := a) (s := (sA S 9, sI S (fid 5 1) 8)) hb 4
    have hl1 : 0 ≤ (sI (setT S 8 9 (awF a (sA S 9, sI S (fid 5 1) 8) 4)) (fid 5 1) 8).toInt ∧ (sI (setT S 8 9 (awF a (sA S 9, sI S (fid 5 1) 8) 4)) (fid 5 1) 8).toInt ≤ 200 := by rw [show sI (setT S 8 9 (awF a (sA S 9, sI S (fid 5 1) 8) 4)) (fid 5 1) 8 = (awF a (sA S 9, sI S (fid 5 1) 8) 4).2 from by simp [setT, sI_setI, up2]]; exact ha1
    have ha2 := awF_len (w := b) (s := (awF a (sA S 9, sI S (fid 5 1) 8) 4)) ha1 4
    have hl2 : 0 ≤ (sI (setT S 8 9 (awF b (awF a (sA S 9, sI S (fid 5 1) 8) 4) 4)) (fid 5 1) 8).toInt ∧ (sI (setT S 8 9 (awF b (awF a (sA S 9, sI S (fid 5 1) 8) 4) 4)) (fid 5 1) 8).toInt ≤ 200 := by rw [show sI (setT S 8 9 (awF b (awF a (sA S 9, sI S (fid 5 1) 8) 4) 4)) (fid 5 1) 8 = (awF b (awF a (sA S 9, sI S (fid 5 1) 8) 4) 4).2 from by simp [setT, sI_setI, up2]]; exact ha2
    have ha3 := awF_len (w := c) (s := (awF b (awF a (sA S 9, sI S (fid 5 1) 8) 4) 4)) ha2 4
    have hl3 : 0 ≤ (sI (setT S 8 9 (awF c (awF b (awF a (sA S 9, sI S (fid 5 1) 8) 4) 4) 4)) (fid 5 1) 8).toInt ∧ (sI (setT S 8 9 (awF c (awF b (awF a (sA S 9, sI S (fid 5 1) 8) 4) 4) 4)) (fid 5 1) 8).toInt ≤ 200 := by rw [show sI (setT S 8 9 (awF c (awF b (awF a (sA S 9, sI S (fid 5 1) 8) 4) 4) 4)) (fid 5 1) 8 = (awF c (awF b (awF a (sA S 9, sI S (fid 5 1) 8) 4) 4) 4).2 from by simp [setT, sI_setI, up2]]; exact ha3
    have ha4 := awF_len (w := e) (s := (awF c (awF b (awF a (sA S 9, sI S (fid 5 1) 8) 4) 4) 4)) ha3 4
    have hl4 : 0 ≤ (sI (setT S 8 9 (awF e (awF c (awF b (awF a (sA S 9, sI S (fid 5 1) 8) 4) 4) 4) 4)) (fid 5 1) 8).toInt ∧ (sI (setT S 8 9 (awF e (awF c (awF b (awF a (sA S 9, sI S (fid 5 1) 8) 4) 4) 4) 4)) (fid 5 1) 8).toInt ≤ 200 := by rw [show sI (setT S 8 9 (awF e (awF c (awF b (awF a (sA S 9, sI S (fid 5 1) 8) 4) 4) 4) 4)) (fid 5 1) 8 = (awF e (awF c (awF b (awF a (sA S 9, sI S (fid 5 1) 8) 4) 4) 4) 4).2 from by simp [setT, sI_setI, up2]]; exact ha4
    refine r_aload_n dX8_feed_46 rfl rfl ?_
    refine r_getR dX8_feed_47 lf_X8_37 rfl rfl (shR8_4 h) (shL_8 h) ?_
    refine r_iload_n dX8_feed_50 rfl rfl ?_
    refine r_invV1v dX8_feed_51 lm_X8_148 rfl (c_X5_addWord 8 9 _ S rfl (shR5_0t h) (shL_9 h) rfl rfl hb) (Nat.le_of_ble_eq_true rfl) (Nat.le_of_ble_eq_true rfl) (Nat.zero_le _) (Nat.zero_le _) (fun S51 hq51 => ?_)
    replace hq51 := hq51.symm
    subst hq51
    refine r_aload_n dX8_feed_54 rfl rfl ?_
    refine r_getR dX8_feed_55 lf_X8_37 rfl rfl (shR8_4 h) (shL_8 h) ?_
    refine r_iload_n dX8_feed_58 rfl rfl ?_
    refine r_invV1v dX8_feed_59 lm_X8_148 rfl (c_X5_addWord 8 9 _ (setT S 8 9 (awF a (sA S 9, sI S (fid 5 1) 8) 4)) rfl (shR5_0t h) (shL_9 h) rfl rfl (hl1)) (Nat.le_of_ble_eq_true rfl) (Nat.le_of_ble_eq_true rfl) (Nat.zero_le _) (Nat.zero_le _) (fun S59 hq59 => ?_)
    replace hq59 : S59 = setT S 8 9 (awF b (awF a (sA S 9, sI S (fid 5 1) 8) 4) 4) := by
      rw [hq59, show sA (setT S 8 9 (awF a (sA S 9, sI S (fid 5 1) 8) 4)) 9 = (awF a (sA S 9, sI S (fid 5 1) 8) 4).1 from by simp [setT, sA_setI, sA_setA, va_up], show sI (setT S 8 9 (awF a (sA S 9, sI S (fid 5 1) 8) 4)) (fid 5 1) 8 = (awF a (sA S 9, sI S (fid 5 1) 8) 4).2 from by simp [setT, sI_setI, up2]]
      exact setT_step2 S 8 9 (awF a (sA S 9, sI S (fid 5 1) 8) 4) _
    subst hq59
    refine r_aload_n dX8_feed_62 rfl rfl ?_
    refine r_getR dX8_feed_63 lf_X8_37 rfl rfl (shR8_4 h) (shL_8 h) ?_
    refine r_iload_n dX8_feed_66 rfl rfl ?_
    refine r_invV1v dX8_feed_67 lm_X8_148 rfl (c_X5_addWord 8 9 _ (setT S 8 9 (awF b (awF a (sA S 9, sI S (fid 5 1) 8) 4) 4)) rfl (shR5_0t h) (shL_9 h) rfl rfl (hl2)) (Nat.le_of_ble_eq_true rfl) (Nat.le_of_ble_eq_true rfl) (Nat.zero_le _) (Nat.zero_le _) (fun S67 hq67 => ?_)
    replace hq67 : S67 = setT S 8 9 (awF c (awF b (awF a (sA S 9, sI S (fid 5 1) 8) 4) 4) 4) := by
      rw [hq67, show sA (setT S 8 9 (awF b (awF a (sA S 9, sI S (fid 5 1) 8) 4) 4)) 9 = (awF b (awF a (sA S 9, sI S (fid 5 1) 8) 4) 4).1 from by simp [setT, sA_setI, sA_setA, va_up], show sI (setT S 8 9 (awF b (awF a (sA S 9, sI S (fid 5 1) 8) 4) 4)) (fid 5 1) 8 = (awF b (awF a (sA S 9, sI S (fid 5 1) 8) 4) 4).2 from by simp [setT, sI_setI, up2]]
      exact setT_step2 S 8 9 (awF b (awF a (sA S 9, sI S (fid 5 1) 8) 4) 4) _
    subst hq67
    refine r_aload_n dX8_feed_70 rfl rfl ?_
    refine r_getR dX8_feed_71 lf_X8_37 rfl rfl (shR8_4 h) (shL_8 h) ?_
    refine r_iload dX8_feed_74 rfl ?_
    refine r_invV1v dX8_feed_76 lm_X8_148 rfl (c_X5_addWord 8 9 _ (setT S 8 9 (awF c (awF b (awF a (sA S 9, sI S (fid 5 1) 8) 4) 4) 4)) rfl (shR5_0t h) (shL_9 h) rfl rfl (hl3)) (Nat.le_of_ble_eq_true rfl) (Nat.le_of_ble_eq_true rfl) (Nat.zero_le _) (Nat.zero_le _) (fun S76 hq76 => ?_)
    replace hq76 : S76 = setT S 8 9 (awF e (awF c (awF b (awF a (sA S 9, sI S (fid 5 1) 8) 4) 4) 4) 4) := by
      rw [hq76, show sA (setT S 8 9 (awF c (awF b (awF a (sA S 9, sI S (fid 5 1) 8) 4) 4) 4)) 9 = (awF c (awF b (awF a (sA S 9, sI S (fid 5 1) 8) 4) 4) 4).1 from by simp [setT, sA_setI, sA_setA, va_up], show sI (setT S 8 9 (awF c (awF b (awF a (sA S 9, sI S (fid 5 1) 8) 4) 4) 4)) (fid 5 1) 8 = (awF c (awF b (awF a (sA S 9, sI S (fid 5 1) 8) 4) 4) 4).2 from by simp [setT, sI_setI, up2]]
      exact setT_step2 S 8 9 (awF c (awF b (awF a (sA S 9, sI S (fid 5 1) 8) 4) 4) 4) _
    subst hq76
    refine r_aload_n dX8_feed_79 rfl rfl ?_
    refine r_getR dX8_feed_80 lf_X8_37 rfl rfl (shR8_4 h) (shL_8 h) ?_
    refine r_iload dX8_feed_83 rfl ?_
    refine r_invV1v dX8_feed_85 lm_X8_148 rfl (c_X5_addWord 8 9 _ (setT S 8 9 (awF e (awF c (awF b (awF a (sA S 9, sI S (fid 5 1) 8) 4) 4) 4) 4)) rfl (shR5_0t h) (shL_9 h) rfl rfl (hl4)) (Nat.le_of_ble_eq_true rfl) (Nat.le_of_ble_eq_true rfl) (Nat.zero_le _) (Nat.zero_le _) (fun S85 hq85 => ?_)
    replace hq85 : S85 = setT S 8 9 (awF f (awF e (awF c (awF b (awF a (sA S 9, sI S (fid 5 1) 8) 4) 4) 4) 4) 4) := by
      rw [hq85, show sA (setT S 8 9 (awF e (awF c (awF b (awF a (sA S 9, sI S (fid 5 1) 8) 4) 4) 4) 4)) 9 = (awF e (awF c (awF b (awF a (sA S 9, sI S (fid 5 1) 8) 4) 4) 4) 4).1 from by simp [setT, sA_setI, sA_setA, va_up], show sI (setT S 8 9 (awF e (awF c (awF b (awF a (sA S 9, sI S (fid 5 1) 8) 4) 4) 4) 4)) (fid 5 1) 8 = (awF e (awF c (awF b (awF a (sA S 9, sI S (fid 5 1) 8) 4) 4) 4) 4).2 from by simp [setT, sI_setI, up2]]
      exact setT_step2 S 8 9 (awF e (awF c (awF b (awF a (sA S 9, sI S (fid 5 1) 8) 4) 4) 4) 4) _
    subst hq85
    refine r_aload_n dX8_feed_88 rfl rfl ?_
    refine r_getR dX8_feed_89 lf_X8_37 rfl rfl (shR8_4 h) (shL_8 h) ?_
    refine r_getI dX8_feed_92 lf_X8_145 rfl (by first | assumption | rfl) ?_
    exact r_iret dX8_feed_95 rfl (Nat.zero_le _) (Nat.zero_le _) ⟨_, rfl, ⟨by rw [if_pos (by (try simp only [b2i_eq0, b2i_ne0, decide_eq_true_eq] at *); (try simp only [cI, sI_setA, sI_setQ, sI_setR, sA_setI, sA_setR, sA_setQ, fa_lt, fa_le, fa_eq, Int32.reduceToInt] at *); omega)]; simp [setT, sI_setI, up2], (if_pos (by (try simp only [b2i_eq0, b2i_ne0, decide_eq_true_eq] at *); (try simp only [cI, sI_setA, sI_setQ, sI_setR, sA_setI, sA_setR, sA_setQ, fa_lt, fa_le, fa_eq, Int32.reduceToInt] at *); omega)).symm⟩⟩
  · skip
    refine r_iconst (v := (-1)) dX8_feed_44 (by decide) ?_
    exact r_iret dX8_feed_45 rfl (Nat.zero_le _) (Nat.zero_le _) ⟨_, rfl, by first | exact ⟨(if_pos (by (try simp only [b2i_eq0, b2i_ne0, decide_eq_true_eq] at *); (try simp only [cI, sI_setA, sI_setQ, sI_setR, sA_setI, sA_setR, sA_setQ, fa_lt, fa_le, fa_eq, Int32.reduceToInt] at *); omega)).symm, (if_pos (by (try simp only [b2i_eq0, b2i_ne0, decide_eq_true_eq] at *); (try simp only [cI, sI_setA, sI_setQ, sI_setR, sA_setI, sA_setR, sA_setQ, fa_lt, fa_le, fa_eq, Int32.reduceToInt] at *); omega)).symm⟩ | exact ⟨(if_neg (by (try simp only [b2i_eq0, b2i_ne0, decide_eq_true_eq] at *); (try simp only [cI, sI_setA, sI_setQ, sI_setR, sA_setI, sA_setR, sA_setQ, fa_lt, fa_le, fa_eq, Int32.reduceToInt] at *); omega)).symm, (if_neg (by (try simp only [b2i_eq0, b2i_ne0, decide_eq_true_eq] at *); (try simp only [cI, sI_setA, sI_setQ, sI_setR, sA_setI, sA_setR, sA_setQ, fa_lt, fa_le, fa_eq, Int32.reduceToInt] at *); omega)).symm⟩⟩
