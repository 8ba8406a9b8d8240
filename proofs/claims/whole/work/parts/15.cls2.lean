/-! ===== the system: more small methods, constructors ===== -/
theorem vq_cast {i : Int32} {m n : Nat} (h : m = n) (hv : vp_in i n) : vp_in i m := by
  rw [h]; exact hv
theorem Fr_newA {t a : Nat} {S : HS} (h : Fr t S) : Fr t (newA S a) := ⟨h.1, fun c i => by
  rw [sQ_newA]
  unfold va_up
  split
  · simp
  · exact h.2 c i⟩
theorem Fr_newO {t a : Nat} {S : HS} (h : Fr t S) : Fr t (newO S a) := ⟨fun f c => by
  rw [sR_newO]
  unfold va_up
  split
  · simp
  · exact h.1 f c, h.2⟩
theorem Fr_setR {t f a : Nat} {v : Option Nat} {S : HS} (h : Fr t S) (hv : v ≠ some t) : Fr t (setR S f a v) := ⟨fun g c => by
  rw [sR_setR]
  unfold up2
  split
  · exact hv
  · exact h.1 g c, h.2⟩
theorem Fr_setQ {t a : Nat} {r : Nat → Option Nat} {S : HS} (h : Fr t S) (hv : ∀ i, r i ≠ some t) : Fr t (setQ S a r) := ⟨h.1, fun c i => by
  rw [sQ_setQ]
  unfold va_up
  split
  · exact hv i
  · exact h.2 c i⟩
theorem Fr_setI {t f a : Nat} {v : Int32} {S : HS} (h : Fr t S) : Fr t (setI S f a v) := h
theorem Fr_setA {t a : Nat} {r : Nat → Int32} {S : HS} (h : Fr t S) : Fr t (setA S a r) := h
theorem nm_app {t a : Nat} {L : List Nat} (h : t ∉ L) (h2 : t ≠ a) : t ∉ L ++ [a] := by simp [h, h2]
theorem ShC.fr {S : HS} (h : ShC S) {t : Nat} (ht : t ∉ sL S) : Fr t S := ⟨fun f a e => ht (h.2.2.2.2.2.2.2.2.2.1.1 f a t e), fun a i e => ht (h.2.2.2.2.2.2.2.2.2.1.2 a i t e)⟩
set_option maxHeartbeats 4000000 in
theorem c_X8_mend {l : Launch} {G : va_G} {cy : Nat → ClassId} (a w : Int32) (S : HS) (h : ShC S) : Cn l G cy yX8_mend cX8_mend 4 (some .int) 2 [.ref 0, .int a, .int w] S 0 0 (qI (fun r S2 => (r = if (0 ≤ a.toInt ∧ a.toInt < (cI S 9).toInt ∧ 1 ≤ w.toInt ∧ w.toInt ≤ (60 - sI S (fid 0 2) (100 + 3 * nn a)).toInt) then sI S (fid 0 2) (100 + 3 * nn a) + w else -1) ∧ S2 = if (0 ≤ a.toInt ∧ a.toInt < (cI S 9).toInt ∧ 1 ≤ w.toInt ∧ w.toInt ≤ (60 - sI S (fid 0 2) (100 + 3 * nn a)).toInt) then setI S (fid 0 2) (100 + 3 * nn a) (sI S (fid 0 2) (100 + 3 * nn a) + w) else S)) := by
  refine Cn.of [some (.ref 0), some (.int a), some (.int w), none] (by decide) rfl (Nat.le_of_ble_eq_true rfl) ?_
  refine r_aload_n dX8_mend_0 rfl rfl ?_
  refine r_iload_n dX8_mend_1 rfl rfl ?_
  refine r_invV1r dX8_mend_2 lm_X8_95 rfl (c_X8_boatAt _ _ h) (Nat.le_of_ble_eq_true rfl) (Nat.le_of_ble_eq_true rfl) (Nat.zero_le _) (Nat.zero_le _) (fun r2 S2 hq2 => ?_)
  obtain ⟨rfl, hz2⟩ := hq2
  replace hz2 := hz2.symm
  subst hz2
  by_cases hc2 : 0 ≤ a.toInt ∧ a.toInt < (cI S 9).toInt
  · rw [if_pos (α := Option Nat) hc2]
    have hbb := h.b
    have hlt : nn a < 12 := by unfold nn; omega
    have hlb : nn a < nn (cI S 9) := by unfold nn; omega
    have hkb := tkB hlt
    have hkp := tkBp hlt
    have hkg := tkBg hlt
    have hnp := tnBp hlt
    have hng := tnBg hlt
    have hr0 := (h.rB hlb).2.1
    have hr1 := (h.rB hlb).2.2
    have hl1 := h.lB hlb (j := 1) (by decide)
    have hl2 := h.lB hlb (j := 2) (by decide)
    refine r_ast3 dX8_mend_5 (Nat.le_of_ble_eq_true rfl) rfl ?_
    refine r_aload_n dX8_mend_6 rfl rfl ?_
    refine r_ifnull dX8_mend_7 ?_
    refine r_iload_n dX8_mend_10 rfl rfl ?_
    refine r_iconst (v := 1) dX8_mend_11 (by decide) ?_
    refine r_icmp_lt 26 dX8_mend_12 (by decide) (fun q12 => ?_) (fun q12 => ?_)
    · skip
      refine r_iconst (v := (-1)) dX8_mend_26 (by decide) ?_
      exact r_iret dX8_mend_27 rfl (Nat.zero_le _) (Nat.zero_le _) ⟨_, rfl, by first | exact ⟨(if_pos (by (try simp only [b2i_eq0, b2i_ne0, decide_eq_true_eq] at *); (try simp only [cI, sI_setA, sI_setQ, sI_setR, sA_setI, sA_setR, sA_setQ, fa_lt, fa_le, fa_eq, Int32.reduceToInt] at *); omega)).symm, (if_pos (by (try simp only [b2i_eq0, b2i_ne0, decide_eq_true_eq] at *); (try simp only [cI, sI_setA, sI_setQ, sI_setR, sA_setI, sA_setR, sA_setQ, fa_lt, fa_le, fa_eq, Int32.reduceToInt] at *); omega)).symm⟩ | exact ⟨(if_neg (by (try simp only [b2i_eq0, b2i_ne0, decide_eq_true_eq] at *); (try simp only [cI, sI_setA, sI_setQ, sI_setR, sA_setI, sA_setR, sA_setQ, fa_lt, fa_le, fa_eq, Int32.reduceToInt] at *); omega)).symm, (if_neg (by (try simp only [b2i_eq0, b2i_ne0, decide_eq_true_eq] at *); (try simp only [cI, sI_setA, sI_setQ, sI_setR, sA_setI, sA_setR, sA_setQ, fa_lt, fa_le, fa_eq, Int32.reduceToInt] at *); omega)).symm⟩⟩
    · skip
      refine r_iload_n dX8_mend_15 rfl rfl ?_
      refine r_bipush (v := 60) dX8_mend_16 (by decide) ?_
      refine r_aload_n dX8_mend_18 rfl rfl ?_
      refine r_getI dX8_mend_19 lf_X8_102 rfl (by first | assumption | rfl) ?_
      refine r_isub dX8_mend_22 ?_
      refine r_icmp_le 28 dX8_mend_23 (by decide) (fun q23 => ?_) (fun q23 => ?_)
      · skip
        refine r_aload_n dX8_mend_28 rfl rfl ?_
        refine r_dup dX8_mend_29 rfl ?_
        refine r_getI dX8_mend_30 lf_X8_102 rfl (by first | assumption | rfl) ?_
        refine r_iload_n dX8_mend_33 rfl rfl ?_
        refine r_iadd dX8_mend_34 ?_
        refine r_putI dX8_mend_35 (lp_X8_102 _) rfl (by first | assumption | rfl) ?_
        refine r_aload_n dX8_mend_38 rfl rfl ?_
        refine r_getI dX8_mend_39 lf_X8_102 rfl (by first | assumption | rfl) ?_
        exact r_iret dX8_mend_42 rfl (Nat.zero_le _) (Nat.zero_le _) ⟨_, rfl, ⟨by rw [if_pos (by (try simp only [b2i_eq0, b2i_ne0, decide_eq_true_eq] at *); (try simp only [cI, sI_setA, sI_setQ, sI_setR, sA_setI, sA_setR, sA_setQ, fa_lt, fa_le, fa_eq, Int32.reduceToInt] at *); omega)]; simp [sI_setI, up2], (if_pos (by (try simp only [b2i_eq0, b2i_ne0, decide_eq_true_eq] at *); (try simp only [cI, sI_setA, sI_setQ, sI_setR, sA_setI, sA_setR, sA_setQ, fa_lt, fa_le, fa_eq, Int32.reduceToInt] at *); omega)).symm⟩⟩
      · skip
        refine r_iconst (v := (-1)) dX8_mend_26 (by decide) ?_
        exact r_iret dX8_mend_27 rfl (Nat.zero_le _) (Nat.zero_le _) ⟨_, rfl, by first | exact ⟨(if_pos (by (try simp only [b2i_eq0, b2i_ne0, decide_eq_true_eq] at *); (try simp only [cI, sI_setA, sI_setQ, sI_setR, sA_setI, sA_setR, sA_setQ, fa_lt, fa_le, fa_eq, Int32.reduceToInt] at *); omega)).symm, (if_pos (by (try simp only [b2i_eq0, b2i_ne0, decide_eq_true_eq] at *); (try simp only [cI, sI_setA, sI_setQ, sI_setR, sA_setI, sA_setR, sA_setQ, fa_lt, fa_le, fa_eq, Int32.reduceToInt] at *); omega)).symm⟩ | exact ⟨(if_neg (by (try simp only [b2i_eq0, b2i_ne0, decide_eq_true_eq] at *); (try simp only [cI, sI_setA, sI_setQ, sI_setR, sA_setI, sA_setR, sA_setQ, fa_lt, fa_le, fa_eq, Int32.reduceToInt] at *); omega)).symm, (if_neg (by (try simp only [b2i_eq0, b2i_ne0, decide_eq_true_eq] at *); (try simp only [cI, sI_setA, sI_setQ, sI_setR, sA_setI, sA_setR, sA_setQ, fa_lt, fa_le, fa_eq, Int32.reduceToInt] at *); omega)).symm⟩⟩
  · rw [if_neg (α := Option Nat) hc2]
    have hbb := h.b
    refine r_ast3N dX8_mend_5 (Nat.le_of_ble_eq_true rfl) rfl ?_
    refine r_aload_nN dX8_mend_6 rfl rfl ?_
    refine r_ifnullN 26 dX8_mend_7 (by decide) ?_
    refine r_iconst (v := (-1)) dX8_mend_26 (by decide) ?_
    exact r_iret dX8_mend_27 rfl (Nat.zero_le _) (Nat.zero_le _) ⟨_, rfl, by first | exact ⟨(if_pos (by (try simp only [b2i_eq0, b2i_ne0, decide_eq_true_eq] at *); (try simp only [cI, sI_setA, sI_setQ, sI_setR, sA_setI, sA_setR, sA_setQ, fa_lt, fa_le, fa_eq, Int32.reduceToInt] at *); omega)).symm, (if_pos (by (try simp only [b2i_eq0, b2i_ne0, decide_eq_true_eq] at *); (try simp only [cI, sI_setA, sI_setQ, sI_setR, sA_setI, sA_setR, sA_setQ, fa_lt, fa_le, fa_eq, Int32.reduceToInt] at *); omega)).symm⟩ | exact ⟨(if_neg (by (try simp only [b2i_eq0, b2i_ne0, decide_eq_true_eq] at *); (try simp only [cI, sI_setA, sI_setQ, sI_setR, sA_setI, sA_setR, sA_setQ, fa_lt, fa_le, fa_eq, Int32.reduceToInt] at *); omega)).symm, (if_neg (by (try simp only [b2i_eq0, b2i_ne0, decide_eq_true_eq] at *); (try simp only [cI, sI_setA, sI_setQ, sI_setR, sA_setI, sA_setR, sA_setQ, fa_lt, fa_le, fa_eq, Int32.reduceToInt] at *); omega)).symm⟩⟩
set_option maxHeartbeats 4000000 in
theorem c_X8_bid {l : Launch} {G : va_G} {cy : Nat → ClassId} (a w : Int32) (S : HS) (h : ShC S) : Cn l G cy yX8_bid cX8_bid 4 (some .boolean) 2 [.ref 0, .int a, .int w] S 0 0 (qI (fun r S2 => r = b2i (0 ≤ a.toInt ∧ a.toInt < (cI S 10).toInt ∧ 0 ≤ w.toInt ∧ w.toInt ≤ 100) ∧ S2 = if (0 ≤ a.toInt ∧ a.toInt < (cI S 10).toInt ∧ 0 ≤ w.toInt ∧ w.toInt ≤ 100) then setI S (fid 7 3) (200 + 2 * nn a) w else S)) := by
  refine Cn.of [some (.ref 0), some (.int a), some (.int w), none] (by decide) rfl (Nat.le_of_ble_eq_true rfl) ?_
  refine r_aload_n dX8_bid_0 rfl rfl ?_
  refine r_iload_n dX8_bid_1 rfl rfl ?_
  refine r_invV1r dX8_bid_2 lm_X8_111 rfl (c_X8_yardAt _ _ h) (Nat.le_of_ble_eq_true rfl) (Nat.le_of_ble_eq_true rfl) (Nat.zero_le _) (Nat.zero_le _) (fun r2 S2 hq2 => ?_)
  obtain ⟨rfl, hz2⟩ := hq2
  replace hz2 := hz2.symm
  subst hz2
  by_cases hc2 : 0 ≤ a.toInt ∧ a.toInt < (cI S 10).toInt
  · rw [if_pos (α := Option Nat) hc2]
    have hbb := h.y
    have hlt : nn a < 4 := by unfold nn; omega
    have hlb : nn a < nn (cI S 10) := by unfold nn; omega
    have hkb := tkY hlt
    refine r_ast3 dX8_bid_5 (Nat.le_of_ble_eq_true rfl) rfl ?_
    refine r_aload_n dX8_bid_6 rfl rfl ?_
    refine r_ifnull dX8_bid_7 ?_
    refine r_iload_n dX8_bid_10 rfl rfl ?_
    refine r_iconst (v := 0) dX8_bid_11 (by decide) ?_
    refine r_bipush (v := 100) dX8_bid_12 (by decide) ?_
    refine r_invS3i dX8_bid_14 lm_X8_74 (c_X8_isWithin _ _ _ _) (Nat.le_of_ble_eq_true rfl) (Nat.le_of_ble_eq_true rfl) (Nat.zero_le _) (Nat.zero_le _) (fun r14 S14 hq14 => ?_)
    obtain ⟨rfl, hz14⟩ := hq14
    replace hz14 := hz14.symm
    subst hz14
    refine r_if_ne 22 dX8_bid_17 (by decide) (fun q17 => ?_) (fun q17 => ?_)
    · skip
      refine r_aload_n dX8_bid_22 rfl rfl ?_
      refine r_iload_n dX8_bid_23 rfl rfl ?_
      refine r_putI dX8_bid_24 (lp_X8_115 _) rfl (by first | assumption | rfl) ?_
      refine r_iconst (v := 1) dX8_bid_27 (by decide) ?_
      exact r_zret dX8_bid_28 rfl rfl (Nat.zero_le _) (Nat.zero_le _) ⟨_, rfl, by first | exact ⟨(b2i_t (by (try simp only [b2i_eq0, b2i_ne0, decide_eq_true_eq] at *); (try simp only [cI, sI_setA, sI_setQ, sI_setR, sA_setI, sA_setR, sA_setQ, fa_lt, fa_le, fa_eq, Int32.reduceToInt] at *); omega)).symm, (if_pos (by (try simp only [b2i_eq0, b2i_ne0, decide_eq_true_eq] at *); (try simp only [cI, sI_setA, sI_setQ, sI_setR, sA_setI, sA_setR, sA_setQ, fa_lt, fa_le, fa_eq, Int32.reduceToInt] at *); omega)).symm⟩ | exact ⟨(b2i_f (by (try simp only [b2i_eq0, b2i_ne0, decide_eq_true_eq] at *); (try simp only [cI, sI_setA, sI_setQ, sI_setR, sA_setI, sA_setR, sA_setQ, fa_lt, fa_le, fa_eq, Int32.reduceToInt] at *); omega)).symm, (if_neg (by (try simp only [b2i_eq0, b2i_ne0, decide_eq_true_eq] at *); (try simp only [cI, sI_setA, sI_setQ, sI_setR, sA_setI, sA_setR, sA_setQ, fa_lt, fa_le, fa_eq, Int32.reduceToInt] at *); omega)).symm⟩⟩
    · skip
      refine r_iconst (v := 0) dX8_bid_20 (by decide) ?_
      exact r_zret dX8_bid_21 rfl rfl (Nat.zero_le _) (Nat.zero_le _) ⟨_, rfl, by first | exact ⟨(b2i_t (by (try simp only [b2i_eq0, b2i_ne0, decide_eq_true_eq] at *); (try simp only [cI, sI_setA, sI_setQ, sI_setR, sA_setI, sA_setR, sA_setQ, fa_lt, fa_le, fa_eq, Int32.reduceToInt] at *); omega)).symm, (if_pos (by (try simp only [b2i_eq0, b2i_ne0, decide_eq_true_eq] at *); (try simp only [cI, sI_setA, sI_setQ, sI_setR, sA_setI, sA_setR, sA_setQ, fa_lt, fa_le, fa_eq, Int32.reduceToInt] at *); omega)).symm⟩ | exact ⟨(b2i_f (by (try simp only [b2i_eq0, b2i_ne0, decide_eq_true_eq] at *); (try simp only [cI, sI_setA, sI_setQ, sI_setR, sA_setI, sA_setR, sA_setQ, fa_lt, fa_le, fa_eq, Int32.reduceToInt] at *); omega)).symm, (if_neg (by (try simp only [b2i_eq0, b2i_ne0, decide_eq_true_eq] at *); (try simp only [cI, sI_setA, sI_setQ, sI_setR, sA_setI, sA_setR, sA_setQ, fa_lt, fa_le, fa_eq, Int32.reduceToInt] at *); omega)).symm⟩⟩
  · rw [if_neg (α := Option Nat) hc2]
    have hbb := h.y
    refine r_ast3N dX8_bid_5 (Nat.le_of_ble_eq_true rfl) rfl ?_
    refine r_aload_nN dX8_bid_6 rfl rfl ?_
    refine r_ifnullN 20 dX8_bid_7 (by decide) ?_
    refine r_iconst (v := 0) dX8_bid_20 (by decide) ?_
    exact r_zret dX8_bid_21 rfl rfl (Nat.zero_le _) (Nat.zero_le _) ⟨_, rfl, by first | exact ⟨(b2i_t (by (try simp only [b2i_eq0, b2i_ne0, decide_eq_true_eq] at *); (try simp only [cI, sI_setA, sI_setQ, sI_setR, sA_setI, sA_setR, sA_setQ, fa_lt, fa_le, fa_eq, Int32.reduceToInt] at *); omega)).symm, (if_pos (by (try simp only [b2i_eq0, b2i_ne0, decide_eq_true_eq] at *); (try simp only [cI, sI_setA, sI_setQ, sI_setR, sA_setI, sA_setR, sA_setQ, fa_lt, fa_le, fa_eq, Int32.reduceToInt] at *); omega)).symm⟩ | exact ⟨(b2i_f (by (try simp only [b2i_eq0, b2i_ne0, decide_eq_true_eq] at *); (try simp only [cI, sI_setA, sI_setQ, sI_setR, sA_setI, sA_setR, sA_setQ, fa_lt, fa_le, fa_eq, Int32.reduceToInt] at *); omega)).symm, (if_neg (by (try simp only [b2i_eq0, b2i_ne0, decide_eq_true_eq] at *); (try simp only [cI, sI_setA, sI_setQ, sI_setR, sA_setI, sA_setR, sA_setQ, fa_lt, fa_le, fa_eq, Int32.reduceToInt] at *); omega)).symm⟩⟩
set_option maxHeartbeats 4000000 in
theorem c_X8_share {l : Launch} {G : va_G} {cy : Nat → ClassId} (a w z : Int32) (S : HS) (h : ShC S) : Cn l G cy yX8_share cX8_share 5 (some .boolean) 2 [.ref 0, .int a, .int w, .int z] S 0 0 (qI (fun r S2 => r = b2i (0 ≤ a.toInt ∧ a.toInt < (cI S 9).toInt ∧ (0 ≤ w.toInt ∧ w.toInt ≤ 7) ∧ 0 ≤ z.toInt ∧ z.toInt ≤ 100) ∧ S2 = if (0 ≤ a.toInt ∧ a.toInt < (cI S 9).toInt ∧ (0 ≤ w.toInt ∧ w.toInt ≤ 7) ∧ 0 ≤ z.toInt ∧ z.toInt ≤ 100) then setA S (101 + 3 * nn a) (upd (sA S (101 + 3 * nn a)) w.toNatClampNeg z) else S)) := by
  refine Cn.of [some (.ref 0), some (.int a), some (.int w), some (.int z), none] (by decide) rfl (Nat.le_of_ble_eq_true rfl) ?_
  refine r_aload_n dX8_share_0 rfl rfl ?_
  refine r_iload_n dX8_share_1 rfl rfl ?_
  refine r_invV1r dX8_share_2 lm_X8_95 rfl (c_X8_boatAt _ _ h) (Nat.le_of_ble_eq_true rfl) (Nat.le_of_ble_eq_true rfl) (Nat.zero_le _) (Nat.zero_le _) (fun r2 S2 hq2 => ?_)
  obtain ⟨rfl, hz2⟩ := hq2
  replace hz2 := hz2.symm
  subst hz2
  by_cases hc2 : 0 ≤ a.toInt ∧ a.toInt < (cI S 9).toInt
  · rw [if_pos (α := Option Nat) hc2]
    have hbb := h.b
    have hlt : nn a < 12 := by unfold nn; omega
    have hlb : nn a < nn (cI S 9) := by unfold nn; omega
    have hkb := tkB hlt
    have hkp := tkBp hlt
    have hkg := tkBg hlt
    have hnp := tnBp hlt
    have hng := tnBg hlt
    have hr0 := (h.rB hlb).2.1
    have hr1 := (h.rB hlb).2.2
    have hl1 := h.lB hlb (j := 1) (by decide)
    have hl2 := h.lB hlb (j := 2) (by decide)
    refine r_ast4 dX8_share_5 (Nat.le_of_ble_eq_true rfl) rfl ?_
    refine r_aload dX8_share_7 rfl ?_
    refine r_ifnull dX8_share_9 ?_
    refine r_iload_n dX8_share_12 rfl rfl ?_
    refine r_invS1i dX8_share_13 lm_X8_171 (c_X0_isHand _ _) (Nat.le_of_ble_eq_true rfl) (Nat.le_of_ble_eq_true rfl) (Nat.zero_le _) (Nat.zero_le _) (fun r13 S13 hq13 => ?_)
    obtain ⟨rfl, hz13⟩ := hq13
    replace hz13 := hz13.symm
    subst hz13
    refine r_if_eq 29 dX8_share_16 (by decide) (fun q16 => ?_) (fun q16 => ?_)
    · skip
      refine r_iconst (v := 0) dX8_share_29 (by decide) ?_
      exact r_zret dX8_share_30 rfl rfl (Nat.zero_le _) (Nat.zero_le _) ⟨_, rfl, by first | exact ⟨(b2i_t (by (try simp only [b2i_eq0, b2i_ne0, decide_eq_true_eq] at *); (try simp only [cI, sI_setA, sI_setQ, sI_setR, sA_setI, sA_setR, sA_setQ, fa_lt, fa_le, fa_eq, Int32.reduceToInt] at *); omega)).symm, (if_pos (by (try simp only [b2i_eq0, b2i_ne0, decide_eq_true_eq] at *); (try simp only [cI, sI_setA, sI_setQ, sI_setR, sA_setI, sA_setR, sA_setQ, fa_lt, fa_le, fa_eq, Int32.reduceToInt] at *); omega)).symm⟩ | exact ⟨(b2i_f (by (try simp only [b2i_eq0, b2i_ne0, decide_eq_true_eq] at *); (try simp only [cI, sI_setA, sI_setQ, sI_setR, sA_setI, sA_setR, sA_setQ, fa_lt, fa_le, fa_eq, Int32.reduceToInt] at *); omega)).symm, (if_neg (by (try simp only [b2i_eq0, b2i_ne0, decide_eq_true_eq] at *); (try simp only [cI, sI_setA, sI_setQ, sI_setR, sA_setI, sA_setR, sA_setQ, fa_lt, fa_le, fa_eq, Int32.reduceToInt] at *); omega)).symm⟩⟩
    · skip
      refine r_iload_n dX8_share_19 rfl rfl ?_
      refine r_iconst (v := 0) dX8_share_20 (by decide) ?_
      refine r_bipush (v := 100) dX8_share_21 (by decide) ?_
      refine r_invS3i dX8_share_23 lm_X8_74 (c_X8_isWithin _ _ _ _) (Nat.le_of_ble_eq_true rfl) (Nat.le_of_ble_eq_true rfl) (Nat.zero_le _) (Nat.zero_le _) (fun r23 S23 hq23 => ?_)
      obtain ⟨rfl, hz23⟩ := hq23
      replace hz23 := hz23.symm
      subst hz23
      refine r_if_ne 31 dX8_share_26 (by decide) (fun q26 => ?_) (fun q26 => ?_)
      · skip
        refine r_aload dX8_share_31 rfl ?_
        refine r_getR dX8_share_33 lf_X8_174 rfl (by first | assumption | rfl) hr0 hl1 ?_
        refine r_iload_n dX8_share_36 rfl rfl ?_
        refine r_iload_n dX8_share_37 rfl rfl ?_
        refine r_iast dX8_share_38 hkp (vq_cast hnp (vp_in_iff.mpr (by (try simp only [b2i_eq0, b2i_ne0, decide_eq_true_eq] at *); (try simp only [cI, sI_setA, sI_setQ, sI_setR, sA_setI, sA_setR, sA_setQ, fa_lt, fa_le, fa_eq, Int32.reduceToInt] at *); omega))) ?_
        refine r_iconst (v := 1) dX8_share_39 (by decide) ?_
        exact r_zret dX8_share_40 rfl rfl (Nat.zero_le _) (Nat.zero_le _) ⟨_, rfl, by first | exact ⟨(b2i_t (by (try simp only [b2i_eq0, b2i_ne0, decide_eq_true_eq] at *); (try simp only [cI, sI_setA, sI_setQ, sI_setR, sA_setI, sA_setR, sA_setQ, fa_lt, fa_le, fa_eq, Int32.reduceToInt] at *); omega)).symm, (if_pos (by (try simp only [b2i_eq0, b2i_ne0, decide_eq_true_eq] at *); (try simp only [cI, sI_setA, sI_setQ, sI_setR, sA_setI, sA_setR, sA_setQ, fa_lt, fa_le, fa_eq, Int32.reduceToInt] at *); omega)).symm⟩ | exact ⟨(b2i_f (by (try simp only [b2i_eq0, b2i_ne0, decide_eq_true_eq] at *); (try simp only [cI, sI_setA, sI_setQ, sI_setR, sA_setI, sA_setR, sA_setQ, fa_lt, fa_le, fa_eq, Int32.reduceToInt] at *); omega)).symm, (if_neg (by (try simp only [b2i_eq0, b2i_ne0, decide_eq_true_eq] at *); (try simp only [cI, sI_setA, sI_setQ, sI_setR, sA_setI, sA_setR, sA_setQ, fa_lt, fa_le, fa_eq, Int32.reduceToInt] at *); omega)).symm⟩⟩
      · skip
        refine r_iconst (v := 0) dX8_share_29 (by decide) ?_
        exact r_zret dX8_share_30 rfl rfl (Nat.zero_le _) (Nat.zero_le _) ⟨_, rfl, by first | exact ⟨(b2i_t (by (try simp only [b2i_eq0, b2i_ne0, decide_eq_true_eq] at *); (try simp only [cI, sI_setA, sI_setQ, sI_setR, sA_setI, sA_setR, sA_setQ, fa_lt, fa_le, fa_eq, Int32.reduceToInt] at *); omega)).symm, (if_pos (by (try simp only [b2i_eq0, b2i_ne0, decide_eq_true_eq] at *); (try simp only [cI, sI_setA, sI_setQ, sI_setR, sA_setI, sA_setR, sA_setQ, fa_lt, fa_le, fa_eq, Int32.reduceToInt] at *); omega)).symm⟩ | exact ⟨(b2i_f (by (try simp only [b2i_eq0, b2i_ne0, decide_eq_true_eq] at *); (try simp only [cI, sI_setA, sI_setQ, sI_setR, sA_setI, sA_setR, sA_setQ, fa_lt, fa_le, fa_eq, Int32.reduceToInt] at *); omega)).symm, (if_neg (by (try simp only [b2i_eq0, b2i_ne0, decide_eq_true_eq] at *); (try simp only [cI, sI_setA, sI_setQ, sI_setR, sA_setI, sA_setR, sA_setQ, fa_lt, fa_le, fa_eq, Int32.reduceToInt] at *); omega)).symm⟩⟩
  · rw [if_neg (α := Option Nat) hc2]
    have hbb := h.b
    refine r_ast4N dX8_share_5 (Nat.le_of_ble_eq_true rfl) rfl ?_
    refine r_aloadN dX8_share_7 rfl ?_
    refine r_ifnullN 29 dX8_share_9 (by decide) ?_
    refine r_iconst (v := 0) dX8_share_29 (by decide) ?_
    exact r_zret dX8_share_30 rfl rfl (Nat.zero_le _) (Nat.zero_le _) ⟨_, rfl, by first | exact ⟨(b2i_t (by (try simp only [b2i_eq0, b2i_ne0, decide_eq_true_eq] at *); (try simp only [cI, sI_setA, sI_setQ, sI_setR, sA_setI, sA_setR, sA_setQ, fa_lt, fa_le, fa_eq, Int32.reduceToInt] at *); omega)).symm, (if_pos (by (try simp only [b2i_eq0, b2i_ne0, decide_eq_true_eq] at *); (try simp only [cI, sI_setA, sI_setQ, sI_setR, sA_setI, sA_setR, sA_setQ, fa_lt, fa_le, fa_eq, Int32.reduceToInt] at *); omega)).symm⟩ | exact ⟨(b2i_f (by (try simp only [b2i_eq0, b2i_ne0, decide_eq_true_eq] at *); (try simp only [cI, sI_setA, sI_setQ, sI_setR, sA_setI, sA_setR, sA_setQ, fa_lt, fa_le, fa_eq, Int32.reduceToInt] at *); omega)).symm, (if_neg (by (try simp only [b2i_eq0, b2i_ne0, decide_eq_true_eq] at *); (try simp only [cI, sI_setA, sI_setQ, sI_setR, sA_setI, sA_setR, sA_setQ, fa_lt, fa_le, fa_eq, Int32.reduceToInt] at *); omega)).symm⟩⟩
set_option maxHeartbeats 4000000 in
theorem c_X8_coins {l : Launch} {G : va_G} {cy : Nat → ClassId} (a w : Int32) (S : HS) (h : ShC S) : Cn l G cy yX8_coins cX8_coins 4 (some .int) 2 [.ref 0, .int a, .int w] S 0 0 (qI (fun r S2 => (r = if (0 ≤ a.toInt ∧ a.toInt < (cI S 9).toInt ∧ 0 ≤ w.toInt ∧ w.toInt ≤ 7) then sA S (102 + 3 * nn a) w.toNatClampNeg else 0) ∧ S2 = S)) := by
  refine Cn.of [some (.ref 0), some (.int a), some (.int w), none] (by decide) rfl (Nat.le_of_ble_eq_true rfl) ?_
  refine r_aload_n dX8_coins_0 rfl rfl ?_
  refine r_iload_n dX8_coins_1 rfl rfl ?_
  refine r_invV1r dX8_coins_2 lm_X8_95 rfl (c_X8_boatAt _ _ h) (Nat.le_of_ble_eq_true rfl) (Nat.le_of_ble_eq_true rfl) (Nat.zero_le _) (Nat.zero_le _) (fun r2 S2 hq2 => ?_)
  obtain ⟨rfl, hz2⟩ := hq2
  replace hz2 := hz2.symm
  subst hz2
  by_cases hc2 : 0 ≤ a.toInt ∧ a.toInt < (cI S 9).toInt
  · rw [if_pos (α := Option Nat) hc2]
    have hbb := h.b
    have hlt : nn a < 12 := by unfold nn; omega
    have hlb : nn a < nn (cI S 9) := by unfold nn; omega
    have hkb := tkB hlt
    have hkp := tkBp hlt
    have hkg := tkBg hlt
    have hnp := tnBp hlt
    have hng := tnBg hlt
    have hr0 := (h.rB hlb).2.1
    have hr1 := (h.rB hlb).2.2
    have hl1 := h.lB hlb (j := 1) (by decide)
    have hl2 := h.lB hlb (j := 2) (by decide)
    refine r_ast3 dX8_coins_5 (Nat.le_of_ble_eq_true rfl) rfl ?_
    refine r_aload_n dX8_coins_6 rfl rfl ?_
    refine r_ifnull dX8_coins_7 ?_
    refine r_iload_n dX8_coins_10 rfl rfl ?_
    refine r_invS1i dX8_coins_11 lm_X8_171 (c_X0_isHand _ _) (Nat.le_of_ble_eq_true rfl) (Nat.le_of_ble_eq_true rfl) (Nat.zero_le _) (Nat.zero_le _) (fun r11 S11 hq11 => ?_)
    obtain ⟨rfl, hz11⟩ := hq11
    replace hz11 := hz11.symm
    subst hz11
    refine r_if_ne 19 dX8_coins_14 (by decide) (fun q14 => ?_) (fun q14 => ?_)
    · skip
      refine r_aload_n dX8_coins_19 rfl rfl ?_
      refine r_getR dX8_coins_20 lf_X8_192 rfl (by first | assumption | rfl) hr1 hl2 ?_
      refine r_iload_n dX8_coins_23 rfl rfl ?_
      refine r_iald dX8_coins_24 hkg (vq_cast hng (vp_in_iff.mpr (by (try simp only [b2i_eq0, b2i_ne0, decide_eq_true_eq] at *); (try simp only [cI, sI_setA, sI_setQ, sI_setR, sA_setI, sA_setR, sA_setQ, fa_lt, fa_le, fa_eq, Int32.reduceToInt] at *); omega))) ?_
      exact r_iret dX8_coins_25 rfl (Nat.zero_le _) (Nat.zero_le _) ⟨_, rfl, by first | exact ⟨(if_pos (by (try simp only [b2i_eq0, b2i_ne0, decide_eq_true_eq] at *); (try simp only [cI, sI_setA, sI_setQ, sI_setR, sA_setI, sA_setR, sA_setQ, fa_lt, fa_le, fa_eq, Int32.reduceToInt] at *); omega)).symm, rfl⟩ | exact ⟨(if_neg (by (try simp only [b2i_eq0, b2i_ne0, decide_eq_true_eq] at *); (try simp only [cI, sI_setA, sI_setQ, sI_setR, sA_setI, sA_setR, sA_setQ, fa_lt, fa_le, fa_eq, Int32.reduceToInt] at *); omega)).symm, rfl⟩⟩
    · skip
      refine r_iconst (v := 0) dX8_coins_17 (by decide) ?_
      exact r_iret dX8_coins_18 rfl (Nat.zero_le _) (Nat.zero_le _) ⟨_, rfl, by first | exact ⟨(if_pos (by (try simp only [b2i_eq0, b2i_ne0, decide_eq_true_eq] at *); (try simp only [cI, sI_setA, sI_setQ, sI_setR, sA_setI, sA_setR, sA_setQ, fa_lt, fa_le, fa_eq, Int32.reduceToInt] at *); omega)).symm, rfl⟩ | exact ⟨(if_neg (by (try simp only [b2i_eq0, b2i_ne0, decide_eq_true_eq] at *); (try simp only [cI, sI_setA, sI_setQ, sI_setR, sA_setI, sA_setR, sA_setQ, fa_lt, fa_le, fa_eq, Int32.reduceToInt] at *); omega)).symm, rfl⟩⟩
  · rw [if_neg (α := Option Nat) hc2]
    have hbb := h.b
    refine r_ast3N dX8_coins_5 (Nat.le_of_ble_eq_true rfl) rfl ?_
    refine r_aload_nN dX8_coins_6 rfl rfl ?_
    refine r_ifnullN 17 dX8_coins_7 (by decide) ?_
    refine r_iconst (v := 0) dX8_coins_17 (by decide) ?_
    exact r_iret dX8_coins_18 rfl (Nat.zero_le _) (Nat.zero_le _) ⟨_, rfl, by first | exact ⟨(if_pos (by (try simp only [b2i_eq0, b2i_ne0, decide_eq_true_eq] at *); (try simp only [cI, sI_setA, sI_setQ, sI_setR, sA_setI, sA_setR, sA_setQ, fa_lt, fa_le, fa_eq, Int32.reduceToInt] at *); omega)).symm, rfl⟩ | exact ⟨(if_neg (by (try simp only [b2i_eq0, b2i_ne0, decide_eq_true_eq] at *); (try simp only [cI, sI_setA, sI_setQ, sI_setR, sA_setI, sA_setR, sA_setQ, fa_lt, fa_le, fa_eq, Int32.reduceToInt] at *); omega)).symm, rfl⟩⟩
set_option maxHeartbeats 4000000 in
theorem c_X8_cell {l : Launch} {G : va_G} {cy : Nat → ClassId} (a w : Int32) (S : HS) (h : ShF S) : Cn l G cy yX8_cell cX8_cell 3 (some .int) 1 [.ref 0, .int a, .int w] S 0 0 (qI (fun r S2 => (r = if (0 ≤ a.toInt ∧ a.toInt < 36) then sel w.toInt (-1) [sA S 2 a.toNatClampNeg, b2i (¬ sA S 3 a.toNatClampNeg = 0)] else -1) ∧ S2 = S)) := by
  refine Cn.of [some (.ref 0), some (.int a), some (.int w)] (by decide) rfl (Nat.le_of_ble_eq_true rfl) ?_
  refine r_iload_n dX8_cell_0 rfl rfl ?_
  refine r_invS1i dX8_cell_1 lm_X8_70 (c_X4_isCell _ _) (Nat.le_of_ble_eq_true rfl) (Nat.le_of_ble_eq_true rfl) (Nat.zero_le _) (Nat.zero_le _) (fun r1 S1 hq1 => ?_)
  obtain ⟨rfl, hz1⟩ := hq1
  replace hz1 := hz1.symm
  subst hz1
  refine r_if_ne 9 dX8_cell_4 (by decide) (fun q4 => ?_) (fun q4 => ?_)
  · skip
    refine r_iload_n dX8_cell_9 rfl rfl ?_
    by_cases e10_0 : (w).toInt = 0
    · refine r_lookup (off := 26) 36 dX8_cell_10 (by decide) (by simp [Op.lookupswitch.offset, e10_0]) (by decide) ?_
      refine r_aload_n dX8_cell_36 rfl rfl ?_
      refine r_getR dX8_cell_37 lf_X8_12 rfl rfl (shR8_0 h) (shL_1 h) ?_
      refine r_getR dX8_cell_40 lf_X8_78 rfl rfl (shR4_0 h) (shL_2 h) ?_
      refine r_iload_n dX8_cell_43 rfl rfl ?_
      refine r_iald dX8_cell_44 rfl (show vp_in _ 36 from vp_in_iff.mpr (by (try simp only [b2i_eq0, b2i_ne0, decide_eq_true_eq] at *); (try simp only [cI, sI_setA, sI_setQ, sI_setR, sA_setI, sA_setR, sA_setQ, fa_lt, fa_le, fa_eq, Int32.reduceToInt] at *); omega)) ?_
      exact r_iret dX8_cell_45 rfl (Nat.zero_le _) (Nat.zero_le _) ⟨_, rfl, ⟨by rw [if_pos (by (try simp only [b2i_eq0, b2i_ne0, decide_eq_true_eq] at *); (try simp only [cI, sI_setA, sI_setQ, sI_setR, sA_setI, sA_setR, sA_setQ, fa_lt, fa_le, fa_eq, Int32.reduceToInt] at *); omega)]; simp [sel, e10_0], rfl⟩⟩
    by_cases e10_1 : (w).toInt = 1
    · refine r_lookup (off := 36) 46 dX8_cell_10 (by decide) (by simp [Op.lookupswitch.offset, e10_1]) (by decide) ?_
      refine r_aload_n dX8_cell_46 rfl rfl ?_
      refine r_getR dX8_cell_47 lf_X8_12 rfl rfl (shR8_0 h) (shL_1 h) ?_
      refine r_getR dX8_cell_50 lf_X8_82 rfl rfl (shR4_1 h) (shL_3 h) ?_
      refine r_iload_n dX8_cell_53 rfl rfl ?_
      refine r_zald dX8_cell_54 rfl (show vp_in _ 36 from vp_in_iff.mpr (by (try simp only [b2i_eq0, b2i_ne0, decide_eq_true_eq] at *); (try simp only [cI, sI_setA, sI_setQ, sI_setR, sA_setI, sA_setR, sA_setQ, fa_lt, fa_le, fa_eq, Int32.reduceToInt] at *); omega)) ?_
      refine r_if_eq 62 dX8_cell_55 (by decide) (fun q55 => ?_) (fun q55 => ?_)
      · skip
        refine r_iconst (v := 0) dX8_cell_62 (by decide) ?_
        exact r_iret dX8_cell_63 rfl (Nat.zero_le _) (Nat.zero_le _) ⟨_, rfl, ⟨by rw [if_pos (by (try simp only [b2i_eq0, b2i_ne0, decide_eq_true_eq] at *); (try simp only [cI, sI_setA, sI_setQ, sI_setR, sA_setI, sA_setR, sA_setQ, fa_lt, fa_le, fa_eq, Int32.reduceToInt] at *); omega)]; simp only [sel]; rw [if_neg (by omega), if_pos (by omega)]; first | exact (b2i_t (by assumption)).symm | exact (b2i_f (by intro h9; exact h9 (by assumption))).symm, rfl⟩⟩
      · skip
        refine r_iconst (v := 1) dX8_cell_58 (by decide) ?_
        refine r_goto 63 dX8_cell_59 (by decide) ?_
        exact r_iret dX8_cell_63 rfl (Nat.zero_le _) (Nat.zero_le _) ⟨_, rfl, ⟨by rw [if_pos (by (try simp only [b2i_eq0, b2i_ne0, decide_eq_true_eq] at *); (try simp only [cI, sI_setA, sI_setQ, sI_setR, sA_setI, sA_setR, sA_setQ, fa_lt, fa_le, fa_eq, Int32.reduceToInt] at *); omega)]; simp only [sel]; rw [if_neg (by omega), if_pos (by omega)]; first | exact (b2i_t (by assumption)).symm | exact (b2i_f (by intro h9; exact h9 (by assumption))).symm, rfl⟩⟩
    have f10_0 : ¬ (0 : Int) = (w).toInt := fun h => e10_0 h.symm
    have f10_1 : ¬ (1 : Int) = (w).toInt := fun h => e10_1 h.symm
    refine r_lookup (off := 54) 64 dX8_cell_10 (by decide) (by simp [Op.lookupswitch.offset, f10_0, f10_1]) (by decide) ?_
    refine r_iconst (v := (-1)) dX8_cell_64 (by decide) ?_
    exact r_iret dX8_cell_65 rfl (Nat.zero_le _) (Nat.zero_le _) ⟨_, rfl, ⟨by rw [if_pos (by (try simp only [b2i_eq0, b2i_ne0, decide_eq_true_eq] at *); (try simp only [cI, sI_setA, sI_setQ, sI_setR, sA_setI, sA_setR, sA_setQ, fa_lt, fa_le, fa_eq, Int32.reduceToInt] at *); omega)]; simp only [sel]; rw [if_neg (by omega), if_neg (by omega)], rfl⟩⟩
  · skip
    refine r_iconst (v := (-1)) dX8_cell_7 (by decide) ?_
    exact r_iret dX8_cell_8 rfl (Nat.zero_le _) (Nat.zero_le _) ⟨_, rfl, by first | exact ⟨(if_pos (by (try simp only [b2i_eq0, b2i_ne0, decide_eq_true_eq] at *); (try simp only [cI, sI_setA, sI_setQ, sI_setR, sA_setI, sA_setR, sA_setQ, fa_lt, fa_le, fa_eq, Int32.reduceToInt] at *); omega)).symm, rfl⟩ | exact ⟨(if_neg (by (try simp only [b2i_eq0, b2i_ne0, decide_eq_true_eq] at *); (try simp only [cI, sI_setA, sI_setQ, sI_setR, sA_setI, sA_setR, sA_setQ, fa_lt, fa_le, fa_eq, Int32.reduceToInt] at *); omega)).symm, rfl⟩⟩
set_option maxHeartbeats 4000000 in
theorem c_X8_told {l : Launch} {G : va_G} {cy : Nat → ClassId} (a w : Int32) (S : HS) (h : ShC S) : Cn l G cy yX8_told cX8_told 4 (some .int) 2 [.ref 0, .int a, .int w] S 0 0 (qI (fun r S2 => (r = if (0 ≤ a.toInt ∧ a.toInt < (cI S 9).toInt) then sel w.toInt (-1) [sI S (fid 0 2) (100 + 3 * nn a), sI S (fid 0 3) (100 + 3 * nn a), sI S (fid 0 4) (100 + 3 * nn a), sI S (fid 0 6) (100 + 3 * nn a), sI S (fid 0 7) (100 + 3 * nn a), sI S (fid 0 5) (100 + 3 * nn a)] else -1) ∧ S2 = S)) := by
  refine Cn.of [some (.ref 0), some (.int a), some (.int w), none] (by decide) rfl (Nat.le_of_ble_eq_true rfl) ?_
  refine r_aload_n dX8_told_0 rfl rfl ?_
  refine r_iload_n dX8_told_1 rfl rfl ?_
  refine r_invV1r dX8_told_2 lm_X8_95 rfl (c_X8_boatAt _ _ h) (Nat.le_of_ble_eq_true rfl) (Nat.le_of_ble_eq_true rfl) (Nat.zero_le _) (Nat.zero_le _) (fun r2 S2 hq2 => ?_)
  obtain ⟨rfl, hz2⟩ := hq2
  replace hz2 := hz2.symm
  subst hz2
  by_cases hc2 : 0 ≤ a.toInt ∧ a.toInt < (cI S 9).toInt
  · rw [if_pos (α := Option Nat) hc2]
    have hbb := h.b
    have hlt : nn a < 12 := by unfold nn; omega
    have hlb : nn a < nn (cI S 9) := by unfold nn; omega
    have hkb := tkB hlt
    have hkp := tkBp hlt
    have hkg := tkBg hlt
    have hnp := tnBp hlt
    have hng := tnBg hlt
    have hr0 := (h.rB hlb).2.1
    have hr1 := (h.rB hlb).2.2
    have hl1 := h.lB hlb (j := 1) (by decide)
    have hl2 := h.lB hlb (j := 2) (by decide)
    refine r_ast3 dX8_told_5 (Nat.le_of_ble_eq_true rfl) rfl ?_
    refine r_aload_n dX8_told_6 rfl rfl ?_
    refine r_ifnonnull 12 dX8_told_7 (by decide) ?_
    refine r_iload_n dX8_told_12 rfl rfl ?_
    by_cases e13_0 : (w).toInt = 0
    · refine r_tableIn 52 dX8_told_13 (by rw [e13_0]; decide) (by rw [e13_0]; decide) (by rw [e13_0]; rfl) (by decide) ?_
      refine r_aload_n dX8_told_52 rfl rfl ?_
      refine r_getI dX8_told_53 lf_X8_102 rfl (by first | assumption | rfl) ?_
      exact r_iret dX8_told_56 rfl (Nat.zero_le _) (Nat.zero_le _) ⟨_, rfl, ⟨by rw [if_pos (by (try simp only [b2i_eq0, b2i_ne0, decide_eq_true_eq] at *); (try simp only [cI, sI_setA, sI_setQ, sI_setR, sA_setI, sA_setR, sA_setQ, fa_lt, fa_le, fa_eq, Int32.reduceToInt] at *); omega)]; simp [sel, e13_0], rfl⟩⟩
    by_cases e13_1 : (w).toInt = 1
    · refine r_tableIn 57 dX8_told_13 (by rw [e13_1]; decide) (by rw [e13_1]; decide) (by rw [e13_1]; rfl) (by decide) ?_
      refine r_aload_n dX8_told_57 rfl rfl ?_
      refine r_getI dX8_told_58 lf_X8_99 rfl (by first | assumption | rfl) ?_
      exact r_iret dX8_told_61 rfl (Nat.zero_le _) (Nat.zero_le _) ⟨_, rfl, ⟨by rw [if_pos (by (try simp only [b2i_eq0, b2i_ne0, decide_eq_true_eq] at *); (try simp only [cI, sI_setA, sI_setQ, sI_setR, sA_setI, sA_setR, sA_setQ, fa_lt, fa_le, fa_eq, Int32.reduceToInt] at *); omega)]; simp [sel, e13_1], rfl⟩⟩
    by_cases e13_2 : (w).toInt = 2
    · refine r_tableIn 62 dX8_told_13 (by rw [e13_2]; decide) (by rw [e13_2]; decide) (by rw [e13_2]; rfl) (by decide) ?_
      refine r_aload_n dX8_told_62 rfl rfl ?_
      refine r_getI dX8_told_63 lf_X8_198 rfl (by first | assumption | rfl) ?_
      exact r_iret dX8_told_66 rfl (Nat.zero_le _) (Nat.zero_le _) ⟨_, rfl, ⟨by rw [if_pos (by (try simp only [b2i_eq0, b2i_ne0, decide_eq_true_eq] at *); (try simp only [cI, sI_setA, sI_setQ, sI_setR, sA_setI, sA_setR, sA_setQ, fa_lt, fa_le, fa_eq, Int32.reduceToInt] at *); omega)]; simp [sel, e13_2], rfl⟩⟩
    by_cases e13_3 : (w).toInt = 3
    · refine r_tableIn 67 dX8_told_13 (by rw [e13_3]; decide) (by rw [e13_3]; decide) (by rw [e13_3]; rfl) (by decide) ?_
      refine r_aload_n dX8_told_67 rfl rfl ?_
      refine r_getI dX8_told_68 lf_X8_177 rfl (by first | assumption | rfl) ?_
      exact r_iret dX8_told_71 rfl (Nat.zero_le _) (Nat.zero_le _) ⟨_, rfl, ⟨by rw [if_pos (by (try simp only [b2i_eq0, b2i_ne0, decide_eq_true_eq] at *); (try simp only [cI, sI_setA, sI_setQ, sI_setR, sA_setI, sA_setR, sA_setQ, fa_lt, fa_le, fa_eq, Int32.reduceToInt] at *); omega)]; simp [sel, e13_3], rfl⟩⟩
    by_cases e13_4 : (w).toInt = 4
    · refine r_tableIn 72 dX8_told_13 (by rw [e13_4]; decide) (by rw [e13_4]; decide) (by rw [e13_4]; rfl) (by decide) ?_
      refine r_aload_n dX8_told_72 rfl rfl ?_
      refine r_getI dX8_told_73 lf_X8_201 rfl (by first | assumption | rfl) ?_
      exact r_iret dX8_told_76 rfl (Nat.zero_le _) (Nat.zero_le _) ⟨_, rfl, ⟨by rw [if_pos (by (try simp only [b2i_eq0, b2i_ne0, decide_eq_true_eq] at *); (try simp only [cI, sI_setA, sI_setQ, sI_setR, sA_setI, sA_setR, sA_setQ, fa_lt, fa_le, fa_eq, Int32.reduceToInt] at *); omega)]; simp [sel, e13_4], rfl⟩⟩
    by_cases e13_5 : (w).toInt = 5
    · refine r_tableIn 77 dX8_told_13 (by rw [e13_5]; decide) (by rw [e13_5]; decide) (by rw [e13_5]; rfl) (by decide) ?_
      refine r_aload_n dX8_told_77 rfl rfl ?_
      refine r_getI dX8_told_78 lf_X8_204 rfl (by first | assumption | rfl) ?_
      exact r_iret dX8_told_81 rfl (Nat.zero_le _) (Nat.zero_le _) ⟨_, rfl, ⟨by rw [if_pos (by (try simp only [b2i_eq0, b2i_ne0, decide_eq_true_eq] at *); (try simp only [cI, sI_setA, sI_setQ, sI_setR, sA_setI, sA_setR, sA_setQ, fa_lt, fa_le, fa_eq, Int32.reduceToInt] at *); omega)]; simp [sel, e13_5], rfl⟩⟩
    refine r_tableOut 82 dX8_told_13 (by omega) (by decide) ?_
    refine r_iconst (v := (-1)) dX8_told_82 (by decide) ?_
    exact r_iret dX8_told_83 rfl (Nat.zero_le _) (Nat.zero_le _) ⟨_, rfl, ⟨by rw [if_pos (by (try simp only [b2i_eq0, b2i_ne0, decide_eq_true_eq] at *); (try simp only [cI, sI_setA, sI_setQ, sI_setR, sA_setI, sA_setR, sA_setQ, fa_lt, fa_le, fa_eq, Int32.reduceToInt] at *); omega)]; simp only [sel]; rw [if_neg (by omega), if_neg (by omega), if_neg (by omega), if_neg (by omega), if_neg (by omega), if_neg (by omega)], rfl⟩⟩
  · rw [if_neg (α := Option Nat) hc2]
    have hbb := h.b
    refine r_ast3N dX8_told_5 (Nat.le_of_ble_eq_true rfl) rfl ?_
    refine r_aload_nN dX8_told_6 rfl rfl ?_
    refine r_ifnonnullN dX8_told_7 ?_
    refine r_iconst (v := (-1)) dX8_told_10 (by decide) ?_
    exact r_iret dX8_told_11 rfl (Nat.zero_le _) (Nat.zero_le _) ⟨_, rfl, by first | exact ⟨(if_pos (by (try simp only [b2i_eq0, b2i_ne0, decide_eq_true_eq] at *); (try simp only [cI, sI_setA, sI_setQ, sI_setR, sA_setI, sA_setR, sA_setQ, fa_lt, fa_le, fa_eq, Int32.reduceToInt] at *); omega)).symm, rfl⟩ | exact ⟨(if_neg (by (try simp only [b2i_eq0, b2i_ne0, decide_eq_true_eq] at *); (try simp only [cI, sI_setA, sI_setQ, sI_setR, sA_setI, sA_setR, sA_setQ, fa_lt, fa_le, fa_eq, Int32.reduceToInt] at *); omega)).symm, rfl⟩⟩
set_option maxHeartbeats 4000000 in
theorem c_X8_lot {l : Launch} {G : va_G} {cy : Nat → ClassId} (a w : Int32) (S : HS) (h : ShC S) : Cn l G cy yX8_lot cX8_lot 4 (some .int) 2 [.ref 0, .int a, .int w] S 0 0 (qI (fun r S2 => (r = if (0 ≤ a.toInt ∧ a.toInt < (cI S 11).toInt) then sel w.toInt (-1) [sI S (fid 2 0) (1000 + nn a), sI S (fid 2 1) (1000 + nn a), sI S (fid 2 2) (1000 + nn a), sI S (fid 2 3) (1000 + nn a), sI S (fid 2 4) (1000 + nn a), sI S (fid 2 7) (1000 + nn a), sI S (fid 2 8) (1000 + nn a), sI S (fid 2 5) (1000 + nn a), sI S (fid 2 6) (1000 + nn a), sI S (fid 2 9) (1000 + nn a), sI S (fid 2 10) (1000 + nn a)] else -1) ∧ S2 = S)) := by
  refine Cn.of [some (.ref 0), some (.int a), some (.int w), none] (by decide) rfl (Nat.le_of_ble_eq_true rfl) ?_
  refine r_aload_n dX8_lot_0 rfl rfl ?_
  refine r_iload_n dX8_lot_1 rfl rfl ?_
  refine r_invV1r dX8_lot_2 lm_X8_163 rfl (c_X8_lotAt _ _ h) (Nat.le_of_ble_eq_true rfl) (Nat.le_of_ble_eq_true rfl) (Nat.zero_le _) (Nat.zero_le _) (fun r2 S2 hq2 => ?_)
  obtain ⟨rfl, hz2⟩ := hq2
  replace hz2 := hz2.symm
  subst hz2
  by_cases hc2 : 0 ≤ a.toInt ∧ a.toInt < (cI S 11).toInt
  · rw [if_pos (α := Option Nat) hc2]
    have hbb := h.l
    have hlt : nn a < 400 := by unfold nn; omega
    have hkb := tkLo hlt
    refine r_ast3 dX8_lot_5 (Nat.le_of_ble_eq_true rfl) rfl ?_
    refine r_aload_n dX8_lot_6 rfl rfl ?_
    refine r_ifnonnull 12 dX8_lot_7 (by decide) ?_
    refine r_iload_n dX8_lot_12 rfl rfl ?_
    by_cases e13_0 : (w).toInt = 0
    · refine r_tableIn 72 dX8_lot_13 (by rw [e13_0]; decide) (by rw [e13_0]; decide) (by rw [e13_0]; rfl) (by decide) ?_
      refine r_aload_n dX8_lot_72 rfl rfl ?_
      refine r_getI dX8_lot_73 lf_X8_207 rfl (by first | assumption | rfl) ?_
      exact r_iret dX8_lot_76 rfl (Nat.zero_le _) (Nat.zero_le _) ⟨_, rfl, ⟨by rw [if_pos (by (try simp only [b2i_eq0, b2i_ne0, decide_eq_true_eq] at *); (try simp only [cI, sI_setA, sI_setQ, sI_setR, sA_setI, sA_setR, sA_setQ, fa_lt, fa_le, fa_eq, Int32.reduceToInt] at *); omega)]; simp [sel, e13_0], rfl⟩⟩
    by_cases e13_1 : (w).toInt = 1
    · refine r_tableIn 77 dX8_lot_13 (by rw [e13_1]; decide) (by rw [e13_1]; decide) (by rw [e13_1]; rfl) (by decide) ?_
      refine r_aload_n dX8_lot_77 rfl rfl ?_
      refine r_getI dX8_lot_78 lf_X8_210 rfl (by first | assumption | rfl) ?_
      exact r_iret dX8_lot_81 rfl (Nat.zero_le _) (Nat.zero_le _) ⟨_, rfl, ⟨by rw [if_pos (by (try simp only [b2i_eq0, b2i_ne0, decide_eq_true_eq] at *); (try simp only [cI, sI_setA, sI_setQ, sI_setR, sA_setI, sA_setR, sA_setQ, fa_lt, fa_le, fa_eq, Int32.reduceToInt] at *); omega)]; simp [sel, e13_1], rfl⟩⟩
    by_cases e13_2 : (w).toInt = 2
    · refine r_tableIn 82 dX8_lot_13 (by rw [e13_2]; decide) (by rw [e13_2]; decide) (by rw [e13_2]; rfl) (by decide) ?_
      refine r_aload_n dX8_lot_82 rfl rfl ?_
      refine r_getI dX8_lot_83 lf_X8_213 rfl (by first | assumption | rfl) ?_
      exact r_iret dX8_lot_86 rfl (Nat.zero_le _) (Nat.zero_le _) ⟨_, rfl, ⟨by rw [if_pos (by (try simp only [b2i_eq0, b2i_ne0, decide_eq_true_eq] at *); (try simp only [cI, sI_setA, sI_setQ, sI_setR, sA_setI, sA_setR, sA_setQ, fa_lt, fa_le, fa_eq, Int32.reduceToInt] at *); omega)]; simp [sel, e13_2], rfl⟩⟩
    by_cases e13_3 : (w).toInt = 3
    · refine r_tableIn 87 dX8_lot_13 (by rw [e13_3]; decide) (by rw [e13_3]; decide) (by rw [e13_3]; rfl) (by decide) ?_
      refine r_aload_n dX8_lot_87 rfl rfl ?_
      refine r_getI dX8_lot_88 lf_X8_214 rfl (by first | assumption | rfl) ?_
      exact r_iret dX8_lot_91 rfl (Nat.zero_le _) (Nat.zero_le _) ⟨_, rfl, ⟨by rw [if_pos (by (try simp only [b2i_eq0, b2i_ne0, decide_eq_true_eq] at *); (try simp only [cI, sI_setA, sI_setQ, sI_setR, sA_setI, sA_setR, sA_setQ, fa_lt, fa_le, fa_eq, Int32.reduceToInt] at *); omega)]; simp [sel, e13_3], rfl⟩⟩
    by_cases e13_4 : (w).toInt = 4
    · refine r_tableIn 92 dX8_lot_13 (by rw [e13_4]; decide) (by rw [e13_4]; decide) (by rw [e13_4]; rfl) (by decide) ?_
      refine r_aload_n dX8_lot_92 rfl rfl ?_
      refine r_getI dX8_lot_93 lf_X8_217 rfl (by first | assumption | rfl) ?_
      exact r_iret dX8_lot_96 rfl (Nat.zero_le _) (Nat.zero_le _) ⟨_, rfl, ⟨by rw [if_pos (by (try simp only [b2i_eq0, b2i_ne0, decide_eq_true_eq] at *); (try simp only [cI, sI_setA, sI_setQ, sI_setR, sA_setI, sA_setR, sA_setQ, fa_lt, fa_le, fa_eq, Int32.reduceToInt] at *); omega)]; simp [sel, e13_4], rfl⟩⟩
    by_cases e13_5 : (w).toInt = 5
    · refine r_tableIn 97 dX8_lot_13 (by rw [e13_5]; decide) (by rw [e13_5]; decide) (by rw [e13_5]; rfl) (by decide) ?_
      refine r_aload_n dX8_lot_97 rfl rfl ?_
      refine r_getI dX8_lot_98 lf_X8_219 rfl (by first | assumption | rfl) ?_
      exact r_iret dX8_lot_101 rfl (Nat.zero_le _) (Nat.zero_le _) ⟨_, rfl, ⟨by rw [if_pos (by (try simp only [b2i_eq0, b2i_ne0, decide_eq_true_eq] at *); (try simp only [cI, sI_setA, sI_setQ, sI_setR, sA_setI, sA_setR, sA_setQ, fa_lt, fa_le, fa_eq, Int32.reduceToInt] at *); omega)]; simp [sel, e13_5], rfl⟩⟩
    by_cases e13_6 : (w).toInt = 6
    · refine r_tableIn 102 dX8_lot_13 (by rw [e13_6]; decide) (by rw [e13_6]; decide) (by rw [e13_6]; rfl) (by decide) ?_
      refine r_aload_n dX8_lot_102 rfl rfl ?_
      refine r_getI dX8_lot_103 lf_X8_222 rfl (by first | assumption | rfl) ?_
      exact r_iret dX8_lot_106 rfl (Nat.zero_le _) (Nat.zero_le _) ⟨_, rfl, ⟨by rw [if_pos (by (try simp only [b2i_eq0, b2i_ne0, decide_eq_true_eq] at *); (try simp only [cI, sI_setA, sI_setQ, sI_setR, sA_setI, sA_setR, sA_setQ, fa_lt, fa_le, fa_eq, Int32.reduceToInt] at *); omega)]; simp [sel, e13_6], rfl⟩⟩
    by_cases e13_7 : (w).toInt = 7
    · refine r_tableIn 107 dX8_lot_13 (by rw [e13_7]; decide) (by rw [e13_7]; decide) (by rw [e13_7]; rfl) (by decide) ?_
      refine r_aload_n dX8_lot_107 rfl rfl ?_
      refine r_getI dX8_lot_108 lf_X8_225 rfl (by first | assumption | rfl) ?_
      exact r_iret dX8_lot_111 rfl (Nat.zero_le _) (Nat.zero_le _) ⟨_, rfl, ⟨by rw [if_pos (by (try simp only [b2i_eq0, b2i_ne0, decide_eq_true_eq] at *); (try simp only [cI, sI_setA, sI_setQ, sI_setR, sA_setI, sA_setR, sA_setQ, fa_lt, fa_le, fa_eq, Int32.reduceToInt] at *); omega)]; simp [sel, e13_7], rfl⟩⟩
    by_cases e13_8 : (w).toInt = 8
    · refine r_tableIn 112 dX8_lot_13 (by rw [e13_8]; decide) (by rw [e13_8]; decide) (by rw [e13_8]; rfl) (by decide) ?_
      refine r_aload_n dX8_lot_112 rfl rfl ?_
      refine r_getI dX8_lot_113 lf_X8_228 rfl (by first | assumption | rfl) ?_
      exact r_iret dX8_lot_116 rfl (Nat.zero_le _) (Nat.zero_le _) ⟨_, rfl, ⟨by rw [if_pos (by (try simp only [b2i_eq0, b2i_ne0, decide_eq_true_eq] at *); (try simp only [cI, sI_setA, sI_setQ, sI_setR, sA_setI, sA_setR, sA_setQ, fa_lt, fa_le, fa_eq, Int32.reduceToInt] at *); omega)]; simp [sel, e13_8], rfl⟩⟩
    by_cases e13_9 : (w).toInt = 9
    · refine r_tableIn 117 dX8_lot_13 (by rw [e13_9]; decide) (by rw [e13_9]; decide) (by rw [e13_9]; rfl) (by decide) ?_
      refine r_aload_n dX8_lot_117 rfl rfl ?_
      refine r_getI dX8_lot_118 lf_X8_231 rfl (by first | assumption | rfl) ?_
      exact r_iret dX8_lot_121 rfl (Nat.zero_le _) (Nat.zero_le _) ⟨_, rfl, ⟨by rw [if_pos (by (try simp only [b2i_eq0, b2i_ne0, decide_eq_true_eq] at *); (try simp only [cI, sI_setA, sI_setQ, sI_setR, sA_setI, sA_setR, sA_setQ, fa_lt, fa_le, fa_eq, Int32.reduceToInt] at *); omega)]; simp [sel, e13_9], rfl⟩⟩
    by_cases e13_10 : (w).toInt = 10
    · refine r_tableIn 122 dX8_lot_13 (by rw [e13_10]; decide) (by rw [e13_10]; decide) (by rw [e13_10]; rfl) (by decide) ?_
      refine r_aload_n dX8_lot_122 rfl rfl ?_
      refine r_getI dX8_lot_123 lf_X8_234 rfl (by first | assumption | rfl) ?_
      exact r_iret dX8_lot_126 rfl (Nat.zero_le _) (Nat.zero_le _) ⟨_, rfl, ⟨by rw [if_pos (by (try simp only [b2i_eq0, b2i_ne0, decide_eq_true_eq] at *); (try simp only [cI, sI_setA, sI_setQ, sI_setR, sA_setI, sA_setR, sA_setQ, fa_lt, fa_le, fa_eq, Int32.reduceToInt] at *); omega)]; simp [sel, e13_10], rfl⟩⟩
    refine r_tableOut 127 dX8_lot_13 (by omega) (by decide) ?_
    refine r_iconst (v := (-1)) dX8_lot_127 (by decide) ?_
    exact r_iret dX8_lot_128 rfl (Nat.zero_le _) (Nat.zero_le _) ⟨_, rfl, ⟨by rw [if_pos (by (try simp only [b2i_eq0, b2i_ne0, decide_eq_true_eq] at *); (try simp only [cI, sI_setA, sI_setQ, sI_setR, sA_setI, sA_setR, sA_setQ, fa_lt, fa_le, fa_eq, Int32.reduceToInt] at *); omega)]; simp only [sel]; rw [if_neg (by omega), if_neg (by omega), if_neg (by omega), if_neg (by omega), if_neg (by omega), if_neg (by omega), if_neg (by omega), if_neg (by omega), if_neg (by omega), if_neg (by omega), if_neg (by omega)], rfl⟩⟩
  · rw [if_neg (α := Option Nat) hc2]
    have hbb := h.l
    refine r_ast3N dX8_lot_5 (Nat.le_of_ble_eq_true rfl) rfl ?_
    refine r_aload_nN dX8_lot_6 rfl rfl ?_
    refine r_ifnonnullN dX8_lot_7 ?_
    refine r_iconst (v := (-1)) dX8_lot_10 (by decide) ?_
    exact r_iret dX8_lot_11 rfl (Nat.zero_le _) (Nat.zero_le _) ⟨_, rfl, by first | exact ⟨(if_pos (by (try simp only [b2i_eq0, b2i_ne0, decide_eq_true_eq] at *); (try simp only [cI, sI_setA, sI_setQ, sI_setR, sA_setI, sA_setR, sA_setQ, fa_lt, fa_le, fa_eq, Int32.reduceToInt] at *); omega)).symm, rfl⟩ | exact ⟨(if_neg (by (try simp only [b2i_eq0, b2i_ne0, decide_eq_true_eq] at *); (try simp only [cI, sI_setA, sI_setQ, sI_setR, sA_setI, sA_setR, sA_setQ, fa_lt, fa_le, fa_eq, Int32.reduceToInt] at *); omega)).symm, rfl⟩⟩
set_option maxHeartbeats 4000000 in
theorem c_X4_cransInAll {l : Launch} {G : va_G} {cy : Nat → ClassId} (S : HS) (h : ShF S) : Cn l G cy yX4_cransInAll cX4_cransInAll 3 (some .int) 0 [.ref 1] S 0 0 (qI (fun r S2 => r = l_sum (sA S 2) 36 ∧ S2 = S)) := by
  refine Cn.of [some (.ref 1), none, none] (by decide) rfl (Nat.le_of_ble_eq_true rfl) ?_
  refine r_iconst (v := 0) dX4_cransInAll_0 (by decide) ?_
  refine r_ist1 dX4_cransInAll_1 (Nat.le_of_ble_eq_true rfl) rfl ?_
  refine r_iconst (v := 0) dX4_cransInAll_2 (by decide) ?_
  refine r_ist2 dX4_cransInAll_3 (Nat.le_of_ble_eq_true rfl) rfl ?_
  refine R.for (α := Unit) (36) (fun i a => [some (.ref 1), some (.int (l_sum (sA S 2) i)), some (.int (nI i))]) (fun i a => S) (fun i a => True) ?_ ?_ 0 () (Nat.zero_le _) trivial
  · intro a hI
    have hii : (nI 36).toInt = (36 : Nat) := nI_toInt (by omega)
    refine r_iload_n dX4_cransInAll_4 rfl rfl ?_
    refine r_bipush (v := 36) dX4_cransInAll_5 (by decide) ?_
    refine r_icmp_ge 25 dX4_cransInAll_7 (by decide) (fun q7 => ?_) (fun q7 => ?_)
    · skip
      refine r_iload_n dX4_cransInAll_25 rfl rfl ?_
      exact r_iret dX4_cransInAll_26 rfl (Nat.zero_le _) (Nat.zero_le _) ⟨_, rfl, ⟨rfl, rfl⟩⟩
    · skip
      exact absurd q7 (by (try simp only [b2i_eq0, b2i_ne0, decide_eq_true_eq] at *); (try simp only [cI, sI_setA, sI_setQ, sI_setR, sA_setI, sA_setR, sA_setQ, fa_lt, fa_le, fa_eq, Int32.reduceToInt] at *); omega)
  · intro i a hi hI ih
    have hii : (nI i).toInt = i := nI_toInt (by omega)
    have hic : (nI i).toNatClampNeg = i := nI_clamp (by omega)
    refine r_iload_n dX4_cransInAll_4 rfl rfl ?_
    refine r_bipush (v := 36) dX4_cransInAll_5 (by decide) ?_
    refine r_icmp_ge 25 dX4_cransInAll_7 (by decide) (fun q7 => ?_) (fun q7 => ?_)
    · skip
      exact absurd q7 (by (try simp only [b2i_eq0, b2i_ne0, decide_eq_true_eq] at *); (try simp only [cI, sI_setA, sI_setQ, sI_setR, sA_setI, sA_setR, sA_setQ, fa_lt, fa_le, fa_eq, Int32.reduceToInt] at *); omega)
    · skip
      refine r_iload_n dX4_cransInAll_10 rfl rfl ?_
      refine r_aload_n dX4_cransInAll_11 rfl rfl ?_
      refine r_getR dX4_cransInAll_12 lf_X4_9 rfl rfl (shR4_0 h) (shL_2 h) ?_
      refine r_iload_n dX4_cransInAll_15 rfl rfl ?_
      refine r_iald dX4_cransInAll_16 rfl (show vp_in _ 36 from vp_in_iff.mpr (by (try simp only [b2i_eq0, b2i_ne0, decide_eq_true_eq] at *); (try simp only [cI, sI_setA, sI_setQ, sI_setR, sA_setI, sA_setR, sA_setQ, fa_lt, fa_le, fa_eq, Int32.reduceToInt] at *); omega)) ?_
      refine r_iadd dX4_cransInAll_17 ?_
      refine r_ist1 dX4_cransInAll_18 (Nat.le_of_ble_eq_true rfl) rfl ?_
      refine r_in2 dX4_cransInAll_19 (show _ + Int32.ofInt 1 = _ + 1 from rfl) (Nat.le_of_ble_eq_true rfl) rfl ?_
      refine r_goto 4 dX4_cransInAll_22 (by decide) ?_
      rw [hic, nI_1]
      exact ih () trivial
set_option maxHeartbeats 4000000 in
theorem c_X8_owedInAll {l : Launch} {G : va_G} {cy : Nat → ClassId} (S : HS) (h : ShC S) : Cn l G cy yX8_owedInAll cX8_owedInAll 4 (some .int) 2 [.ref 0] S 0 0 (qI (fun r S2 => r = l_sum (fun j => sI S (fid 0 6) (100 + 3 * j)) (nn (cI S 9)) ∧ S2 = S)) := by
  refine Cn.of [some (.ref 0), none, none, none] (by decide) rfl (Nat.le_of_ble_eq_true rfl) ?_
  refine r_iconst (v := 0) dX8_owedInAll_0 (by decide) ?_
  refine r_ist1 dX8_owedInAll_1 (Nat.le_of_ble_eq_true rfl) rfl ?_
  refine r_iconst (v := 0) dX8_owedInAll_2 (by decide) ?_
  refine r_ist2 dX8_owedInAll_3 (Nat.le_of_ble_eq_true rfl) rfl ?_
  refine R.for (α := Option Value) (nn (cI S 9)) (fun i a => [some (.ref 0), some (.int (l_sum (fun j => sI S (fid 0 6) (100 + 3 * j)) i)), some (.int (nI i)), a]) (fun i a => S) (fun i a => True) ?_ ?_ 0 none (Nat.zero_le _) trivial
  · intro a hI
    have hbb := h.b
    have hnb := nn_int hbb.1
    have hii : (nI (nn (cI S 9))).toInt = ((nn (cI S 9) : Nat) : Int) := nI_toInt (by omega)
    refine r_iload_n dX8_owedInAll_4 rfl rfl ?_
    refine r_aload_n dX8_owedInAll_5 rfl rfl ?_
    refine r_getI dX8_owedInAll_6 lf_X8_89 rfl rfl ?_
    refine r_icmp_ge 35 dX8_owedInAll_9 (by decide) (fun q9 => ?_) (fun q9 => ?_)
    · skip
      refine r_iload_n dX8_owedInAll_35 rfl rfl ?_
      exact r_iret dX8_owedInAll_36 rfl (Nat.zero_le _) (Nat.zero_le _) ⟨_, rfl, ⟨rfl, rfl⟩⟩
    · skip
      exact absurd q9 (by (try simp only [b2i_eq0, b2i_ne0, decide_eq_true_eq] at *); (try simp only [cI, sI_setA, sI_setQ, sI_setR, sA_setI, sA_setR, sA_setQ, fa_lt, fa_le, fa_eq, Int32.reduceToInt] at *); omega)
  · intro i a hi hI ih
    have hbb := h.b
    have hnb := nn_int hbb.1
    have hii : (nI i).toInt = i := nI_toInt (by omega)
    have hic : (nI i).toNatClampNeg = i := nI_clamp (by omega)
    have hlt : i < 12 := by omega
    have hkb := tkB hlt
    have hni : nn (nI i) = i := by unfold nn; omega
    refine r_iload_n dX8_owedInAll_4 rfl rfl ?_
    refine r_aload_n dX8_owedInAll_5 rfl rfl ?_
    refine r_getI dX8_owedInAll_6 lf_X8_89 rfl rfl ?_
    refine r_icmp_ge 35 dX8_owedInAll_9 (by decide) (fun q9 => ?_) (fun q9 => ?_)
    · skip
      exact absurd q9 (by (try simp only [b2i_eq0, b2i_ne0, decide_eq_true_eq] at *); (try simp only [cI, sI_setA, sI_setQ, sI_setR, sA_setI, sA_setR, sA_setQ, fa_lt, fa_le, fa_eq, Int32.reduceToInt] at *); omega)
    · skip
      refine r_aload_n dX8_owedInAll_12 rfl rfl ?_
      refine r_iload_n dX8_owedInAll_13 rfl rfl ?_
      refine r_invV1r dX8_owedInAll_14 lm_X8_95 rfl (c_X8_boatAt _ _ h) (Nat.le_of_ble_eq_true rfl) (Nat.le_of_ble_eq_true rfl) (Nat.zero_le _) (Nat.zero_le _) (fun r14 S14 hq14 => ?_)
      obtain ⟨rfl, hz14⟩ := hq14
      replace hz14 := hz14.symm
      subst hz14
      rw [if_pos (by omega), hni]
      refine r_ast3 dX8_owedInAll_17 (Nat.le_of_ble_eq_true rfl) rfl ?_
      refine r_aload_n dX8_owedInAll_18 rfl rfl ?_
      refine r_ifnull dX8_owedInAll_19 ?_
      refine r_iload_n dX8_owedInAll_22 rfl rfl ?_
      refine r_aload_n dX8_owedInAll_23 rfl rfl ?_
      refine r_getI dX8_owedInAll_24 lf_X8_177 rfl (by first | assumption | rfl) ?_
      refine r_iadd dX8_owedInAll_27 ?_
      refine r_ist1 dX8_owedInAll_28 (Nat.le_of_ble_eq_true rfl) rfl ?_
      refine r_in2 dX8_owedInAll_29 (show _ + Int32.ofInt 1 = _ + 1 from rfl) (Nat.le_of_ble_eq_true rfl) rfl ?_
      refine r_goto 4 dX8_owedInAll_32 (by decide) ?_
      rw [nI_1]
      exact ih _ trivial
set_option maxHeartbeats 4000000 in
theorem c_X8_count {l : Launch} {G : va_G} {cy : Nat → ClassId} (w : Int32) (S : HS) (h : ShC S) : Cn l G cy yX8_count cX8_count 2 (some .int) 3 [.ref 0, .int w] S 0 0 (qI (fun r S2 => r = sel w.toInt (-1) [cI S 12, cI S 9, cI S 10, cI S 11, l_sum (sA S 2) 36, cI S 14, cI S 15, cI S 16, sI S (fid 4 4) 1, cI S 17, l_sum (fun j => sI S (fid 0 6) (100 + 3 * j)) (nn (cI S 9)), sI S (fid 5 1) 8] ∧ S2 = S)) := by
  refine Cn.of [some (.ref 0), some (.int w)] (by decide) rfl (Nat.le_of_ble_eq_true rfl) ?_
  refine r_iload_n dX8_count_0 rfl rfl ?_
  by_cases e1_0 : (w).toInt = 0
  · refine r_tableIn 64 dX8_count_1 (by rw [e1_0]; decide) (by rw [e1_0]; decide) (by rw [e1_0]; rfl) (by decide) ?_
    refine r_aload_n dX8_count_64 rfl rfl ?_
    refine r_getI dX8_count_65 lf_X8_118 rfl rfl ?_
    exact r_iret dX8_count_68 rfl (Nat.zero_le _) (Nat.zero_le _) ⟨_, rfl, ⟨by simp [sel, e1_0], rfl⟩⟩
  by_cases e1_1 : (w).toInt = 1
  · refine r_tableIn 69 dX8_count_1 (by rw [e1_1]; decide) (by rw [e1_1]; decide) (by rw [e1_1]; rfl) (by decide) ?_
    refine r_aload_n dX8_count_69 rfl rfl ?_
    refine r_getI dX8_count_70 lf_X8_89 rfl rfl ?_
    exact r_iret dX8_count_73 rfl (Nat.zero_le _) (Nat.zero_le _) ⟨_, rfl, ⟨by simp [sel, e1_1], rfl⟩⟩
  by_cases e1_2 : (w).toInt = 2
  · refine r_tableIn 74 dX8_count_1 (by rw [e1_2]; decide) (by rw [e1_2]; decide) (by rw [e1_2]; rfl) (by decide) ?_
    refine r_aload_n dX8_count_74 rfl rfl ?_
    refine r_getI dX8_count_75 lf_X8_105 rfl rfl ?_
    exact r_iret dX8_count_78 rfl (Nat.zero_le _) (Nat.zero_le _) ⟨_, rfl, ⟨by simp [sel, e1_2], rfl⟩⟩
  by_cases e1_3 : (w).toInt = 3
  · refine r_tableIn 79 dX8_count_1 (by rw [e1_3]; decide) (by rw [e1_3]; decide) (by rw [e1_3]; rfl) (by decide) ?_
    refine r_aload_n dX8_count_79 rfl rfl ?_
    refine r_getI dX8_count_80 lf_X8_121 rfl rfl ?_
    exact r_iret dX8_count_83 rfl (Nat.zero_le _) (Nat.zero_le _) ⟨_, rfl, ⟨by simp [sel, e1_3], rfl⟩⟩
  by_cases e1_4 : (w).toInt = 4
  · refine r_tableIn 84 dX8_count_1 (by rw [e1_4]; decide) (by rw [e1_4]; decide) (by rw [e1_4]; rfl) (by decide) ?_
    refine r_aload_n dX8_count_84 rfl rfl ?_
    refine r_getR dX8_count_85 lf_X8_12 rfl rfl (shR8_0 h.F) (shL_1 h.F) ?_
    refine r_invV0i dX8_count_88 lm_X8_237 rfl (c_X4_cransInAll _ h.F) (Nat.le_of_ble_eq_true rfl) (Nat.le_of_ble_eq_true rfl) (Nat.zero_le _) (Nat.zero_le _) (fun r88 S88 hq88 => ?_)
    obtain ⟨rfl, hz88⟩ := hq88
    replace hz88 := hz88.symm
    subst hz88
    exact r_iret dX8_count_91 rfl (Nat.zero_le _) (Nat.zero_le _) ⟨_, rfl, ⟨by simp [sel, e1_4], rfl⟩⟩
  by_cases e1_5 : (w).toInt = 5
  · refine r_tableIn 92 dX8_count_1 (by rw [e1_5]; decide) (by rw [e1_5]; decide) (by rw [e1_5]; rfl) (by decide) ?_
    refine r_aload_n dX8_count_92 rfl rfl ?_
    refine r_getI dX8_count_93 lf_X8_241 rfl rfl ?_
    exact r_iret dX8_count_96 rfl (Nat.zero_le _) (Nat.zero_le _) ⟨_, rfl, ⟨by simp [sel, e1_5], rfl⟩⟩
  by_cases e1_6 : (w).toInt = 6
  · refine r_tableIn 97 dX8_count_1 (by rw [e1_6]; decide) (by rw [e1_6]; decide) (by rw [e1_6]; rfl) (by decide) ?_
    refine r_aload_n dX8_count_97 rfl rfl ?_
    refine r_getI dX8_count_98 lf_X8_242 rfl rfl ?_
    exact r_iret dX8_count_101 rfl (Nat.zero_le _) (Nat.zero_le _) ⟨_, rfl, ⟨by simp [sel, e1_6], rfl⟩⟩
  by_cases e1_7 : (w).toInt = 7
  · refine r_tableIn 102 dX8_count_1 (by rw [e1_7]; decide) (by rw [e1_7]; decide) (by rw [e1_7]; rfl) (by decide) ?_
    refine r_aload_n dX8_count_102 rfl rfl ?_
    refine r_getI dX8_count_103 lf_X8_245 rfl rfl ?_
    exact r_iret dX8_count_106 rfl (Nat.zero_le _) (Nat.zero_le _) ⟨_, rfl, ⟨by simp [sel, e1_7], rfl⟩⟩
  by_cases e1_8 : (w).toInt = 8
  · refine r_tableIn 107 dX8_count_1 (by rw [e1_8]; decide) (by rw [e1_8]; decide) (by rw [e1_8]; rfl) (by decide) ?_
    refine r_aload_n dX8_count_107 rfl rfl ?_
    refine r_getR dX8_count_108 lf_X8_12 rfl rfl (shR8_0 h.F) (shL_1 h.F) ?_
    refine r_getI dX8_count_111 lf_X8_248 rfl rfl ?_
    exact r_iret dX8_count_114 rfl (Nat.zero_le _) (Nat.zero_le _) ⟨_, rfl, ⟨by simp [sel, e1_8], rfl⟩⟩
  by_cases e1_9 : (w).toInt = 9
  · refine r_tableIn 115 dX8_count_1 (by rw [e1_9]; decide) (by rw [e1_9]; decide) (by rw [e1_9]; rfl) (by decide) ?_
    refine r_aload_n dX8_count_115 rfl rfl ?_
    refine r_getI dX8_count_116 lf_X8_251 rfl rfl ?_
    exact r_iret dX8_count_119 rfl (Nat.zero_le _) (Nat.zero_le _) ⟨_, rfl, ⟨by simp [sel, e1_9], rfl⟩⟩
  by_cases e1_10 : (w).toInt = 10
  · refine r_tableIn 120 dX8_count_1 (by rw [e1_10]; decide) (by rw [e1_10]; decide) (by rw [e1_10]; rfl) (by decide) ?_
    refine r_aload_n dX8_count_120 rfl rfl ?_
    refine r_invV0i dX8_count_121 lm_X8_254 rfl (c_X8_owedInAll _ h) (Nat.le_of_ble_eq_true rfl) (Nat.le_of_ble_eq_true rfl) (Nat.zero_le _) (Nat.zero_le _) (fun r121 S121 hq121 => ?_)
    obtain ⟨rfl, hz121⟩ := hq121
    replace hz121 := hz121.symm
    subst hz121
    exact r_iret dX8_count_124 rfl (Nat.zero_le _) (Nat.zero_le _) ⟨_, rfl, ⟨by simp [sel, e1_10], rfl⟩⟩
  by_cases e1_11 : (w).toInt = 11
  · refine r_tableIn 125 dX8_count_1 (by rw [e1_11]; decide) (by rw [e1_11]; decide) (by rw [e1_11]; rfl) (by decide) ?_
    refine r_aload_n dX8_count_125 rfl rfl ?_
    refine r_getR dX8_count_126 lf_X8_37 rfl rfl (shR8_4 h.F) (shL_8 h.F) ?_
    refine r_getI dX8_count_129 lf_X8_145 rfl (by first | assumption | rfl) ?_
    exact r_iret dX8_count_132 rfl (Nat.zero_le _) (Nat.zero_le _) ⟨_, rfl, ⟨by simp [sel, e1_11], rfl⟩⟩
  refine r_tableOut 133 dX8_count_1 (by omega) (by decide) ?_
  refine r_iconst (v := (-1)) dX8_count_133 (by decide) ?_
  exact r_iret dX8_count_134 rfl (Nat.zero_le _) (Nat.zero_le _) ⟨_, rfl, ⟨by simp only [sel]; rw [if_neg (by omega), if_neg (by omega), if_neg (by omega), if_neg (by omega), if_neg (by omega), if_neg (by omega), if_neg (by omega), if_neg (by omega), if_neg (by omega), if_neg (by omega), if_neg (by omega), if_neg (by omega)], rfl⟩⟩
set_option maxHeartbeats 4000000 in
theorem c_X0_loseNets {l : Launch} {G : va_G} {cy : Nat → ClassId} (o : Nat) (S : HS) (hk : tk o = 0) : Cn l G cy yX0_loseNets cX0_loseNets 2 none 0 [.ref o] S 0 0 (qV (fun S2 => S2 = setI (setI S (fid 0 2) o (sI S (fid 0 2) o - sI S (fid 0 2) o / 5)) (fid 0 7) o (sI S (fid 0 7) o + sI S (fid 0 2) o / 5))) := by
  refine Cn.of [some (.ref o), none] (by decide) rfl (Nat.le_of_ble_eq_true rfl) ?_
  refine r_aload_n dX0_loseNets_0 rfl rfl ?_
  refine r_getI dX0_loseNets_1 lf_X0_22 rfl (by first | assumption | rfl) ?_
  refine r_iconst (v := 5) dX0_loseNets_4 (by decide) ?_
  refine r_idiv dX0_loseNets_5 (by decide) ?_
  refine r_ist1 dX0_loseNets_6 (Nat.le_of_ble_eq_true rfl) rfl ?_
  refine r_aload_n dX0_loseNets_7 rfl rfl ?_
  refine r_dup dX0_loseNets_8 rfl ?_
  refine r_getI dX0_loseNets_9 lf_X0_22 rfl (by first | assumption | rfl) ?_
  refine r_iload_n dX0_loseNets_12 rfl rfl ?_
  refine r_isub dX0_loseNets_13 ?_
  refine r_putI dX0_loseNets_14 (lp_X0_22 _) rfl (by first | assumption | rfl) ?_
  refine r_aload_n dX0_loseNets_17 rfl rfl ?_
  refine r_dup dX0_loseNets_18 rfl ?_
  refine r_getI dX0_loseNets_19 lf_X0_25 rfl (by first | assumption | rfl) ?_
  refine r_iload_n dX0_loseNets_22 rfl rfl ?_
  refine r_iadd dX0_loseNets_23 ?_
  refine r_putI dX0_loseNets_24 (lp_X0_25 _) rfl (by first | assumption | rfl) ?_
  exact r_vret dX0_loseNets_27 rfl (Nat.zero_le _) (Nat.zero_le _) ⟨rfl, rfl⟩
set_option maxHeartbeats 4000000 in
theorem c_X0_takeIn {l : Launch} {G : va_G} {cy : Nat → ClassId} (o : Nat) (a : Int32) (S : HS) (hk : tk o = 0) : Cn l G cy yX0_takeIn cX0_takeIn 2 none 0 [.ref o, .int a] S 0 0 (qV (fun S2 => S2 = setI (setI S (fid 0 5) o (sI S (fid 0 5) o + a)) (fid 0 4) o (sI S (fid 0 4) o + a))) := by
  refine Cn.of [some (.ref o), some (.int a)] (by decide) rfl (Nat.le_of_ble_eq_true rfl) ?_
  refine r_aload_n dX0_takeIn_0 rfl rfl ?_
  refine r_dup dX0_takeIn_1 rfl ?_
  refine r_getI dX0_takeIn_2 lf_X0_28 rfl (by first | assumption | rfl) ?_
  refine r_iload_n dX0_takeIn_5 rfl rfl ?_
  refine r_iadd dX0_takeIn_6 ?_
  refine r_putI dX0_takeIn_7 (lp_X0_28 _) rfl (by first | assumption | rfl) ?_
  refine r_aload_n dX0_takeIn_10 rfl rfl ?_
  refine r_dup dX0_takeIn_11 rfl ?_
  refine r_getI dX0_takeIn_12 lf_X0_31 rfl (by first | assumption | rfl) ?_
  refine r_iload_n dX0_takeIn_15 rfl rfl ?_
  refine r_iadd dX0_takeIn_16 ?_
  refine r_putI dX0_takeIn_17 (lp_X0_31 _) rfl (by first | assumption | rfl) ?_
  exact r_vret dX0_takeIn_20 rfl (Nat.zero_le _) (Nat.zero_le _) ⟨rfl, rfl⟩
set_option maxHeartbeats 4000000 in
theorem c_X2_cureOne {l : Launch} {G : va_G} {cy : Nat → ClassId} (o : Nat) (a : Int32) (S : HS) (hk : tk o = 2) : Cn l G cy yX2_cureOne cX2_cureOne 2 none 1 [.ref o, .int a] S 0 0 (qV (fun S2 => S2 = setI (setI (setI S (fid 2 7) o (sI S (fid 2 7) o + 1)) (fid 2 9) o (if sI S (fid 2 9) o < a - sI S (fid 2 5) o then a - sI S (fid 2 5) o else sI S (fid 2 9) o)) (fid 2 10) o (if sI S (fid 2 10) o < a + 12 then a + 12 else sI S (fid 2 10) o))) := by
  refine Cn.of [some (.ref o), some (.int a)] (by decide) rfl (Nat.le_of_ble_eq_true rfl) ?_
  refine r_aload_n dX2_cureOne_0 rfl rfl ?_
  refine r_dup dX2_cureOne_1 rfl ?_
  refine r_getI dX2_cureOne_2 lf_X2_33 rfl (by first | assumption | rfl) ?_
  refine r_iconst (v := 1) dX2_cureOne_5 (by decide) ?_
  refine r_iadd dX2_cureOne_6 ?_
  refine r_putI dX2_cureOne_7 (lp_X2_33 _) rfl (by first | assumption | rfl) ?_
  refine r_aload_n dX2_cureOne_10 rfl rfl ?_
  refine r_aload_n dX2_cureOne_11 rfl rfl ?_
  refine r_getI dX2_cureOne_12 lf_X2_36 rfl (by first | assumption | rfl) ?_
  refine r_iload_n dX2_cureOne_15 rfl rfl ?_
  refine r_aload_n dX2_cureOne_16 rfl rfl ?_
  refine r_getI dX2_cureOne_17 lf_X2_27 rfl (by first | assumption | rfl) ?_
  refine r_isub dX2_cureOne_20 ?_
  refine r_mmax dX2_cureOne_21 lm_X2_39 (Nat.le_of_ble_eq_true rfl) (Nat.le_of_ble_eq_true rfl) (Nat.zero_le _) (Nat.zero_le _) ?_
  refine r_putI dX2_cureOne_24 (lp_X2_36 _) rfl (by first | assumption | rfl) ?_
  refine r_aload_n dX2_cureOne_27 rfl rfl ?_
  refine r_aload_n dX2_cureOne_28 rfl rfl ?_
  refine r_getI dX2_cureOne_29 lf_X2_45 rfl (by first | assumption | rfl) ?_
  refine r_iload_n dX2_cureOne_32 rfl rfl ?_
  refine r_bipush (v := 12) dX2_cureOne_33 (by decide) ?_
  refine r_iadd dX2_cureOne_35 ?_
  refine r_mmax dX2_cureOne_36 lm_X2_39 (Nat.le_of_ble_eq_true rfl) (Nat.le_of_ble_eq_true rfl) (Nat.zero_le _) (Nat.zero_le _) ?_
  refine r_putI dX2_cureOne_39 (lp_X2_45 _) rfl (by first | assumption | rfl) ?_
  exact r_vret dX2_cureOne_42 rfl (Nat.zero_le _) (Nat.zero_le _) ⟨rfl, rfl⟩
set_option maxHeartbeats 4000000 in
theorem c_X2_measure {l : Launch} {G : va_G} {cy : Nat → ClassId} (o : Nat) (a w : Int32) (S : HS) (hk : tk o = 2) : Cn l G cy yX2_measure cX2_measure 3 (some .int) 0 [.ref o, .int a, .int w] S 0 0 (qI (fun r S2 => (r = if a.toInt = 97 then w - sI S (fid 2 0) o else if a.toInt = 99 then sI S (fid 2 7) o else if a.toInt = 112 then sI S (fid 2 6) o else if a.toInt = 115 then sI S (fid 2 8) o else if a.toInt = 119 then sI S (fid 2 9) o else 0) ∧ S2 = S)) := by
  refine Cn.of [some (.ref o), some (.int a), some (.int w)] (by decide) rfl (Nat.le_of_ble_eq_true rfl) ?_
  refine r_iload_n dX2_measure_0 rfl rfl ?_
  by_cases e1_97 : (a).toInt = 97
  · refine r_lookup (off := 66) 67 dX2_measure_1 (by decide) (by simp [Op.lookupswitch.offset, e1_97]) (by decide) ?_
    refine r_iload_n dX2_measure_67 rfl rfl ?_
    refine r_aload_n dX2_measure_68 rfl rfl ?_
    refine r_getI dX2_measure_69 lf_X2_9 rfl (by first | assumption | rfl) ?_
    refine r_isub dX2_measure_72 ?_
    exact r_iret dX2_measure_73 rfl (Nat.zero_le _) (Nat.zero_le _) ⟨_, rfl, ⟨by simp [*], rfl⟩⟩
  by_cases e1_99 : (a).toInt = 99
  · refine r_lookup (off := 51) 52 dX2_measure_1 (by decide) (by simp [Op.lookupswitch.offset, e1_99]) (by decide) ?_
    refine r_aload_n dX2_measure_52 rfl rfl ?_
    refine r_getI dX2_measure_53 lf_X2_33 rfl (by first | assumption | rfl) ?_
    exact r_iret dX2_measure_56 rfl (Nat.zero_le _) (Nat.zero_le _) ⟨_, rfl, ⟨by simp [*], rfl⟩⟩
  by_cases e1_112 : (a).toInt = 112
  · refine r_lookup (off := 73) 74 dX2_measure_1 (by decide) (by simp [Op.lookupswitch.offset, e1_112]) (by decide) ?_
    refine r_aload_n dX2_measure_74 rfl rfl ?_
    refine r_getI dX2_measure_75 lf_X2_30 rfl (by first | assumption | rfl) ?_
    exact r_iret dX2_measure_78 rfl (Nat.zero_le _) (Nat.zero_le _) ⟨_, rfl, ⟨by simp [*], rfl⟩⟩
  by_cases e1_115 : (a).toInt = 115
  · refine r_lookup (off := 56) 57 dX2_measure_1 (by decide) (by simp [Op.lookupswitch.offset, e1_115]) (by decide) ?_
    refine r_aload_n dX2_measure_57 rfl rfl ?_
    refine r_getI dX2_measure_58 lf_X2_48 rfl (by first | assumption | rfl) ?_
    exact r_iret dX2_measure_61 rfl (Nat.zero_le _) (Nat.zero_le _) ⟨_, rfl, ⟨by simp [*], rfl⟩⟩
  by_cases e1_119 : (a).toInt = 119
  · refine r_lookup (off := 61) 62 dX2_measure_1 (by decide) (by simp [Op.lookupswitch.offset, e1_119]) (by decide) ?_
    refine r_aload_n dX2_measure_62 rfl rfl ?_
    refine r_getI dX2_measure_63 lf_X2_36 rfl (by first | assumption | rfl) ?_
    exact r_iret dX2_measure_66 rfl (Nat.zero_le _) (Nat.zero_le _) ⟨_, rfl, ⟨by simp [*], rfl⟩⟩
  have f1_97 : ¬ (97 : Int) = (a).toInt := fun h => e1_97 h.symm
  have f1_99 : ¬ (99 : Int) = (a).toInt := fun h => e1_99 h.symm
  have f1_112 : ¬ (112 : Int) = (a).toInt := fun h => e1_112 h.symm
  have f1_115 : ¬ (115 : Int) = (a).toInt := fun h => e1_115 h.symm
  have f1_119 : ¬ (119 : Int) = (a).toInt := fun h => e1_119 h.symm
  refine r_lookup (off := 78) 79 dX2_measure_1 (by decide) (by simp [Op.lookupswitch.offset, f1_97, f1_99, f1_112, f1_115, f1_119]) (by decide) ?_
  refine r_iconst (v := 0) dX2_measure_79 (by decide) ?_
  exact r_iret dX2_measure_80 rfl (Nat.zero_le _) (Nat.zero_le _) ⟨_, rfl, ⟨by simp [*], rfl⟩⟩
set_option maxHeartbeats 4000000 in
theorem c_X0_init {l : Launch} {G : va_G} {cy : Nat → ClassId} (o : Nat) (a : Int32) (S : HS) (hk : tk o = 0) (k1 : tk (o + 1) = 10) (k2 : tk (o + 2) = 10) (n1 : tn (o + 1) = 8) (n2 : tn (o + 2) = 8) (f1 : o + 1 ∉ sL S) (f2 : o + 2 ∉ sL S) (r1 : Fr (o + 1) S) (r2 : Fr (o + 2) S) : Cn l G cy yX0_init cX0_init 2 none 1 [.ref o, .int a] S 2 16 (qV (fun S2 => S2 = setI (setI (setR (newA (setR (newA S (o + 1)) (fid 0 0) o (some (o + 1))) (o + 2)) (fid 0 1) o (some (o + 2))) (fid 0 3) o (-1)) (fid 0 2) o a)) := by
  refine Cn.of [some (.ref o), some (.int a)] (by decide) rfl (Nat.le_of_ble_eq_true rfl) ?_
  refine r_aload_n dX0_init_0 rfl rfl ?_
  refine r_objInit dX0_init_1 lm_X0_3 (Nat.le_of_ble_eq_true rfl) (Nat.le_of_ble_eq_true rfl) ?_
  refine r_aload_n dX0_init_4 rfl rfl ?_
  refine r_bipush (v := 8) dX0_init_5 (by decide) ?_
  refine r_newI (o + 1) dX0_init_7 tbI (by decide) rfl (by decide) k1 n1 f1 r1 (Nat.le_of_ble_eq_true rfl) (Nat.le_of_ble_eq_true rfl) ?_
  refine r_putR (v := some (o + 1)) dX0_init_9 lp_X0_9 rfl (by first | assumption | rfl) ?_
  refine r_aload_n dX0_init_12 rfl rfl ?_
  refine r_bipush (v := 8) dX0_init_13 (by decide) ?_
  refine r_newI (o + 2) dX0_init_15 tbI (by decide) rfl (by decide) k2 n2 (nm_app f2 (by omega)) (Fr_setR (Fr_newA r2) (by simp)) (Nat.le_of_ble_eq_true rfl) (Nat.le_of_ble_eq_true rfl) ?_
  refine r_putR (v := some (o + 2)) dX0_init_17 lp_X0_15 rfl (by first | assumption | rfl) ?_
  refine r_aload_n dX0_init_20 rfl rfl ?_
  refine r_iconst (v := (-1)) dX0_init_21 (by decide) ?_
  refine r_putI dX0_init_22 (lp_X0_18 _) rfl (by first | assumption | rfl) ?_
  refine r_aload_n dX0_init_25 rfl rfl ?_
  refine r_iload_n dX0_init_26 rfl rfl ?_
  refine r_putI dX0_init_27 (lp_X0_22 _) rfl (by first | assumption | rfl) ?_
  exact r_vret dX0_init_30 rfl (Nat.le_of_ble_eq_true rfl) (Nat.le_of_ble_eq_true rfl) ⟨rfl, rfl⟩
set_option maxHeartbeats 4000000 in
theorem c_X7_init {l : Launch} {G : va_G} {cy : Nat → ClassId} (o : Nat) (a w : Int32) (S : HS) (hk : tk o = 7) (k1 : tk (o + 1) = 10) (n1 : tn (o + 1) = 6) (f1 : o + 1 ∉ sL S) (r1 : Fr (o + 1) S) : Cn l G cy yX7_init cX7_init 3 none 1 [.ref o, .int a, .int w] S 1 6 (qV (fun S2 => S2 = setI (setI (setR (newA S (o + 1)) (fid 7 0) o (some (o + 1))) (fid 7 1) o (if 6 < a then 6 else a)) (fid 7 2) o w)) := by
  refine Cn.of [some (.ref o), some (.int a), some (.int w)] (by decide) rfl (Nat.le_of_ble_eq_true rfl) ?_
  refine r_aload_n dX7_init_0 rfl rfl ?_
  refine r_objInit dX7_init_1 lm_X7_3 (Nat.le_of_ble_eq_true rfl) (Nat.le_of_ble_eq_true rfl) ?_
  refine r_aload_n dX7_init_4 rfl rfl ?_
  refine r_bipush (v := 6) dX7_init_5 (by decide) ?_
  refine r_newI (o + 1) dX7_init_7 tbI (by decide) rfl (by decide) k1 n1 f1 r1 (Nat.le_of_ble_eq_true rfl) (Nat.le_of_ble_eq_true rfl) ?_
  refine r_putR (v := some (o + 1)) dX7_init_9 lp_X7_9 rfl (by first | assumption | rfl) ?_
  refine r_aload_n dX7_init_12 rfl rfl ?_
  refine r_iload_n dX7_init_13 rfl rfl ?_
  refine r_bipush (v := 6) dX7_init_14 (by decide) ?_
  refine r_mmin dX7_init_16 lm_X7_15 (Nat.le_of_ble_eq_true rfl) (Nat.le_of_ble_eq_true rfl) (Nat.le_of_ble_eq_true rfl) (Nat.le_of_ble_eq_true rfl) ?_
  refine r_putI dX7_init_19 lp_X7_21 rfl (by first | assumption | rfl) ?_
  refine r_aload_n dX7_init_22 rfl rfl ?_
  refine r_iload_n dX7_init_23 rfl rfl ?_
  refine r_putI dX7_init_24 lp_X7_25 rfl (by first | assumption | rfl) ?_
  exact r_vret dX7_init_27 rfl (Nat.le_of_ble_eq_true rfl) (Nat.le_of_ble_eq_true rfl) ⟨rfl, rfl⟩
set_option maxHeartbeats 4000000 in
theorem c_X2_init {l : Launch} {G : va_G} {cy : Nat → ClassId} (o : Nat) (a b c e f g h : Int32) (S : HS) (hk : tk o = 2) : Cn l G cy yX2_init cX2_init 8 none 1 [.ref o, .int a, .int b, .int c, .int e, .int f, .int g, .int h] S 0 0 (qV (fun S2 => S2 = (setI (setI (setI (setI (setI (setI (setI S (fid 2 0) o a) (fid 2 1) o b) (fid 2 2) o c) (fid 2 3) o e) (fid 2 4) o f) (fid 2 5) o g) (fid 2 6) o h))) := by
  refine Cn.of [some (.ref o), some (.int a), some (.int b), some (.int c), some (.int e), some (.int f), some (.int g), some (.int h)] (by decide) rfl (Nat.le_of_ble_eq_true rfl) ?_
  refine r_aload_n dX2_init_0 rfl rfl ?_
  refine r_objInit dX2_init_1 lm_X2_3 (Nat.le_of_ble_eq_true rfl) (Nat.le_of_ble_eq_true rfl) ?_
  refine r_aload_n dX2_init_4 rfl rfl ?_
  refine r_iload_n dX2_init_5 rfl rfl ?_
  refine r_putI dX2_init_6 lp_X2_9 rfl (by first | assumption | rfl) ?_
  refine r_aload_n dX2_init_9 rfl rfl ?_
  refine r_iload_n dX2_init_10 rfl rfl ?_
  refine r_putI dX2_init_11 lp_X2_15 rfl (by first | assumption | rfl) ?_
  refine r_aload_n dX2_init_14 rfl rfl ?_
  refine r_iload_n dX2_init_15 rfl rfl ?_
  refine r_putI dX2_init_16 lp_X2_18 rfl (by first | assumption | rfl) ?_
  refine r_aload_n dX2_init_19 rfl rfl ?_
  refine r_iload dX2_init_20 rfl ?_
  refine r_putI dX2_init_22 lp_X2_21 rfl (by first | assumption | rfl) ?_
  refine r_aload_n dX2_init_25 rfl rfl ?_
  refine r_iload dX2_init_26 rfl ?_
  refine r_putI dX2_init_28 lp_X2_24 rfl (by first | assumption | rfl) ?_
  refine r_aload_n dX2_init_31 rfl rfl ?_
  refine r_iload dX2_init_32 rfl ?_
  refine r_putI dX2_init_34 lp_X2_27 rfl (by first | assumption | rfl) ?_
  refine r_aload_n dX2_init_37 rfl rfl ?_
  refine r_iload dX2_init_38 rfl ?_
  refine r_putI dX2_init_40 lp_X2_30 rfl (by first | assumption | rfl) ?_
  exact r_vret dX2_init_43 rfl (Nat.zero_le _) (Nat.zero_le _) ⟨rfl, rfl⟩
set_option maxHeartbeats 4000000 in
theorem c_X5_init {l : Launch} {G : va_G} {cy : Nat → ClassId} (o : Nat) (S : HS) (hk : tk o = 5) (k1 : tk (o + 1) = 10) (n1 : tn (o + 1) = 200) (f1 : o + 1 ∉ sL S) (r1 : Fr (o + 1) S) : Cn l G cy yX5_init cX5_init 1 none 1 [.ref o] S 1 200 (qV (fun S2 => S2 = setR (newA S (o + 1)) (fid 5 0) o (some (o + 1)))) := by
  refine Cn.of [some (.ref o)] (by decide) rfl (Nat.le_of_ble_eq_true rfl) ?_
  refine r_aload_n dX5_init_0 rfl rfl ?_
  refine r_objInit dX5_init_1 lm_X5_3 (Nat.le_of_ble_eq_true rfl) (Nat.le_of_ble_eq_true rfl) ?_
  refine r_aload_n dX5_init_4 rfl rfl ?_
  refine r_sipush (v := 200) dX5_init_5 (by decide) ?_
  refine r_newI (o + 1) dX5_init_8 tbI (by decide) rfl (by decide) k1 n1 f1 r1 (Nat.le_of_ble_eq_true rfl) (Nat.le_of_ble_eq_true rfl) ?_
  refine r_putR (v := some (o + 1)) dX5_init_10 lp_X5_9 rfl (by first | assumption | rfl) ?_
  exact r_vret dX5_init_13 rfl (Nat.le_of_ble_eq_true rfl) (Nat.le_of_ble_eq_true rfl) ⟨rfl, rfl⟩
set_option maxHeartbeats 4000000 in
theorem c_X1_init {l : Launch} {G : va_G} {cy : Nat → ClassId} (o : Nat) (S : HS) : Cn l G cy yX1_init cX1_init 1 none 1 [.ref o] S 0 0 (qV (fun S2 => S2 = S)) := by
  refine Cn.of [some (.ref o)] (by decide) rfl (Nat.le_of_ble_eq_true rfl) ?_
  refine r_aload_n dX1_init_0 rfl rfl ?_
  refine r_objInit dX1_init_1 lm_X1_3 (Nat.le_of_ble_eq_true rfl) (Nat.le_of_ble_eq_true rfl) ?_
  exact r_vret dX1_init_4 rfl (Nat.zero_le _) (Nat.zero_le _) ⟨rfl, rfl⟩
set_option maxHeartbeats 4000000 in
theorem c_X6_init {l : Launch} {G : va_G} {cy : Nat → ClassId} (o : Nat) (S : HS) : Cn l G cy yX6_init cX6_init 1 none 1 [.ref o] S 0 0 (qV (fun S2 => S2 = S)) := by
  refine Cn.of [some (.ref o)] (by decide) rfl (Nat.le_of_ble_eq_true rfl) ?_
  refine r_aload_n dX6_init_0 rfl rfl ?_
  refine r_objInit dX6_init_1 lm_X6_1 (Nat.le_of_ble_eq_true rfl) (Nat.le_of_ble_eq_true rfl) ?_
  exact r_vret dX6_init_4 rfl (Nat.zero_le _) (Nat.zero_le _) ⟨rfl, rfl⟩
