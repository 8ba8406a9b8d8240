/-! ===== the system: the best bidder; a night's beginning ===== -/
/-- best yard so far and its bid, among the first n -/
def bbF (rl bd : Nat → Int32) : Nat → Int32 × Int32
  | 0 => (-1, -1)
  | i + 1 => if 0 < (rl i).toInt ∧ (bbF rl bd i).2.toInt < (bd i).toInt then (nI i, bd i) else bbF rl bd i
set_option maxHeartbeats 4000000 in
theorem c_X8_bestBidder {l : Launch} {G : va_G} {cy : Nat → ClassId} (S : HS) (h : ShC S) : Cn l G cy yX8_bestBidder cX8_bestBidder 5 (some .int) 2 [.ref 0] S 0 0 (qI (fun r S2 => r = (bbF (fun j => sI S (fid 7 4) (200 + 2 * j)) (fun j => sI S (fid 7 3) (200 + 2 * j)) (nn (cI S 10))).1 ∧ S2 = S)) := by
  refine Cn.of [some (.ref 0), none, none, none, none] (by decide) rfl (Nat.le_of_ble_eq_true rfl) ?_
  refine r_iconst (v := (-1)) dX8_bestBidder_0 (by decide) ?_
  refine r_ist1 dX8_bestBidder_1 (Nat.le_of_ble_eq_true rfl) rfl ?_
  refine r_iconst (v := (-1)) dX8_bestBidder_2 (by decide) ?_
  refine r_ist2 dX8_bestBidder_3 (Nat.le_of_ble_eq_true rfl) rfl ?_
  refine r_iconst (v := 0) dX8_bestBidder_4 (by decide) ?_
  refine r_ist3 dX8_bestBidder_5 (Nat.le_of_ble_eq_true rfl) rfl ?_
  refine R.for (α := Option Value) (nn (cI S 10)) (fun i a => [some (.ref 0), some (.int (bbF (fun j => sI S (fid 7 4) (200 + 2 * j)) (fun j => sI S (fid 7 3) (200 + 2 * j)) i).1), some (.int (bbF (fun j => sI S (fid 7 4) (200 + 2 * j)) (fun j => sI S (fid 7 3) (200 + 2 * j)) i).2), some (.int (nI i)), a]) (fun i a => S) (fun i a => True) ?_ ?_ 0 none (Nat.zero_le _) trivial
  · intro a hI
    have hbb := h.y
    have hnb := nn_int hbb.1
    have hii : (nI (nn (cI S 10))).toInt = ((nn (cI S 10) : Nat) : Int) := nI_toInt (by omega)
    refine r_iload_n dX8_bestBidder_6 rfl rfl ?_
    refine r_aload_n dX8_bestBidder_7 rfl rfl ?_
    refine r_getI dX8_bestBidder_8 lf_X8_105 rfl rfl ?_
    refine r_icmp_ge 57 dX8_bestBidder_11 (by decide) (fun q11 => ?_) (fun q11 => ?_)
    · skip
      refine r_iload_n dX8_bestBidder_57 rfl rfl ?_
      exact r_iret dX8_bestBidder_58 rfl (Nat.zero_le _) (Nat.zero_le _) ⟨_, rfl, ⟨rfl, rfl⟩⟩
    · skip
      exact absurd q11 (by (try simp only [b2i_eq0, b2i_ne0, decide_eq_true_eq] at *); (try simp only [cI, sI_setA, sI_setQ, sI_setR, sA_setI, sA_setR, sA_setQ, fa_lt, fa_le, fa_eq, Int32.reduceToInt] at *); omega)
  · intro i a hi hI ih
    have hbb := h.y
    have hnb := nn_int hbb.1
    have hii : (nI i).toInt = i := nI_toInt (by omega)
    have hic : (nI i).toNatClampNeg = i := nI_clamp (by omega)
    have hlt : i < 4 := by omega
    have hkb := tkY hlt
    have hni : nn (nI i) = i := by unfold nn; omega
    refine r_iload_n dX8_bestBidder_6 rfl rfl ?_
    refine r_aload_n dX8_bestBidder_7 rfl rfl ?_
    refine r_getI dX8_bestBidder_8 lf_X8_105 rfl rfl ?_
    refine r_icmp_ge 57 dX8_bestBidder_11 (by decide) (fun q11 => ?_) (fun q11 => ?_)
    · skip
      exact absurd q11 (by (try simp only [b2i_eq0, b2i_ne0, decide_eq_true_eq] at *); (try simp only [cI, sI_setA, sI_setQ, sI_setR, sA_setI, sA_setR, sA_setQ, fa_lt, fa_le, fa_eq, Int32.reduceToInt] at *); omega)
    · skip
      refine r_aload_n dX8_bestBidder_14 rfl rfl ?_
      refine r_iload_n dX8_bestBidder_15 rfl rfl ?_
      refine r_invV1r dX8_bestBidder_16 lm_X8_111 rfl (c_X8_yardAt _ _ h) (Nat.le_of_ble_eq_true rfl) (Nat.le_of_ble_eq_true rfl) (Nat.zero_le _) (Nat.zero_le _) (fun r16 S16 hq16 => ?_)
      obtain ⟨rfl, hz16⟩ := hq16
      replace hz16 := hz16.symm
      subst hz16
      rw [if_pos (α := Option Nat) (by omega), hni]
      refine r_ast4 dX8_bestBidder_19 (Nat.le_of_ble_eq_true rfl) rfl ?_
      refine r_aload dX8_bestBidder_21 rfl ?_
      refine r_ifnull dX8_bestBidder_23 ?_
      refine r_aload dX8_bestBidder_26 rfl ?_
      refine r_getI dX8_bestBidder_28 lf_X8_289 rfl (by first | assumption | rfl) ?_
      refine r_if_le 51 dX8_bestBidder_31 (by decide) (fun q31 => ?_) (fun q31 => ?_)
      · skip
        refine r_in3 dX8_bestBidder_51 (show _ + Int32.ofInt 1 = _ + 1 from rfl) (Nat.le_of_ble_eq_true rfl) rfl ?_
        refine r_goto 6 dX8_bestBidder_54 (by decide) ?_
        rw [nI_1]
        first
          | (have h9 := ih (some (.ref (200 + 2 * i))) trivial; rw [show (bbF (fun j => sI S (fid 7 4) (200 + 2 * j)) (fun j => sI S (fid 7 3) (200 + 2 * j)) (i + 1)) = (nI i, sI S (fid 7 3) (200 + 2 * i)) from if_pos (by (try simp only [b2i_eq0, b2i_ne0, decide_eq_true_eq] at *); (try simp only [cI, sI_setA, sI_setQ, sI_setR, sA_setI, sA_setR, sA_setQ, fa_lt, fa_le, fa_eq, Int32.reduceToInt] at *); omega)] at h9; exact h9)
          | (have h9 := ih (some (.ref (200 + 2 * i))) trivial; rw [show (bbF (fun j => sI S (fid 7 4) (200 + 2 * j)) (fun j => sI S (fid 7 3) (200 + 2 * j)) (i + 1)) = (bbF (fun j => sI S (fid 7 4) (200 + 2 * j)) (fun j => sI S (fid 7 3) (200 + 2 * j)) i) from if_neg (by (try simp only [b2i_eq0, b2i_ne0, decide_eq_true_eq] at *); (try simp only [cI, sI_setA, sI_setQ, sI_setR, sA_setI, sA_setR, sA_setQ, fa_lt, fa_le, fa_eq, Int32.reduceToInt] at *); omega)] at h9; exact h9)
      · skip
        refine r_aload dX8_bestBidder_34 rfl ?_
        refine r_getI dX8_bestBidder_36 lf_X8_115 rfl (by first | assumption | rfl) ?_
        refine r_iload_n dX8_bestBidder_39 rfl rfl ?_
        refine r_icmp_le 51 dX8_bestBidder_40 (by decide) (fun q40 => ?_) (fun q40 => ?_)
        · skip
          refine r_in3 dX8_bestBidder_51 (show _ + Int32.ofInt 1 = _ + 1 from rfl) (Nat.le_of_ble_eq_true rfl) rfl ?_
          refine r_goto 6 dX8_bestBidder_54 (by decide) ?_
          rw [nI_1]
          first
            | (have h9 := ih (some (.ref (200 + 2 * i))) trivial; rw [show (bbF (fun j => sI S (fid 7 4) (200 + 2 * j)) (fun j => sI S (fid 7 3) (200 + 2 * j)) (i + 1)) = (nI i, sI S (fid 7 3) (200 + 2 * i)) from if_pos (by (try simp only [b2i_eq0, b2i_ne0, decide_eq_true_eq] at *); (try simp only [cI, sI_setA, sI_setQ, sI_setR, sA_setI, sA_setR, sA_setQ, fa_lt, fa_le, fa_eq, Int32.reduceToInt] at *); omega)] at h9; exact h9)
            | (have h9 := ih (some (.ref (200 + 2 * i))) trivial; rw [show (bbF (fun j => sI S (fid 7 4) (200 + 2 * j)) (fun j => sI S (fid 7 3) (200 + 2 * j)) (i + 1)) = (bbF (fun j => sI S (fid 7 4) (200 + 2 * j)) (fun j => sI S (fid 7 3) (200 + 2 * j)) i) from if_neg (by (try simp only [b2i_eq0, b2i_ne0, decide_eq_true_eq] at *); (try simp only [cI, sI_setA, sI_setQ, sI_setR, sA_setI, sA_setR, sA_setQ, fa_lt, fa_le, fa_eq, Int32.reduceToInt] at *); omega)] at h9; exact h9)
        · skip
          refine r_iload_n dX8_bestBidder_43 rfl rfl ?_
          refine r_ist1 dX8_bestBidder_44 (Nat.le_of_ble_eq_true rfl) rfl ?_
          refine r_aload dX8_bestBidder_45 rfl ?_
          refine r_getI dX8_bestBidder_47 lf_X8_115 rfl (by first | assumption | rfl) ?_
          refine r_ist2 dX8_bestBidder_50 (Nat.le_of_ble_eq_true rfl) rfl ?_
          refine r_in3 dX8_bestBidder_51 (show _ + Int32.ofInt 1 = _ + 1 from rfl) (Nat.le_of_ble_eq_true rfl) rfl ?_
          refine r_goto 6 dX8_bestBidder_54 (by decide) ?_
          rw [nI_1]
          first
            | (have h9 := ih (some (.ref (200 + 2 * i))) trivial; rw [show (bbF (fun j => sI S (fid 7 4) (200 + 2 * j)) (fun j => sI S (fid 7 3) (200 + 2 * j)) (i + 1)) = (nI i, sI S (fid 7 3) (200 + 2 * i)) from if_pos (by (try simp only [b2i_eq0, b2i_ne0, decide_eq_true_eq] at *); (try simp only [cI, sI_setA, sI_setQ, sI_setR, sA_setI, sA_setR, sA_setQ, fa_lt, fa_le, fa_eq, Int32.reduceToInt] at *); omega)] at h9; exact h9)
            | (have h9 := ih (some (.ref (200 + 2 * i))) trivial; rw [show (bbF (fun j => sI S (fid 7 4) (200 + 2 * j)) (fun j => sI S (fid 7 3) (200 + 2 * j)) (i + 1)) = (bbF (fun j => sI S (fid 7 4) (200 + 2 * j)) (fun j => sI S (fid 7 3) (200 + 2 * j)) i) from if_neg (by (try simp only [b2i_eq0, b2i_ne0, decide_eq_true_eq] at *); (try simp only [cI, sI_setA, sI_setQ, sI_setR, sA_setI, sA_setR, sA_setQ, fa_lt, fa_le, fa_eq, Int32.reduceToInt] at *); omega)] at h9; exact h9)
