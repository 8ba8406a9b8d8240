/-! ===== the system: gutting ===== -/
abbrev GS : Type := (Nat → Int32) × Int32 × Int32 × Int32
def gS (S : HS) (ob q : Nat) (s : GS) : HS := setI (setI (setI (setA S ob s.1) (fid 2 7) q s.2.1) (fid 2 9) q s.2.2.1) (fid 2 10) q s.2.2.2
theorem gS_step (S : HS) (ob q : Nat) (s : GS) (r : Nat → Int32) (c w d : Int32) : setI (setI (setI (setA (gS S ob q s) ob r) (fid 2 7) q c) (fid 2 9) q w) (fid 2 10) q d = gS S ob q (r, c, w, d) := by
  refine HS_ext (by simp only [gS, sL_setI, sL_setA]) ?_ (by simp only [gS, sR_setI, sR_setA]) ?_ (by simp only [gS, sQ_setI, sQ_setA])
  · funext f a
    simp only [gS, sI_setI, sI_setA, up2]
    by_cases h1 : f = fid 2 10 ∧ a = q
    · simp only [h1, and_self, if_true]
    · simp only [h1, if_false]
      by_cases h2 : f = fid 2 9 ∧ a = q
      · simp only [h2, and_self, if_true]
      · simp only [h2, if_false]
        by_cases h3 : f = fid 2 7 ∧ a = q
        · simp only [h3, and_self, if_true]
        · simp only [h3, if_false]
  · funext t
    simp only [gS, sA_setI, sA_setA, va_up]
    split <;> rfl
theorem gS_self (S : HS) (ob q : Nat) : S = gS S ob q (sA S ob, sI S (fid 2 7) q, sI S (fid 2 9) q, sI S (fid 2 10) q) := by
  unfold gS
  dsimp only
  rw [setA_self, setI_self, setI_self, setI_self]
def mx2 (x z : Int32) : Int32 := if x < z then z else x
/-- when the next cran of a lot that came at m is begun -/
def gBeg (cw : Nat) (m : Int32) (s : GS) : Int32 := mx2 (s.1 (gmn s.1 cw)) m
def gNext (cw : Nat) (m : Int32) (s : GS) : GS := (upd s.1 (gmn s.1 cw) (gBeg cw m s + 12), s.2.1 + 1, mx2 s.2.2.1 (gBeg cw m s - m), mx2 s.2.2.2 (gBeg cw m s + 12))
def gIt (cw : Nat) (m : Int32) (s : GS) : Nat → GS
  | 0 => s
  | i + 1 => gNext cw m (gIt cw m s i)
def gOkk (cw : Nat) (m soft : Int32) (s : GS) : Prop := (gBeg cw m s - m).toInt ≤ soft.toInt
set_option maxHeartbeats 4000000 in
theorem c_X7_gut {l : Launch} {G : va_G} {cy : Nat → ClassId} (o ob q : Nat) (w : Int32) (S : HS) (hk : tk o = 7) (hr : sR S (fid 7 0) o = some ob) (hl : ob ∈ sL S) (hkb : tk ob = 10) (hnb : tn ob = 6) (hc : 1 ≤ (sI S (fid 7 1) o).toInt ∧ (sI S (fid 7 1) o).toInt ≤ 6) (hq : tk q = 2) (hcr : 0 ≤ (sI S (fid 2 4) q).toInt) : Cn l G cy yX7_gut cX7_gut 6 none 2 [.ref o, .ref q, .int w] S 0 0 (qV (fun S2 => ∃ N, N ≤ nn (sI S (fid 2 4) q) ∧ (∀ i, i < N → gOkk (nn (sI S (fid 7 1) o) - 1) (sI S (fid 2 5) q) w (gIt (nn (sI S (fid 7 1) o) - 1) (sI S (fid 2 5) q) (sA S ob, sI S (fid 2 7) q, sI S (fid 2 9) q, sI S (fid 2 10) q) i)) ∧ (N = nn (sI S (fid 2 4) q) ∨ ¬ gOkk (nn (sI S (fid 7 1) o) - 1) (sI S (fid 2 5) q) w (gIt (nn (sI S (fid 7 1) o) - 1) (sI S (fid 2 5) q) (sA S ob, sI S (fid 2 7) q, sI S (fid 2 9) q, sI S (fid 2 10) q) N)) ∧ S2 = setI (gS S ob q (gIt (nn (sI S (fid 7 1) o) - 1) (sI S (fid 2 5) q) (sA S ob, sI S (fid 2 7) q, sI S (fid 2 9) q, sI S (fid 2 10) q) N)) (fid 2 8) q ((sI S (fid 2 4) q) - (gIt (nn (sI S (fid 7 1) o) - 1) (sI S (fid 2 5) q) (sA S ob, sI S (fid 2 7) q, sI S (fid 2 9) q, sI S (fid 2 10) q) N).2.1))) := by
  refine Cn.of [some (.ref o), some (.ref q), some (.int w), none, none, none] (by decide) rfl (Nat.le_of_ble_eq_true rfl) ?_
  refine R.heap (show S = (gS S ob q (gIt (nn (sI S (fid 7 1) o) - 1) (sI S (fid 2 5) q) (sA S ob, sI S (fid 2 7) q, sI S (fid 2 9) q, sI S (fid 2 10) q) 0)) from gS_self S ob q) ?_
  refine r_iconst (v := 0) dX7_gut_0 (by decide) ?_
  refine r_ist3 dX7_gut_1 (Nat.le_of_ble_eq_true rfl) rfl ?_
  refine R.for (α := Option Value × Option Value) (nn (sI S (fid 2 4) q)) (fun i a => [some (.ref o), some (.ref q), some (.int w), some (.int (nI i)), a.1, a.2]) (fun i a => (gS S ob q (gIt (nn (sI S (fid 7 1) o) - 1) (sI S (fid 2 5) q) (sA S ob, sI S (fid 2 7) q, sI S (fid 2 9) q, sI S (fid 2 10) q) i))) (fun i a => okp a.1 = true ∧ ∀ k, k < i → gOkk (nn (sI S (fid 7 1) o) - 1) (sI S (fid 2 5) q) w (gIt (nn (sI S (fid 7 1) o) - 1) (sI S (fid 2 5) q) (sA S ob, sI S (fid 2 7) q, sI S (fid 2 9) q, sI S (fid 2 10) q) k)) ?_ ?_ 0 (none, none) (Nat.zero_le _) ⟨rfl, fun k hk => absurd hk (Nat.not_lt_zero k)⟩
  · intro a hI
    have hcn := nn_int hcr
    have hcrl : ((sI S (fid 2 4) q)).toInt < 2147483648 := (fb_rng (sI S (fid 2 4) q)).2
    have hii : (nI (nn (sI S (fid 2 4) q))).toInt = ((nn (sI S (fid 2 4) q) : Nat) : Int) := nI_toInt (by omega)
    have hr7 : sI (gS S ob q (gIt (nn (sI S (fid 7 1) o) - 1) (sI S (fid 2 5) q) (sA S ob, sI S (fid 2 7) q, sI S (fid 2 9) q, sI S (fid 2 10) q) (nn (sI S (fid 2 4) q)))) (fid 2 7) q = (gIt (nn (sI S (fid 7 1) o) - 1) (sI S (fid 2 5) q) (sA S ob, sI S (fid 2 7) q, sI S (fid 2 9) q, sI S (fid 2 10) q) (nn (sI S (fid 2 4) q))).2.1 := by simp [gS, sI_setI, up2, fid]
    have hNe : nn (sI S (fid 2 4) q) = nn (sI S (fid 2 4) q) := rfl
    refine r_iload_n dX7_gut_2 rfl rfl ?_
    refine r_aload_n dX7_gut_3 rfl rfl ?_
    refine r_getI dX7_gut_4 lf_X7_31 rfl hq ?_
    refine r_icmp_ge 70 dX7_gut_7 (by decide) (fun q7 => ?_) (fun q7 => ?_)
    · skip
      refine r_aload_n dX7_gut_70 rfl rfl ?_
      refine r_aload_n dX7_gut_71 rfl rfl ?_
      refine r_getI dX7_gut_72 lf_X7_31 rfl hq ?_
      refine r_aload_n dX7_gut_75 rfl rfl ?_
      refine r_getI dX7_gut_76 lf_X7_50 rfl hq ?_
      rw [hr7]
      refine r_isub dX7_gut_79 ?_
      refine r_putI dX7_gut_80 (lp_X7_53 _) rfl hq ?_
      exact r_vret dX7_gut_83 rfl (Nat.zero_le _) (Nat.zero_le _) ⟨rfl, by first | exact ⟨nn (sI S (fid 2 4) q), Nat.le_refl _, hI.2, Or.inl hNe, rfl⟩ | exact ⟨i, Nat.le_of_lt hi, hI.2, Or.inr (fun h8 => q40 ((fa_le _ _).mpr h8)), rfl⟩⟩
    · skip
      replace q7 : ¬ (sI S (fid 2 4) q) ≤ nI (nn (sI S (fid 2 4) q)) := q7
      exact absurd q7 (by (try simp only [b2i_eq0, b2i_ne0, decide_eq_true_eq] at *); (try simp only [cI, sI_setA, sI_setQ, sI_setR, sA_setI, sA_setR, sA_setQ, fa_lt, fa_le, fa_eq, Int32.reduceToInt] at *); omega)
  · intro i a hi hI ih
    have hcn := nn_int hcr
    have hcrl : ((sI S (fid 2 4) q)).toInt < 2147483648 := (fb_rng (sI S (fid 2 4) q)).2
    have hii : (nI i).toInt = i := nI_toInt (by omega)
    have hic : (nI i).toNatClampNeg = i := nI_clamp (by omega)
    have hra : sA (gS S ob q (gIt (nn (sI S (fid 7 1) o) - 1) (sI S (fid 2 5) q) (sA S ob, sI S (fid 2 7) q, sI S (fid 2 9) q, sI S (fid 2 10) q) i)) ob = (gIt (nn (sI S (fid 7 1) o) - 1) (sI S (fid 2 5) q) (sA S ob, sI S (fid 2 7) q, sI S (fid 2 9) q, sI S (fid 2 10) q) i).1 := by simp [gS, sA_setI, sA_setA, va_up]
    have hgl := gmn_le (gIt (nn (sI S (fid 7 1) o) - 1) (sI S (fid 2 5) q) (sA S ob, sI S (fid 2 7) q, sI S (fid 2 9) q, sI S (fid 2 10) q) i).1 (nn (sI S (fid 7 1) o) - 1)
    have hcw := nn_int (x := sI S (fid 7 1) o) (by omega)
    have hgi : (nI (gmn (gIt (nn (sI S (fid 7 1) o) - 1) (sI S (fid 2 5) q) (sA S ob, sI S (fid 2 7) q, sI S (fid 2 9) q, sI S (fid 2 10) q) i).1 (nn (sI S (fid 7 1) o) - 1))).toInt = ((gmn (gIt (nn (sI S (fid 7 1) o) - 1) (sI S (fid 2 5) q) (sA S ob, sI S (fid 2 7) q, sI S (fid 2 9) q, sI S (fid 2 10) q) i).1 (nn (sI S (fid 7 1) o) - 1) : Nat) : Int) := nI_toInt (by omega)
    have hgc : (nI (gmn (gIt (nn (sI S (fid 7 1) o) - 1) (sI S (fid 2 5) q) (sA S ob, sI S (fid 2 7) q, sI S (fid 2 9) q, sI S (fid 2 10) q) i).1 (nn (sI S (fid 7 1) o) - 1))).toNatClampNeg = gmn (gIt (nn (sI S (fid 7 1) o) - 1) (sI S (fid 2 5) q) (sA S ob, sI S (fid 2 7) q, sI S (fid 2 9) q, sI S (fid 2 10) q) i).1 (nn (sI S (fid 7 1) o) - 1) := nI_clamp (by omega)
    have h7 : ∀ r, sI (setA (gS S ob q (gIt (nn (sI S (fid 7 1) o) - 1) (sI S (fid 2 5) q) (sA S ob, sI S (fid 2 7) q, sI S (fid 2 9) q, sI S (fid 2 10) q) i)) ob r) (fid 2 7) q = (gIt (nn (sI S (fid 7 1) o) - 1) (sI S (fid 2 5) q) (sA S ob, sI S (fid 2 7) q, sI S (fid 2 9) q, sI S (fid 2 10) q) i).2.1 := fun r => by simp [gS, sI_setI, sI_setA, up2, fid]
    have h9 : ∀ r, sI (setA (gS S ob q (gIt (nn (sI S (fid 7 1) o) - 1) (sI S (fid 2 5) q) (sA S ob, sI S (fid 2 7) q, sI S (fid 2 9) q, sI S (fid 2 10) q) i)) ob r) (fid 2 9) q = (gIt (nn (sI S (fid 7 1) o) - 1) (sI S (fid 2 5) q) (sA S ob, sI S (fid 2 7) q, sI S (fid 2 9) q, sI S (fid 2 10) q) i).2.2.1 := fun r => by simp [gS, sI_setI, sI_setA, up2, fid]
    have h10 : ∀ r, sI (setA (gS S ob q (gIt (nn (sI S (fid 7 1) o) - 1) (sI S (fid 2 5) q) (sA S ob, sI S (fid 2 7) q, sI S (fid 2 9) q, sI S (fid 2 10) q) i)) ob r) (fid 2 10) q = (gIt (nn (sI S (fid 7 1) o) - 1) (sI S (fid 2 5) q) (sA S ob, sI S (fid 2 7) q, sI S (fid 2 9) q, sI S (fid 2 10) q) i).2.2.2 := fun r => by simp [gS, sI_setI, sI_setA, up2, fid]
    have hr7 : sI (gS S ob q (gIt (nn (sI S (fid 7 1) o) - 1) (sI S (fid 2 5) q) (sA S ob, sI S (fid 2 7) q, sI S (fid 2 9) q, sI S (fid 2 10) q) i)) (fid 2 7) q = (gIt (nn (sI S (fid 7 1) o) - 1) (sI S (fid 2 5) q) (sA S ob, sI S (fid 2 7) q, sI S (fid 2 9) q, sI S (fid 2 10) q) i).2.1 := by simp [gS, sI_setI, up2, fid]
    refine r_iload_n dX7_gut_2 rfl rfl ?_
    refine r_aload_n dX7_gut_3 rfl rfl ?_
    refine r_getI dX7_gut_4 lf_X7_31 rfl hq ?_
    refine r_icmp_ge 70 dX7_gut_7 (by decide) (fun q7 => ?_) (fun q7 => ?_)
    · skip
      replace q7 : (sI S (fid 2 4) q) ≤ nI i := q7
      exact absurd q7 (by (try simp only [b2i_eq0, b2i_ne0, decide_eq_true_eq] at *); (try simp only [cI, sI_setA, sI_setQ, sI_setR, sA_setI, sA_setR, sA_setQ, fa_lt, fa_le, fa_eq, Int32.reduceToInt] at *); omega)
    · skip
      refine r_aload_n dX7_gut_10 rfl rfl ?_
      refine r_invV0i dX7_gut_11 lm_X7_36 hk (c_X7_firstFreeCrew o ob (gS S ob q (gIt (nn (sI S (fid 7 1) o) - 1) (sI S (fid 2 5) q) (sA S ob, sI S (fid 2 7) q, sI S (fid 2 9) q, sI S (fid 2 10) q) i)) hk hr hl hkb hnb hc) (Nat.le_of_ble_eq_true rfl) (Nat.le_of_ble_eq_true rfl) (Nat.zero_le _) (Nat.zero_le _) (fun r11 S11 hq11 => ?_)
      obtain ⟨hr11, hz11⟩ := hq11
      replace hz11 := hz11.symm
      subst hz11
      replace hr11 : r11 = nI (gmn (gIt (nn (sI S (fid 7 1) o) - 1) (sI S (fid 2 5) q) (sA S ob, sI S (fid 2 7) q, sI S (fid 2 9) q, sI S (fid 2 10) q) i).1 (nn (sI S (fid 7 1) o) - 1)) := by rw [hr11, hra]; rfl
      subst hr11
      refine r_ist4 dX7_gut_14 (Nat.le_of_ble_eq_true rfl) rfl ?_
      refine r_aload_n dX7_gut_16 rfl rfl ?_
      refine r_getR dX7_gut_17 lf_X7_9 rfl hk hr hl ?_
      refine r_iload dX7_gut_20 rfl ?_
      refine r_iald dX7_gut_22 hkb (vq_cast hnb (vp_in_iff.mpr (by (try simp only [b2i_eq0, b2i_ne0, decide_eq_true_eq] at *); (try simp only [cI, sI_setA, sI_setQ, sI_setR, sA_setI, sA_setR, sA_setQ, fa_lt, fa_le, fa_eq, Int32.reduceToInt] at *); omega))) ?_
      refine r_aload_n dX7_gut_23 rfl rfl ?_
      refine r_getI dX7_gut_24 lf_X7_40 rfl hq ?_
      refine r_mmax dX7_gut_27 lm_X7_43 (Nat.le_of_ble_eq_true rfl) (Nat.le_of_ble_eq_true rfl) (Nat.zero_le _) (Nat.zero_le _) ?_
      rw [hra, hgc]
      change R l G cy yX7_gut cX7_gut 6 none 2 0 0 _ 30 _ [.int (gBeg (nn (sI S (fid 7 1) o) - 1) (sI S (fid 2 5) q) (gIt (nn (sI S (fid 7 1) o) - 1) (sI S (fid 2 5) q) (sA S ob, sI S (fid 2 7) q, sI S (fid 2 9) q, sI S (fid 2 10) q) i))] _ 0 0
      refine r_ist5 dX7_gut_30 (Nat.le_of_ble_eq_true rfl) rfl ?_
      refine r_iload dX7_gut_32 rfl ?_
      refine r_aload_n dX7_gut_34 rfl rfl ?_
      refine r_getI dX7_gut_35 lf_X7_40 rfl hq ?_
      refine r_isub dX7_gut_38 ?_
      refine r_iload_n dX7_gut_39 rfl rfl ?_
      change R l G cy yX7_gut cX7_gut 6 none 2 0 0 _ 40 _ [.int w, .int (gBeg (nn (sI S (fid 7 1) o) - 1) (sI S (fid 2 5) q) (gIt (nn (sI S (fid 7 1) o) - 1) (sI S (fid 2 5) q) (sA S ob, sI S (fid 2 7) q, sI S (fid 2 9) q, sI S (fid 2 10) q) i) - (sI S (fid 2 5) q))] _ 0 0
      refine r_icmp_le 46 dX7_gut_40 (by decide) (fun q40 => ?_) (fun q40 => ?_)
      · skip
        refine r_aload_n dX7_gut_46 rfl rfl ?_
        refine r_getR dX7_gut_47 lf_X7_9 rfl hk hr hl ?_
        refine r_iload dX7_gut_50 rfl ?_
        refine r_iload dX7_gut_52 rfl ?_
        refine r_bipush (v := 12) dX7_gut_54 (by decide) ?_
        refine r_iadd dX7_gut_56 ?_
        refine r_iast dX7_gut_57 hkb (vq_cast hnb (vp_in_iff.mpr (by (try simp only [b2i_eq0, b2i_ne0, decide_eq_true_eq] at *); (try simp only [cI, sI_setA, sI_setQ, sI_setR, sA_setI, sA_setR, sA_setQ, fa_lt, fa_le, fa_eq, Int32.reduceToInt] at *); omega))) ?_
        refine r_aload_n dX7_gut_58 rfl rfl ?_
        refine r_iload dX7_gut_59 rfl ?_
        rw [hgc, hra]
        refine r_invV1v dX7_gut_61 lm_X7_46 hq (c_X2_cureOne q _ _ hq) (Nat.le_of_ble_eq_true rfl) (Nat.le_of_ble_eq_true rfl) (Nat.zero_le _) (Nat.zero_le _) (fun S61 hq61 => ?_)
        replace hq61 : S61 = (gS S ob q (gIt (nn (sI S (fid 7 1) o) - 1) (sI S (fid 2 5) q) (sA S ob, sI S (fid 2 7) q, sI S (fid 2 9) q, sI S (fid 2 10) q) (i + 1))) := by
          rw [hq61, h7, h9, h10, gS_step]
          rfl
        subst hq61
        refine r_in3 dX7_gut_64 (show _ + Int32.ofInt 1 = _ + 1 from rfl) (Nat.le_of_ble_eq_true rfl) rfl ?_
        refine r_goto 2 dX7_gut_67 (by decide) ?_
        rw [nI_1]
        exact ih (some (.int (nI (gmn (gIt (nn (sI S (fid 7 1) o) - 1) (sI S (fid 2 5) q) (sA S ob, sI S (fid 2 7) q, sI S (fid 2 9) q, sI S (fid 2 10) q) i).1 (nn (sI S (fid 7 1) o) - 1)))), some (.int (gBeg (nn (sI S (fid 7 1) o) - 1) (sI S (fid 2 5) q) (gIt (nn (sI S (fid 7 1) o) - 1) (sI S (fid 2 5) q) (sA S ob, sI S (fid 2 7) q, sI S (fid 2 9) q, sI S (fid 2 10) q) i)))) ⟨rfl, fun k hk2 => by
          rcases Nat.lt_succ_iff_lt_or_eq.mp hk2 with h8 | h8
          · exact hI.2 k h8
          · rw [h8]; exact (fa_le _ _).mp q40⟩
      · skip
        refine r_goto 70 dX7_gut_43 (by decide) ?_
        refine r_aload_n dX7_gut_70 rfl rfl ?_
        refine r_aload_n dX7_gut_71 rfl rfl ?_
        refine r_getI dX7_gut_72 lf_X7_31 rfl hq ?_
        refine r_aload_n dX7_gut_75 rfl rfl ?_
        refine r_getI dX7_gut_76 lf_X7_50 rfl hq ?_
        rw [hr7]
        refine r_isub dX7_gut_79 ?_
        refine r_putI dX7_gut_80 (lp_X7_53 _) rfl hq ?_
        exact r_vret dX7_gut_83 rfl (Nat.zero_le _) (Nat.zero_le _) ⟨rfl, by first | exact ⟨nn (sI S (fid 2 4) q), Nat.le_refl _, hI.2, Or.inl hNe, rfl⟩ | exact ⟨i, Nat.le_of_lt hi, hI.2, Or.inr (fun h8 => q40 ((fa_le _ _).mpr h8)), rfl⟩⟩
