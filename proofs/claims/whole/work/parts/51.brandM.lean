/-! ===== the reference: fault, brand ===== -/
def tx0 (S : HS) : TX := (0, -1, 0, 0, mA S 45)
theorem tx_start (S : HS) : setI (setI (setI (setI S (fid 9 48) 2000 0) (fid 9 49) 2000 (-1)) (fid 9 50) 2000 0) (fid 9 51) 2000 0 = txM S (tx0 S) := by
  unfold txM tx0
  dsimp only
  rw [show nI 0 = 0 from rfl]
  exact (setA_self (setI (setI (setI (setI S (fid 9 48) 2000 0) (fid 9 49) 2000 (-1)) (fid 9 50) 2000 0) (fid 9 51) 2000 0) (ma 45)).symm
theorem tx0_bd (S : HS) : Bd S (tx0 S) := ⟨fun _ => Nat.zero_le _, (show 0 + 0 ≤ 208 by decide), (show 0 ≤ 2 * 0 by decide), (show 0 ≤ 8 by decide)⟩
/-- the end of the text is looked for -/
def fnM (S : HS) (u : TX) : TX := if u.2.1 = -1 then (if lkC S (lkP S u.1) = -1 then (lkP S u.1, u.2) else (lkP S u.1, nI (lkP S u.1), u.2.2)) else u
/-- a brand taken -/
def brM (S : HS) (b : Nat) (w : TX) : HS := setI (setA (setA (txM S (syM w 3)) (ma 44) (fb_put (mA S 44) (syM w 3).2.2.2.2 (420 * b) (w.2.2.2.1 + 1))) (ma 46) (upd (mA S 46) b 1)) (fid 9 47) 2000 0
theorem fnM_bd {S : HS} {u : TX} (hs : szM S ≤ 200) (h : Bd S u) : Bd S (fnM S u) ∧ (fnM S u).2.2 = u.2.2 := by
  obtain ⟨h1, h2, h3, h4⟩ := id h
  unfold fnM
  by_cases q : u.2.1 = -1
  · obtain ⟨k1, k2⟩ := lkP_le (h1 q)
    rw [if_pos q]
    by_cases q2 : lkC S (lkP S u.1) = -1
    · rw [if_pos q2]
      exact ⟨⟨fun _ => k2, by show lkP S u.1 + u.2.2.1 ≤ 208; omega, by show u.2.2.2.1 ≤ 2 * lkP S u.1; omega, h4⟩, rfl⟩
    · rw [if_neg q2]
      exact ⟨⟨fun _ => k2, by show lkP S u.1 + u.2.2.1 ≤ 208; omega, by show u.2.2.2.1 ≤ 2 * lkP S u.1; omega, h4⟩, rfl⟩
  · rw [if_neg q]
    exact ⟨h, rfl⟩
set_option maxHeartbeats 4000000 in
theorem c_X9_fault {l : Launch} {G : va_G} {cy : Nat → ClassId} (S : HS) (h : ShM S) (hz : 0 ≤ (mI S 47).toInt ∧ (mI S 47).toInt ≤ 200) : Cn l G cy yX9_fault cX9_fault 1 (some .int) 29 [.ref 2000] S 0 0 (qI (fun r S2 => ∃ u n, prM S n 2 (tx0 S) = some u ∧ r = (fnM S u).2.1 ∧ S2 = txM S (fnM S u))) := by
  refine Cn.of [some (.ref 2000)] (by decide) rfl (Nat.le_of_ble_eq_true rfl) ?_
  have hsz : szM S ≤ 200 := by unfold szM nn; omega
  refine r_aload_n dX9_fault_0 rfl rfl ?_
  refine r_iconst (v := 0) dX9_fault_1 (by decide) ?_
  refine r_putI dX9_fault_2 (lp_X9_218 _) rfl rfl ?_
  refine r_aload_n dX9_fault_5 rfl rfl ?_
  refine r_iconst (v := (-1)) dX9_fault_6 (by decide) ?_
  refine r_putI dX9_fault_7 (lp_X9_221 _) rfl rfl ?_
  refine r_aload_n dX9_fault_10 rfl rfl ?_
  refine r_iconst (v := 0) dX9_fault_11 (by decide) ?_
  refine r_putI dX9_fault_12 (lp_X9_230 _) rfl rfl ?_
  refine r_aload_n dX9_fault_15 rfl rfl ?_
  refine r_iconst (v := 0) dX9_fault_16 (by decide) ?_
  refine r_putI dX9_fault_17 (lp_X9_224 _) rfl rfl ?_
  refine R.heap (tx_start S) ?_
  refine r_aload_n dX9_fault_20 rfl rfl ?_
  refine r_invV0v dX9_fault_21 lm_X9_233 rfl (wholeM_all S h hz 8 0 rfl (tx0 S) (tx0_bd S) rfl rfl) (Nat.le_of_ble_eq_true rfl) (Nat.le_of_ble_eq_true rfl) (Nat.zero_le _) (Nat.zero_le _) (fun S21 hq21 => ?_)
  obtain ⟨u, n, hu, hz21⟩ := hq21
  subst hz21
  obtain ⟨c1, c2, c3, c4⟩ := prM_bd hsz (tx0_bd S) (fun _ => rfl) hu
  obtain ⟨e1, e2, e3, e4⟩ := id c1
  have hub := Bd_at c1
  refine r_aload_n dX9_fault_24 rfl rfl ?_
  refine r_getI dX9_fault_25 lf_X9_221 rfl rfl ?_
  rw [show sI (txM S u) (fid 9 49) 2000 = u.2.1 from tx_49]
  refine r_iconst (v := (-1)) dX9_fault_28 (by decide) ?_
  refine r_icmp_ne 44 dX9_fault_29 (by decide) (fun q29 => ?_) (fun q29 => ?_)
  · skip
    have hfn : fnM S u = u := if_neg q29
    refine R.heap (S2 := txM S (fnM S u)) (by rw [hfn]) ?_
    refine r_aload_n dX9_fault_44 rfl rfl ?_
    refine r_getI dX9_fault_45 lf_X9_221 rfl rfl ?_
    rw [show sI (txM S (fnM S u)) (fid 9 49) 2000 = (fnM S u).2.1 from tx_49]
    exact r_iret dX9_fault_48 rfl (Nat.zero_le _) (Nat.zero_le _) ⟨_, rfl, ⟨u, n, hu, rfl, rfl⟩⟩
  · skip
    refine r_aload_n dX9_fault_32 rfl rfl ?_
    refine r_invV0i dX9_fault_33 lm_X9_227 rfl (c_X9_look u S h hz (by omega)) (Nat.le_of_ble_eq_true rfl) (Nat.le_of_ble_eq_true rfl) (Nat.zero_le _) (Nat.zero_le _) (fun r33 S33 hq33 => ?_)
    obtain ⟨hr33, hz33⟩ := hq33
    subst hz33
    subst hr33
    have hsh : ShM (txM S ((lkP S u.1), u.2)) := tx_sh h _
    refine r_iconst (v := (-1)) dX9_fault_36 (by decide) ?_
    refine r_icmp_eq 44 dX9_fault_37 (by decide) (fun q37 => ?_) (fun q37 => ?_)
    · skip
      have hfn : fnM S u = ((lkP S u.1), u.2) := by unfold fnM; rw [if_pos q29, if_pos q37]
      refine R.heap (S2 := txM S (fnM S u)) (by rw [hfn]) ?_
      refine r_aload_n dX9_fault_44 rfl rfl ?_
      refine r_getI dX9_fault_45 lf_X9_221 rfl rfl ?_
      rw [show sI (txM S (fnM S u)) (fid 9 49) 2000 = (fnM S u).2.1 from tx_49]
      exact r_iret dX9_fault_48 rfl (Nat.zero_le _) (Nat.zero_le _) ⟨_, rfl, ⟨u, n, hu, rfl, rfl⟩⟩
    · skip
      refine r_aload_n dX9_fault_40 rfl rfl ?_
      refine r_invV0v dX9_fault_41 lm_X9_236 rfl (c_X9_fail (txM S ((lkP S u.1), u.2)) hsh) (Nat.le_of_ble_eq_true rfl) (Nat.le_of_ble_eq_true rfl) (Nat.zero_le _) (Nat.zero_le _) (fun S41 hq41 => ?_)
      rw [tx_fail (t := ((lkP S u.1), u.2)) q29] at hq41
      subst hq41
      have hfn : fnM S u = ((lkP S u.1), nI (lkP S u.1), u.2.2) := by unfold fnM; rw [if_pos q29, if_neg q37]
      refine R.heap (S2 := txM S (fnM S u)) (by rw [hfn]) ?_
      refine r_aload_n dX9_fault_44 rfl rfl ?_
      refine r_getI dX9_fault_45 lf_X9_221 rfl rfl ?_
      rw [show sI (txM S (fnM S u)) (fid 9 49) 2000 = (fnM S u).2.1 from tx_49]
      exact r_iret dX9_fault_48 rfl (Nat.zero_le _) (Nat.zero_le _) ⟨_, rfl, ⟨u, n, hu, rfl, rfl⟩⟩
set_option maxHeartbeats 4000000 in
theorem c_X9_brand {l : Launch} {G : va_G} {cy : Nat → ClassId} (b : Nat) (S : HS) (h : ShM S) (hz : 0 ≤ (mI S 47).toInt ∧ (mI S 47).toInt ≤ 200) (hb : b < 4) : Cn l G cy yX9_brand cX9_brand 3 (some .boolean) 30 [.ref 2000, .int (nI b)] S 0 0 (qI (fun r S2 => ∃ u n, prM S n 2 (tx0 S) = some u ∧ (¬ (fnM S u).2.1 = -1 → r = 0 ∧ S2 = txM S (fnM S u)) ∧ ((fnM S u).2.1 = -1 → r = 1 ∧ S2 = brM S b (fnM S u)))) := by
  refine Cn.of [some (.ref 2000), some (.int (nI b)), none] (by decide) rfl (Nat.le_of_ble_eq_true rfl) ?_
  have hsz : szM S ≤ 200 := by unfold szM nn; omega
  have hbi : (nI b).toInt = b := nI_toInt (by omega)
  have hbc : (nI b).toNatClampNeg = b := nI_clamp (by omega)
  refine r_iload_n dX9_brand_0 rfl rfl ?_
  refine r_iconst (v := 0) dX9_brand_1 (by decide) ?_
  refine r_iconst (v := 3) dX9_brand_2 (by decide) ?_
  refine r_invS3i dX9_brand_3 lm_X9_129 (c_X9_in _ _ _ _) (Nat.le_of_ble_eq_true rfl) (Nat.le_of_ble_eq_true rfl) (Nat.zero_le _) (Nat.zero_le _) (fun r3 S3 hq3 => ?_)
  obtain ⟨rfl, hz3⟩ := hq3
  replace hz3 := hz3.symm
  subst hz3
  refine r_if_eq 17 dX9_brand_6 (by decide) (fun q6 => ?_) (fun q6 => ?_)
  · skip
    exact absurd (show (0 : Int32) ≤ nI b ∧ nI b ≤ 3 from ⟨by rw [fa_le, hbi]; have : (0 : Int32).toInt = 0 := rfl; omega, by rw [fa_le, hbi]; have : (3 : Int32).toInt = 3 := rfl; omega⟩) (b2i_eq0.mp q6)
  · skip
    refine r_aload_n dX9_brand_9 rfl rfl ?_
    refine r_invV0i dX9_brand_10 lm_X9_252 rfl (c_X9_fault S h hz) (Nat.le_of_ble_eq_true rfl) (Nat.le_of_ble_eq_true rfl) (Nat.zero_le _) (Nat.zero_le _) (fun r10 S10 hq10 => ?_)
    obtain ⟨u, n, hu, hr10, hz10⟩ := hq10
    subst hz10
    subst hr10
    obtain ⟨c1, c2, c3, c4⟩ := prM_bd hsz (tx0_bd S) (fun _ => rfl) hu
    have hwb := (fnM_bd hsz c1).1
    obtain ⟨w, hwE⟩ : ∃ w, fnM S u = w := ⟨_, rfl⟩
    rw [hwE] at hwb
    rw [hwE]
    have hw4 := Bd_at hwb
    refine r_iconst (v := (-1)) dX9_brand_13 (by decide) ?_
    refine r_icmp_eq 19 dX9_brand_14 (by decide) (fun q14 => ?_) (fun q14 => ?_)
    · skip
      refine r_aload_n dX9_brand_19 rfl rfl ?_
      refine r_iconst (v := 3) dX9_brand_20 (by decide) ?_
      refine r_invV1v dX9_brand_21 lm_X9_239 rfl (c_X9_say 3 (txM S w) (tx_sh h _) (by rw [show mI (txM S w) 51 = nI w.2.2.2.1 from tx_51, nI_toInt (by omega)]; omega)) (Nat.le_of_ble_eq_true rfl) (Nat.le_of_ble_eq_true rfl) (Nat.zero_le _) (Nat.zero_le _) (fun S21 hq21 => ?_)
      rw [tx_sayS (t := w) (by omega)] at hq21
      replace hq21 : S21 = txM S (syM w 3) := hq21
      subst hq21
      refine R.heap (S2 := (setA (txM S (syM w 3)) (ma 44) (fb_put (mA S 44) (syM w 3).2.2.2.2 (420 * b) 0))) (by rw [fb_put_0, show mA S 44 = sA (txM S (syM w 3)) (ma 44) from (tx_A (by decide)).symm, setA_self]) ?_
      refine r_iconst (v := 0) dX9_brand_24 (by decide) ?_
      refine r_ist2 dX9_brand_25 (Nat.le_of_ble_eq_true rfl) rfl ?_
      refine R.for (α := Unit) ((w.2.2.2.1 + 1)) (fun i a => [some (.ref 2000), some (.int (nI b)), some (.int (nI i))]) (fun i a => (setA (txM S (syM w 3)) (ma 44) (fb_put (mA S 44) (syM w 3).2.2.2.2 (420 * b) i))) (fun i a => True) ?_ ?_ 0 () (Nat.zero_le _) trivial
      · intro a hI
        have hsh : ShM (setA (txM S (syM w 3)) (ma 44) (fb_put (mA S 44) (syM w 3).2.2.2.2 (420 * b) (w.2.2.2.1 + 1))) := (tx_sh h _).setA _ _
        have e51 : sI (setA (txM S (syM w 3)) (ma 44) (fb_put (mA S 44) (syM w 3).2.2.2.2 (420 * b) (w.2.2.2.1 + 1))) (fid 9 51) 2000 = nI (w.2.2.2.1 + 1) := by rw [sI_setA]; exact tx_51
        have e45 : sA (setA (txM S (syM w 3)) (ma 44) (fb_put (mA S 44) (syM w 3).2.2.2.2 (420 * b) (w.2.2.2.1 + 1))) (ma 45) = (syM w 3).2.2.2.2 := by rw [sA_setn (by decide)]; exact tx_45
        refine r_iload_n dX9_brand_26 rfl rfl ?_
        refine r_aload_n dX9_brand_27 rfl rfl ?_
        refine r_getI dX9_brand_28 lf_X9_224 rfl rfl ?_
        skip
        refine r_icmp_ge 58 dX9_brand_31 (by decide) (fun q31 => ?_) (fun q31 => ?_)
        · skip
          refine r_aload_n dX9_brand_58 rfl rfl ?_
          refine r_getR dX9_brand_59 lf_X9_120 rfl rfl (shM_R hsh (j := 46) rfl) (shM_L hsh (j := 46) rfl) ?_
          refine r_iload_n dX9_brand_62 rfl rfl ?_
          refine r_iconst (v := 1) dX9_brand_63 (by decide) ?_
          refine r_zast dX9_brand_64 rfl (show vp_in (nI b) 4 from vp_in_nI (by omega) (by omega)) ?_
          rw [hbc, show vp_nar .boolean (1 : Int32) = 1 from rfl, show sA (setA (txM S (syM w 3)) (ma 44) (fb_put (mA S 44) (syM w 3).2.2.2.2 (420 * b) (w.2.2.2.1 + 1))) (ma 46) = mA S 46 from (sA_setn (by decide)).trans (tx_A (by decide))]
          refine r_aload_n dX9_brand_65 rfl rfl ?_
          refine r_iconst (v := 0) dX9_brand_66 (by decide) ?_
          refine r_putI dX9_brand_67 (lp_X9_215 _) rfl rfl ?_
          refine r_iconst (v := 1) dX9_brand_70 (by decide) ?_
          exact r_zret dX9_brand_71 rfl rfl (Nat.zero_le _) (Nat.zero_le _) ⟨_, rfl, ⟨u, n, hu, fun z => absurd (by rw [hwE]; exact q14) z, fun _ => ⟨rfl, by rw [hwE]; rfl⟩⟩⟩
        · skip
          exact absurd (by rw [e51]; exact Int32.le_refl _) q31
      · intro i a hi hI ih
        have hsh : ShM (setA (txM S (syM w 3)) (ma 44) (fb_put (mA S 44) (syM w 3).2.2.2.2 (420 * b) i)) := (tx_sh h _).setA _ _
        have e51 : sI (setA (txM S (syM w 3)) (ma 44) (fb_put (mA S 44) (syM w 3).2.2.2.2 (420 * b) i)) (fid 9 51) 2000 = nI (w.2.2.2.1 + 1) := by rw [sI_setA]; exact tx_51
        have e45 : sA (setA (txM S (syM w 3)) (ma 44) (fb_put (mA S 44) (syM w 3).2.2.2.2 (420 * b) i)) (ma 45) = (syM w 3).2.2.2.2 := by rw [sA_setn (by decide)]; exact tx_45
        have hii : (nI i).toInt = i := nI_toInt (by omega)
        have hic : (nI i).toNatClampNeg = i := nI_clamp (by omega)
        have hxc : (nI (420 * b + i)).toNatClampNeg = 420 * b + i := nI_clamp (by omega)
        refine r_iload_n dX9_brand_26 rfl rfl ?_
        refine r_aload_n dX9_brand_27 rfl rfl ?_
        refine r_getI dX9_brand_28 lf_X9_224 rfl rfl ?_
        skip
        refine r_icmp_ge 58 dX9_brand_31 (by decide) (fun q31 => ?_) (fun q31 => ?_)
        · skip
          exact absurd q31 (by rw [e51, fa_le, hii, nI_toInt (by omega)]; omega)
        · skip
          refine r_aload_n dX9_brand_34 rfl rfl ?_
          refine r_getR dX9_brand_35 lf_X9_114 rfl rfl (shM_R hsh (j := 44) rfl) (shM_L hsh (j := 44) rfl) ?_
          refine r_sipush (v := 420) dX9_brand_38 (by decide) ?_
          refine r_iload_n dX9_brand_41 rfl rfl ?_
          refine r_imul dX9_brand_42 ?_
          rw [nI_420 b hb]
          refine r_iload_n dX9_brand_43 rfl rfl ?_
          refine r_iadd dX9_brand_44 ?_
          rw [nI_add]
          refine r_aload_n dX9_brand_45 rfl rfl ?_
          refine r_getR dX9_brand_46 lf_X9_117 rfl rfl (shM_R hsh (j := 45) rfl) (shM_L hsh (j := 45) rfl) ?_
          refine r_iload_n dX9_brand_49 rfl rfl ?_
          refine r_iald dX9_brand_50 rfl (show vp_in (nI i) 420 from vp_in_nI (by omega) (by omega)) ?_
          rw [e45, hic]
          refine r_iast dX9_brand_51 rfl (show vp_in (nI (420 * b + i)) 1680 from vp_in_nI (by omega) (by omega)) ?_
          refine r_in2 dX9_brand_52 (show _ + Int32.ofInt 1 = _ + 1 from rfl) (Nat.le_of_ble_eq_true rfl) rfl ?_
          refine r_goto 26 dX9_brand_55 (by decide) ?_
          rw [nI_1 i, hxc, sA_set, setA_setA, fb_put_succ]
          exact ih () trivial
    · skip
      refine r_iconst (v := 0) dX9_brand_17 (by decide) ?_
      exact r_zret dX9_brand_18 rfl rfl (Nat.zero_le _) (Nat.zero_le _) ⟨_, rfl, ⟨u, n, hu, fun _ => ⟨rfl, by rw [hwE]⟩, fun z => absurd (by rw [← hwE]; exact z) q14⟩⟩
set_option maxHeartbeats 4000000 in
theorem c_X9_brandN {l : Launch} {G : va_G} {cy : Nat → ClassId} (a : Int32) (S : HS) (h : ShM S) (hz : 0 ≤ (mI S 47).toInt ∧ (mI S 47).toInt ≤ 200) (hn : ¬ (0 ≤ a.toInt ∧ a.toInt ≤ 3)) : Cn l G cy yX9_brand cX9_brand 3 (some .boolean) 30 [.ref 2000, .int a] S 0 0 (qI (fun r S2 => r = 0 ∧ S2 = S)) := by
  refine Cn.of [some (.ref 2000), some (.int a), none] (by decide) rfl (Nat.le_of_ble_eq_true rfl) ?_
  refine r_iload_n dX9_brand_0 rfl rfl ?_
  refine r_iconst (v := 0) dX9_brand_1 (by decide) ?_
  refine r_iconst (v := 3) dX9_brand_2 (by decide) ?_
  refine r_invS3i dX9_brand_3 lm_X9_129 (c_X9_in _ _ _ _) (Nat.le_of_ble_eq_true rfl) (Nat.le_of_ble_eq_true rfl) (Nat.zero_le _) (Nat.zero_le _) (fun r3 S3 hq3 => ?_)
  obtain ⟨rfl, hz3⟩ := hq3
  replace hz3 := hz3.symm
  subst hz3
  refine r_if_eq 17 dX9_brand_6 (by decide) (fun q6 => ?_) (fun q6 => ?_)
  · skip
    refine r_iconst (v := 0) dX9_brand_17 (by decide) ?_
    exact r_zret dX9_brand_18 rfl rfl (Nat.zero_le _) (Nat.zero_le _) ⟨_, rfl, ⟨rfl, rfl⟩⟩
  · skip
    exact absurd (by have q := b2i_ne0.mp q6; simp only [fa_le, Int32.reduceToInt] at q; exact q) hn
