/-! ===== the reference: numbers ===== -/
theorem lkC_dg {S : HS} {a : Nat} : dgB S a = true ↔ 48 ≤ (lkC S a).toInt ∧ (lkC S a).toInt ≤ 57 := by
  rw [dgB_iff]
  unfold lkC
  by_cases q : a < szM S
  · rw [if_pos q]; exact ⟨fun z => z.2, fun z => ⟨q, z⟩⟩
  · rw [if_neg q]
    have : (-1 : Int32).toInt = -1 := rfl
    exact ⟨fun z => absurd z.1 q, fun z => by omega⟩
theorem nuL_end {S : HS} {n a : Nat} {v : Int32} (h : ¬ dgB S a = true) : nuL S n a v = (a, some v) := by
  cases n
  · exact if_neg h
  · exact if_neg h
theorem nuL_step {S : HS} {n a : Nat} {v : Int32} (h : dgB S a = true) : nuL S (n + 1) a v = nuL S n (a + 1) (10 * v + mA S 43 a - 48) := if_pos h
theorem nuL_out {S : HS} {a : Nat} {v : Int32} (h : dgB S a = true) : nuL S 0 a v = (a, none) := if_pos h
theorem tx_fail {S : HS} {t : TX} (h : t.2.1 = -1) : setI (txM S t) (fid 9 49) 2000 (if mI (txM S t) 49 = -1 then mI (txM S t) 48 else mI (txM S t) 49) = txM S (t.1, nI t.1, t.2.2) := by
  rw [if_pos (show mI (txM S t) 49 = -1 from (tx_49).trans h), show mI (txM S t) 48 = nI t.1 from tx_48, tx_s49]
theorem tx_sayS {S : HS} {t : TX} {v : Int32} (h : t.2.2.2.1 < 420) : setI (setA (txM S t) (ma 45) (upd (mA (txM S t) 45) (mI (txM S t) 51).toNatClampNeg v)) (fid 9 51) 2000 (mI (txM S t) 51 + 1) = txM S (t.1, t.2.1, t.2.2.1, t.2.2.2.1 + 1, upd t.2.2.2.2 t.2.2.2.1 v) := by
  rw [show mI (txM S t) 51 = nI t.2.2.2.1 from tx_51, show mA (txM S t) 45 = t.2.2.2.2 from tx_45, nI_clamp (by omega), nI_1, tx_say]
set_option maxHeartbeats 4000000 in
theorem c_X9_number {l : Launch} {G : va_G} {cy : Nat → ClassId} (t : TX) (S : HS) (h : ShM S) (hz : 0 ≤ (mI S 47).toInt ∧ (mI S 47).toInt ≤ 200) (ha : t.1 ≤ 215) (hw : t.2.1 = -1) (hs : t.2.2.2.1 < 420) : Cn l G cy yX9_number cX9_number 4 none 1 [.ref 2000] (txM S t) 0 0 (qV (fun S2 => S2 = txM S (nuM S t))) := by
  refine Cn.of [some (.ref 2000), none, none, none] (by decide) rfl (Nat.le_of_ble_eq_true rfl) ?_
  have hsz : szM S ≤ 200 := by unfold szM nn; omega
  have hszI : nI (szM S) = mI S 47 := nI_nn hz.1
  obtain ⟨k1, k2, k3, k4⟩ := lkP_sp S t.1
  have hpb : (lkP S t.1) ≤ 215 := by omega
  have hsP : ShM (txM S ((lkP S t.1), t.2)) := tx_sh h _
  refine r_aload_n dX9_number_0 rfl rfl ?_
  refine r_invV0i dX9_number_1 lm_X9_227 rfl (c_X9_look t S h hz ha) (Nat.le_of_ble_eq_true rfl) (Nat.le_of_ble_eq_true rfl) (Nat.zero_le _) (Nat.zero_le _) (fun r1 S1 hq1 => ?_)
  obtain ⟨hr1, hz1⟩ := hq1
  subst hz1
  refine r_ist1 dX9_number_4 (Nat.le_of_ble_eq_true rfl) rfl ?_
  refine r_iload_n dX9_number_5 rfl rfl ?_
  refine r_bipush (v := 48) dX9_number_6 (by decide) ?_
  refine r_icmp_lt 17 dX9_number_8 (by decide) (fun q8 => ?_) (fun q8 => ?_)
  · skip
    have hnd : ¬ dgB S (lkP S t.1) = true := by
      rw [lkC_dg, ← hr1]
      rw [fa_lt] at q8
      have : (48 : Int32).toInt = 48 := rfl
      omega
    refine r_aload_n dX9_number_17 rfl rfl ?_
    refine r_invV0v dX9_number_18 lm_X9_236 rfl (c_X9_fail (txM S ((lkP S t.1), t.2)) hsP) (Nat.le_of_ble_eq_true rfl) (Nat.le_of_ble_eq_true rfl) (Nat.zero_le _) (Nat.zero_le _) (fun S18 hq18 => ?_)
    rw [tx_fail (t := ((lkP S t.1), t.2)) hw] at hq18
    replace hq18 : S18 = txM S (nuM S t) := by rw [hq18]; unfold nuM; rw [if_neg hnd]
    subst hq18
    exact r_vret dX9_number_21 rfl (Nat.zero_le _) (Nat.zero_le _) ⟨rfl, rfl⟩
  · skip
    refine r_iload_n dX9_number_11 rfl rfl ?_
    refine r_bipush (v := 57) dX9_number_12 (by decide) ?_
    refine r_icmp_le 22 dX9_number_14 (by decide) (fun q14 => ?_) (fun q14 => ?_)
    · skip
      have hdg : dgB S (lkP S t.1) = true := by
        rw [lkC_dg, ← hr1]
        rw [fa_lt] at q8
        rw [fa_le] at q14
        have : (48 : Int32).toInt = 48 := rfl
        have : (57 : Int32).toInt = 57 := rfl
        omega
      refine r_iconst (v := 0) dX9_number_22 (by decide) ?_
      refine r_ist2 dX9_number_23 (Nat.le_of_ble_eq_true rfl) rfl ?_
      refine r_iconst (v := 0) dX9_number_24 (by decide) ?_
      refine r_ist3 dX9_number_25 (Nat.le_of_ble_eq_true rfl) rfl ?_
      refine R.for (α := Int32) (5) (fun i a => [some (.ref 2000), some (.int r1), some (.int a), some (.int (nI i))]) (fun i a => (txM S ((lkP S t.1) + i, t.2))) (fun i a => nuL S 5 (lkP S t.1) 0 = nuL S (5 - i) ((lkP S t.1) + i) a) ?_ ?_ 0 0 (Nat.zero_le _) rfl
      · intro a hI
        generalize hat : (lkP S t.1) + 5 = x at hI ⊢
        have hsh : ShM (txM S (x, t.2)) := tx_sh h _
        have e48 : sI (txM S (x, t.2)) (fid 9 48) 2000 = nI (x) := tx_48
        have e47 : sI (txM S (x, t.2)) (fid 9 47) 2000 = mI S 47 := tx_I (by decide)
        have e43 : sA (txM S (x, t.2)) (ma 43) = mA S 43 := tx_A (by decide)
        have hii : (nI (x)).toInt = ((x : Nat) : Int) := nI_toInt (by omega)
        have hic : (nI (x)).toNatClampNeg = x := nI_clamp (by omega)
        refine r_aload_n dX9_number_26 rfl rfl ?_
        refine r_getI dX9_number_27 lf_X9_218 rfl rfl ?_
        rw [e48]
        refine r_aload_n dX9_number_30 rfl rfl ?_
        refine r_getI dX9_number_31 lf_X9_215 rfl rfl ?_
        rw [e47]
        refine r_icmp_ge 109 dX9_number_34 (by decide) (fun q34 => ?_) (fun q34 => ?_)
        · skip
          have hnd2 : ¬ dgB S x = true := fun z => by have z1 := (dgB_iff.mp z).1; rw [← hszI, fa_le, hii, nI_toInt (by omega)] at q34; omega
          refine r_aload_n dX9_number_109 rfl rfl ?_
          refine r_iload_n dX9_number_110 rfl rfl ?_
          refine r_invV1v dX9_number_111 lm_X9_239 rfl (c_X9_say a (txM S (x, t.2)) hsh (by rw [show mI (txM S (x, t.2)) 51 = nI t.2.2.2.1 from tx_51, nI_toInt (by omega)]; omega)) (Nat.le_of_ble_eq_true rfl) (Nat.le_of_ble_eq_true rfl) (Nat.zero_le _) (Nat.zero_le _) (fun S111 hq111 => ?_)
          rw [tx_sayS (t := (x, t.2)) hs] at hq111
          replace hq111 : S111 = txM S (nuM S t) := by
            rw [hq111]
            unfold nuM
            rw [if_pos hdg, hI, nuL_end hnd2]
            rfl
          subst hq111
          exact r_vret dX9_number_114 rfl (Nat.zero_le _) (Nat.zero_le _) ⟨rfl, rfl⟩
        · skip
          refine r_aload_n dX9_number_37 rfl rfl ?_
          refine r_getR dX9_number_38 lf_X9_111 rfl rfl (shM_R hsh (j := 43) rfl) (shM_L hsh (j := 43) rfl) ?_
          refine r_aload_n dX9_number_41 rfl rfl ?_
          refine r_getI dX9_number_42 lf_X9_218 rfl rfl ?_
          rw [e48]
          refine r_iald dX9_number_45 rfl (vp_in_iff.mpr (show 0 ≤ (nI x).toInt ∧ (nI x).toInt < 220 from by have q9 := q34; rw [← hszI, fa_le, hii, nI_toInt (by omega)] at q9; omega)) ?_
          rw [e43, hic]
          refine r_bipush (v := 48) dX9_number_46 (by decide) ?_
          refine r_icmp_lt 109 dX9_number_48 (by decide) (fun q48 => ?_) (fun q48 => ?_)
          · skip
            have hnd2 : ¬ dgB S x = true := fun z => by have z1 := (dgB_iff.mp z).2.1; rw [fa_lt] at q48; have : (48 : Int32).toInt = 48 := rfl; omega
            refine r_aload_n dX9_number_109 rfl rfl ?_
            refine r_iload_n dX9_number_110 rfl rfl ?_
            refine r_invV1v dX9_number_111 lm_X9_239 rfl (c_X9_say a (txM S (x, t.2)) hsh (by rw [show mI (txM S (x, t.2)) 51 = nI t.2.2.2.1 from tx_51, nI_toInt (by omega)]; omega)) (Nat.le_of_ble_eq_true rfl) (Nat.le_of_ble_eq_true rfl) (Nat.zero_le _) (Nat.zero_le _) (fun S111 hq111 => ?_)
            rw [tx_sayS (t := (x, t.2)) hs] at hq111
            replace hq111 : S111 = txM S (nuM S t) := by
              rw [hq111]
              unfold nuM
              rw [if_pos hdg, hI, nuL_end hnd2]
              rfl
            subst hq111
            exact r_vret dX9_number_114 rfl (Nat.zero_le _) (Nat.zero_le _) ⟨rfl, rfl⟩
          · skip
            refine r_aload_n dX9_number_51 rfl rfl ?_
            refine r_getR dX9_number_52 lf_X9_111 rfl rfl (shM_R hsh (j := 43) rfl) (shM_L hsh (j := 43) rfl) ?_
            refine r_aload_n dX9_number_55 rfl rfl ?_
            refine r_getI dX9_number_56 lf_X9_218 rfl rfl ?_
            rw [e48]
            refine r_iald dX9_number_59 rfl (vp_in_iff.mpr (show 0 ≤ (nI x).toInt ∧ (nI x).toInt < 220 from by have q9 := q34; rw [← hszI, fa_le, hii, nI_toInt (by omega)] at q9; omega)) ?_
            rw [e43, hic]
            refine r_bipush (v := 57) dX9_number_60 (by decide) ?_
            refine r_icmp_gt 109 dX9_number_62 (by decide) (fun q62 => ?_) (fun q62 => ?_)
            · skip
              have hnd2 : ¬ dgB S x = true := fun z => by have z1 := (dgB_iff.mp z).2.2; rw [fa_lt] at q62; have : (57 : Int32).toInt = 57 := rfl; omega
              refine r_aload_n dX9_number_109 rfl rfl ?_
              refine r_iload_n dX9_number_110 rfl rfl ?_
              refine r_invV1v dX9_number_111 lm_X9_239 rfl (c_X9_say a (txM S (x, t.2)) hsh (by rw [show mI (txM S (x, t.2)) 51 = nI t.2.2.2.1 from tx_51, nI_toInt (by omega)]; omega)) (Nat.le_of_ble_eq_true rfl) (Nat.le_of_ble_eq_true rfl) (Nat.zero_le _) (Nat.zero_le _) (fun S111 hq111 => ?_)
              rw [tx_sayS (t := (x, t.2)) hs] at hq111
              replace hq111 : S111 = txM S (nuM S t) := by
                rw [hq111]
                unfold nuM
                rw [if_pos hdg, hI, nuL_end hnd2]
                rfl
              subst hq111
              exact r_vret dX9_number_114 rfl (Nat.zero_le _) (Nat.zero_le _) ⟨rfl, rfl⟩
            · skip
              have hd : dgB S x = true := dgB_iff.mpr ⟨by rw [← hszI, fa_le, hii, nI_toInt (by omega)] at q34; omega, by rw [fa_lt] at q48; have : (48 : Int32).toInt = 48 := rfl; omega, by rw [fa_lt] at q62; have : (57 : Int32).toInt = 57 := rfl; omega⟩
              refine r_iload_n dX9_number_65 rfl rfl ?_
              refine r_iconst (v := 5) dX9_number_66 (by decide) ?_
              refine r_icmp_ne 75 dX9_number_67 (by decide) (fun q67 => ?_) (fun q67 => ?_)
              · skip
                exact absurd rfl q67
              · skip
                refine r_aload_n dX9_number_70 rfl rfl ?_
                refine r_invV0v dX9_number_71 lm_X9_236 rfl (c_X9_fail (txM S (x, t.2)) hsh) (Nat.le_of_ble_eq_true rfl) (Nat.le_of_ble_eq_true rfl) (Nat.zero_le _) (Nat.zero_le _) (fun S71 hq71 => ?_)
                rw [tx_fail (t := (x, t.2)) hw] at hq71
                replace hq71 : S71 = txM S (nuM S t) := by
                  rw [hq71]
                  unfold nuM
                  rw [if_pos hdg, hI, show 5 - 5 = 0 from rfl, nuL_out hd]
                  rfl
                subst hq71
                exact r_vret dX9_number_74 rfl (Nat.zero_le _) (Nat.zero_le _) ⟨rfl, rfl⟩
      · intro i a hi hI ih
        have hat2 : (lkP S t.1) + (i + 1) = ((lkP S t.1) + i) + 1 := by omega
        rw [hat2] at ih
        generalize hat : (lkP S t.1) + i = x at hI ih ⊢
        have hsh : ShM (txM S (x, t.2)) := tx_sh h _
        have e48 : sI (txM S (x, t.2)) (fid 9 48) 2000 = nI (x) := tx_48
        have e47 : sI (txM S (x, t.2)) (fid 9 47) 2000 = mI S 47 := tx_I (by decide)
        have e43 : sA (txM S (x, t.2)) (ma 43) = mA S 43 := tx_A (by decide)
        have hii : (nI (x)).toInt = ((x : Nat) : Int) := nI_toInt (by omega)
        have hic : (nI (x)).toNatClampNeg = x := nI_clamp (by omega)
        have hi5 : (nI i).toInt = i := nI_toInt (by omega)
        refine r_aload_n dX9_number_26 rfl rfl ?_
        refine r_getI dX9_number_27 lf_X9_218 rfl rfl ?_
        rw [e48]
        refine r_aload_n dX9_number_30 rfl rfl ?_
        refine r_getI dX9_number_31 lf_X9_215 rfl rfl ?_
        rw [e47]
        refine r_icmp_ge 109 dX9_number_34 (by decide) (fun q34 => ?_) (fun q34 => ?_)
        · skip
          have hnd2 : ¬ dgB S x = true := fun z => by have z1 := (dgB_iff.mp z).1; rw [← hszI, fa_le, hii, nI_toInt (by omega)] at q34; omega
          refine r_aload_n dX9_number_109 rfl rfl ?_
          refine r_iload_n dX9_number_110 rfl rfl ?_
          refine r_invV1v dX9_number_111 lm_X9_239 rfl (c_X9_say a (txM S (x, t.2)) hsh (by rw [show mI (txM S (x, t.2)) 51 = nI t.2.2.2.1 from tx_51, nI_toInt (by omega)]; omega)) (Nat.le_of_ble_eq_true rfl) (Nat.le_of_ble_eq_true rfl) (Nat.zero_le _) (Nat.zero_le _) (fun S111 hq111 => ?_)
          rw [tx_sayS (t := (x, t.2)) hs] at hq111
          replace hq111 : S111 = txM S (nuM S t) := by
            rw [hq111]
            unfold nuM
            rw [if_pos hdg, hI, nuL_end hnd2]
            rfl
          subst hq111
          exact r_vret dX9_number_114 rfl (Nat.zero_le _) (Nat.zero_le _) ⟨rfl, rfl⟩
        · skip
          refine r_aload_n dX9_number_37 rfl rfl ?_
          refine r_getR dX9_number_38 lf_X9_111 rfl rfl (shM_R hsh (j := 43) rfl) (shM_L hsh (j := 43) rfl) ?_
          refine r_aload_n dX9_number_41 rfl rfl ?_
          refine r_getI dX9_number_42 lf_X9_218 rfl rfl ?_
          rw [e48]
          refine r_iald dX9_number_45 rfl (vp_in_iff.mpr (show 0 ≤ (nI x).toInt ∧ (nI x).toInt < 220 from by have q9 := q34; rw [← hszI, fa_le, hii, nI_toInt (by omega)] at q9; omega)) ?_
          rw [e43, hic]
          refine r_bipush (v := 48) dX9_number_46 (by decide) ?_
          refine r_icmp_lt 109 dX9_number_48 (by decide) (fun q48 => ?_) (fun q48 => ?_)
          · skip
            have hnd2 : ¬ dgB S x = true := fun z => by have z1 := (dgB_iff.mp z).2.1; rw [fa_lt] at q48; have : (48 : Int32).toInt = 48 := rfl; omega
            refine r_aload_n dX9_number_109 rfl rfl ?_
            refine r_iload_n dX9_number_110 rfl rfl ?_
            refine r_invV1v dX9_number_111 lm_X9_239 rfl (c_X9_say a (txM S (x, t.2)) hsh (by rw [show mI (txM S (x, t.2)) 51 = nI t.2.2.2.1 from tx_51, nI_toInt (by omega)]; omega)) (Nat.le_of_ble_eq_true rfl) (Nat.le_of_ble_eq_true rfl) (Nat.zero_le _) (Nat.zero_le _) (fun S111 hq111 => ?_)
            rw [tx_sayS (t := (x, t.2)) hs] at hq111
            replace hq111 : S111 = txM S (nuM S t) := by
              rw [hq111]
              unfold nuM
              rw [if_pos hdg, hI, nuL_end hnd2]
              rfl
            subst hq111
            exact r_vret dX9_number_114 rfl (Nat.zero_le _) (Nat.zero_le _) ⟨rfl, rfl⟩
          · skip
            refine r_aload_n dX9_number_51 rfl rfl ?_
            refine r_getR dX9_number_52 lf_X9_111 rfl rfl (shM_R hsh (j := 43) rfl) (shM_L hsh (j := 43) rfl) ?_
            refine r_aload_n dX9_number_55 rfl rfl ?_
            refine r_getI dX9_number_56 lf_X9_218 rfl rfl ?_
            rw [e48]
            refine r_iald dX9_number_59 rfl (vp_in_iff.mpr (show 0 ≤ (nI x).toInt ∧ (nI x).toInt < 220 from by have q9 := q34; rw [← hszI, fa_le, hii, nI_toInt (by omega)] at q9; omega)) ?_
            rw [e43, hic]
            refine r_bipush (v := 57) dX9_number_60 (by decide) ?_
            refine r_icmp_gt 109 dX9_number_62 (by decide) (fun q62 => ?_) (fun q62 => ?_)
            · skip
              have hnd2 : ¬ dgB S x = true := fun z => by have z1 := (dgB_iff.mp z).2.2; rw [fa_lt] at q62; have : (57 : Int32).toInt = 57 := rfl; omega
              refine r_aload_n dX9_number_109 rfl rfl ?_
              refine r_iload_n dX9_number_110 rfl rfl ?_
              refine r_invV1v dX9_number_111 lm_X9_239 rfl (c_X9_say a (txM S (x, t.2)) hsh (by rw [show mI (txM S (x, t.2)) 51 = nI t.2.2.2.1 from tx_51, nI_toInt (by omega)]; omega)) (Nat.le_of_ble_eq_true rfl) (Nat.le_of_ble_eq_true rfl) (Nat.zero_le _) (Nat.zero_le _) (fun S111 hq111 => ?_)
              rw [tx_sayS (t := (x, t.2)) hs] at hq111
              replace hq111 : S111 = txM S (nuM S t) := by
                rw [hq111]
                unfold nuM
                rw [if_pos hdg, hI, nuL_end hnd2]
                rfl
              subst hq111
              exact r_vret dX9_number_114 rfl (Nat.zero_le _) (Nat.zero_le _) ⟨rfl, rfl⟩
            · skip
              have hd : dgB S x = true := dgB_iff.mpr ⟨by rw [← hszI, fa_le, hii, nI_toInt (by omega)] at q34; omega, by rw [fa_lt] at q48; have : (48 : Int32).toInt = 48 := rfl; omega, by rw [fa_lt] at q62; have : (57 : Int32).toInt = 57 := rfl; omega⟩
              refine r_iload_n dX9_number_65 rfl rfl ?_
              refine r_iconst (v := 5) dX9_number_66 (by decide) ?_
              refine r_icmp_ne 75 dX9_number_67 (by decide) (fun q67 => ?_) (fun q67 => ?_)
              · skip
                refine r_bipush (v := 10) dX9_number_75 (by decide) ?_
                refine r_iload_n dX9_number_77 rfl rfl ?_
                refine r_imul dX9_number_78 ?_
                refine r_aload_n dX9_number_79 rfl rfl ?_
                refine r_getR dX9_number_80 lf_X9_111 rfl rfl (shM_R hsh (j := 43) rfl) (shM_L hsh (j := 43) rfl) ?_
                refine r_aload_n dX9_number_83 rfl rfl ?_
                refine r_getI dX9_number_84 lf_X9_218 rfl rfl ?_
                rw [e48]
                refine r_iald dX9_number_87 rfl (vp_in_iff.mpr (show 0 ≤ (nI x).toInt ∧ (nI x).toInt < 220 from by have q9 := q34; rw [← hszI, fa_le, hii, nI_toInt (by omega)] at q9; omega)) ?_
                rw [e43, hic]
                refine r_iadd dX9_number_88 ?_
                refine r_bipush (v := 48) dX9_number_89 (by decide) ?_
                refine r_isub dX9_number_91 ?_
                refine r_ist2 dX9_number_92 (Nat.le_of_ble_eq_true rfl) rfl ?_
                refine r_in3 dX9_number_93 (show _ + Int32.ofInt 1 = _ + 1 from rfl) (Nat.le_of_ble_eq_true rfl) rfl ?_
                refine r_aload_n dX9_number_96 rfl rfl ?_
                refine r_dup dX9_number_97 rfl ?_
                refine r_getI dX9_number_98 lf_X9_218 rfl rfl ?_
                rw [e48]
                refine r_iconst (v := 1) dX9_number_101 (by decide) ?_
                refine r_iadd dX9_number_102 ?_
                refine r_putI dX9_number_103 (lp_X9_218 _) rfl rfl ?_
                refine r_goto 26 dX9_number_106 (by decide) ?_
                rw [nI_1 i, nI_1 x, tx_s48]
                exact ih (10 * a + mA S 43 x - 48) (by rw [hI, show 5 - i = (5 - (i + 1)) + 1 by omega, nuL_step hd])
              · skip
                exact absurd q67 (by rw [fa_eq, hi5]; have : (5 : Int32).toInt = 5 := rfl; omega)
    · skip
      have hnd : ¬ dgB S (lkP S t.1) = true := by
        rw [lkC_dg, ← hr1]
        rw [fa_le] at q14
        have : (57 : Int32).toInt = 57 := rfl
        omega
      refine r_aload_n dX9_number_17 rfl rfl ?_
      refine r_invV0v dX9_number_18 lm_X9_236 rfl (c_X9_fail (txM S ((lkP S t.1), t.2)) hsP) (Nat.le_of_ble_eq_true rfl) (Nat.le_of_ble_eq_true rfl) (Nat.zero_le _) (Nat.zero_le _) (fun S18 hq18 => ?_)
      rw [tx_fail (t := ((lkP S t.1), t.2)) hw] at hq18
      replace hq18 : S18 = txM S (nuM S t) := by rw [hq18]; unfold nuM; rw [if_neg hnd]
      subst hq18
      exact r_vret dX9_number_21 rfl (Nat.zero_le _) (Nat.zero_le _) ⟨rfl, rfl⟩
