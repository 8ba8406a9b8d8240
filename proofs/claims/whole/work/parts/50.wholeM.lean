/-! ===== the reference: part, whole ===== -/
theorem prM_1c {S : HS} {n m : Nat} {t v u : TX} (h : prM S n 0 t = some v) (h2 : prM S m 3 v = some u) : prM S (n + m + 1) 1 t = some u := prM_1.mpr ⟨v, prM_le h (by omega), prM_le h2 (by omega)⟩
theorem prM_2c {S : HS} {n m : Nat} {t v u : TX} (h : prM S n 1 t = some v) (h2 : prM S m 4 v = some u) : prM S (n + m + 1) 2 t = some u := prM_2.mpr ⟨v, prM_le h (by omega), prM_le h2 (by omega)⟩
theorem prM_3c {S : HS} {n m : Nat} {t v u : TX} (q : t.2.1 = -1) (q2 : lkC S (lkP S t.1) = 38) (h : prM S n 0 (lkP S t.1 + 1, t.2) = some v) (h2 : prM S m 3 (syM v 1) = some u) : prM S (n + m + 1) 3 t = some u := (prM_3b q q2).mpr ⟨v, prM_le h (by omega), prM_le h2 (by omega)⟩
theorem prM_4c {S : HS} {n m : Nat} {t v u : TX} (q : t.2.1 = -1) (q2 : lkC S (lkP S t.1) = 124) (h : prM S n 1 (lkP S t.1 + 1, t.2) = some v) (h2 : prM S m 4 (syM v 2) = some u) : prM S (n + m + 1) 4 t = some u := (prM_4b q q2).mpr ⟨v, prM_le h (by omega), prM_le h2 (by omega)⟩
set_option maxHeartbeats 4000000 in
theorem c_X9_part {l : Launch} {G : va_G} {cy : Nat → ClassId} (D : Nat) (hD : D ≤ 8) (t : TX) (S : HS) (h : ShM S) (hz : 0 ≤ (mI S 47).toInt ∧ (mI S 47).toInt ≤ 200) (hBd : Bd S t) (hw : t.2.1 = -1) (hdp : t.2.2.1 = D) (hU : ∀ t1 : TX, Bd S t1 → t1.2.1 = -1 → t1.2.2.1 = D → Cn l G cy yX9_unit cX9_unit 4 none (3 * (8 - D) + 2) [.ref 2000] (txM S t1) 0 0 (qV (fun S2 => ∃ u n, prM S n 0 t1 = some u ∧ S2 = txM S u))) : Cn l G cy yX9_part cX9_part 1 none (3 * (8 - D) + 3) [.ref 2000] (txM S t) 0 0 (qV (fun S2 => ∃ u n, prM S n 1 t = some u ∧ S2 = txM S u)) := by
  refine Cn.of [some (.ref 2000)] (by decide) rfl (Nat.le_of_ble_eq_true rfl) ?_
  have hsz : szM S ≤ 200 := by unfold szM nn; omega
  refine r_aload_n dX9_part_0 rfl rfl ?_
  refine r_invV0v dX9_part_1 lm_X9_246 rfl (hU t hBd hw hdp) (by first | exact Nat.le_of_ble_eq_true rfl | omega) (by first | exact Nat.le_of_ble_eq_true rfl | omega) (Nat.zero_le _) (Nat.zero_le _) (fun S1 hq1 => ?_)
  obtain ⟨v0, n0, hv0, hz1⟩ := hq1
  subst hz1
  obtain ⟨c1, c2, c3, c4⟩ := prM_bd hsz hBd (fun _ => hw) hv0
  refine R.for (α := TX) (209) (fun i a => [some (.ref 2000)]) (fun i a => (txM S a)) (fun i a => Bd S a ∧ a.2.2.1 = D ∧ i ≤ a.1 ∧ ∀ u n, prM S n 3 a = some u → ∃ m, prM S m 1 t = some u) ?_ ?_ 0 v0 (Nat.zero_le _) ⟨c1, by omega, Nat.zero_le _, fun u n hu => ⟨n0 + n + 1, prM_1c hv0 hu⟩⟩
  · intro a hI
    have hsh : ShM (txM S a) := tx_sh h _
    obtain ⟨i1, i2, i3, i4⟩ := hI
    obtain ⟨e1, e2, e3, e4⟩ := id i1
    refine r_aload_n dX9_part_4 rfl rfl ?_
    refine r_getI dX9_part_5 lf_X9_221 rfl rfl ?_
    rw [show sI (txM S a) (fid 9 49) 2000 = a.2.1 from tx_49]
    refine r_iconst (v := (-1)) dX9_part_8 (by decide) ?_
    refine r_icmp_ne 43 dX9_part_9 (by decide) (fun q9 => ?_) (fun q9 => ?_)
    · skip
      exact absurd i3 (by have := Bd_at i1; omega)
    · skip
      exact absurd i3 (by have := Bd_at i1; omega)
  · intro i a hi hI ih
    have hsh : ShM (txM S a) := tx_sh h _
    obtain ⟨i1, i2, i3, i4⟩ := hI
    obtain ⟨e1, e2, e3, e4⟩ := id i1
    refine r_aload_n dX9_part_4 rfl rfl ?_
    refine r_getI dX9_part_5 lf_X9_221 rfl rfl ?_
    rw [show sI (txM S a) (fid 9 49) 2000 = a.2.1 from tx_49]
    refine r_iconst (v := (-1)) dX9_part_8 (by decide) ?_
    refine r_icmp_ne 43 dX9_part_9 (by decide) (fun q9 => ?_) (fun q9 => ?_)
    · skip
      have hx := i4 a 1 (prM_3w q9)
      exact r_vret dX9_part_43 rfl (Nat.zero_le _) (Nat.zero_le _) ⟨rfl, by
          obtain ⟨m, hm⟩ := hx
          exact ⟨_, m, hm, rfl⟩⟩
    · skip
      obtain ⟨k1, k2⟩ := lkP_le (e1 q9)
      refine r_aload_n dX9_part_12 rfl rfl ?_
      refine r_invV0i dX9_part_13 lm_X9_227 rfl (c_X9_look a S h hz (by have := Bd_at i1; omega)) (by first | exact Nat.le_of_ble_eq_true rfl | omega) (by first | exact Nat.le_of_ble_eq_true rfl | omega) (Nat.zero_le _) (Nat.zero_le _) (fun r13 S13 hq13 => ?_)
      obtain ⟨hr13, hz13⟩ := hq13
      subst hz13
      subst hr13
      have hsh : ShM (txM S ((lkP S a.1), a.2)) := tx_sh h _
      refine r_bipush (v := 38) dX9_part_16 (by decide) ?_
      refine r_icmp_ne 43 dX9_part_18 (by decide) (fun q18 => ?_) (fun q18 => ?_)
      · skip
        have hx := i4 ((lkP S a.1), a.2) 1 (prM_3n q9 q18)
        exact r_vret dX9_part_43 rfl (Nat.zero_le _) (Nat.zero_le _) ⟨rfl, by
            obtain ⟨m, hm⟩ := hx
            exact ⟨_, m, hm, rfl⟩⟩
      · skip
        have hp : (lkP S a.1) < szM S := lkC_in (fun w => by rw [w] at q18; exact absurd q18 (by decide))
        have hB1 : Bd S ((lkP S a.1) + 1, a.2) := ⟨fun _ => by show (lkP S a.1) + 1 ≤ szM S; omega, by show (lkP S a.1) + 1 + a.2.2.1 ≤ 208; omega, by show a.2.2.2.1 ≤ 2 * ((lkP S a.1) + 1); omega, e4⟩
        refine r_aload_n dX9_part_21 rfl rfl ?_
        refine r_dup dX9_part_22 rfl ?_
        refine r_getI dX9_part_23 lf_X9_218 rfl rfl ?_
        rw [show sI (txM S ((lkP S a.1), a.2)) (fid 9 48) 2000 = nI (lkP S a.1) from tx_48]
        refine r_iconst (v := 1) dX9_part_26 (by decide) ?_
        refine r_iadd dX9_part_27 ?_
        refine r_putI dX9_part_28 (lp_X9_218 _) rfl rfl ?_
        rw [nI_1, tx_s48]
        refine R.heap (S2 := txM S ((lkP S a.1) + 1, a.2)) rfl ?_
        refine r_aload_n dX9_part_31 rfl rfl ?_
        refine r_invV0v dX9_part_32 lm_X9_246 rfl (hU ((lkP S a.1) + 1, a.2) hB1 q9 i2) (by first | exact Nat.le_of_ble_eq_true rfl | omega) (by first | exact Nat.le_of_ble_eq_true rfl | omega) (Nat.zero_le _) (Nat.zero_le _) (fun S32 hq32 => ?_)
        obtain ⟨v, n32, hv, hz32⟩ := hq32
        subst hz32
        obtain ⟨d1, d2, d3, d4⟩ := prM_bd hsz hB1 (fun _ => q9) hv
        dsimp only at d2 d3 d4
        have hvb := Bd_at d1
        refine r_aload_n dX9_part_35 rfl rfl ?_
        refine r_iconst (v := 1) dX9_part_36 (by decide) ?_
        refine r_invV1v dX9_part_37 lm_X9_239 rfl (c_X9_say 1 (txM S v) (tx_sh h _) (by rw [show mI (txM S v) 51 = nI v.2.2.2.1 from tx_51, nI_toInt (by omega)]; omega)) (by first | exact Nat.le_of_ble_eq_true rfl | omega) (by first | exact Nat.le_of_ble_eq_true rfl | omega) (Nat.zero_le _) (Nat.zero_le _) (fun S37 hq37 => ?_)
        rw [tx_sayS (t := v) (by omega)] at hq37
        replace hq37 : S37 = txM S (syM v 1) := hq37
        subst hq37
        refine r_goto 4 dX9_part_40 (by decide) ?_
        exact ih (syM v 1) ⟨⟨d1.1, d1.2.1, by show v.2.2.2.1 + 1 ≤ 2 * v.1; omega, d1.2.2.2⟩, by show v.2.2.1 = D; omega, by show i + 1 ≤ v.1; omega, fun u n hu => i4 u (n32 + n + 1) (prM_3c q9 q18 hv hu)⟩
set_option maxHeartbeats 4000000 in
theorem c_X9_whole {l : Launch} {G : va_G} {cy : Nat → ClassId} (D : Nat) (hD : D ≤ 8) (t : TX) (S : HS) (h : ShM S) (hz : 0 ≤ (mI S 47).toInt ∧ (mI S 47).toInt ≤ 200) (hBd : Bd S t) (hw : t.2.1 = -1) (hdp : t.2.2.1 = D) (hP : ∀ t1 : TX, Bd S t1 → t1.2.1 = -1 → t1.2.2.1 = D → Cn l G cy yX9_part cX9_part 1 none (3 * (8 - D) + 3) [.ref 2000] (txM S t1) 0 0 (qV (fun S2 => ∃ u n, prM S n 1 t1 = some u ∧ S2 = txM S u))) : Cn l G cy yX9_whole cX9_whole 1 none (3 * (8 - D) + 4) [.ref 2000] (txM S t) 0 0 (qV (fun S2 => ∃ u n, prM S n 2 t = some u ∧ S2 = txM S u)) := by
  refine Cn.of [some (.ref 2000)] (by decide) rfl (Nat.le_of_ble_eq_true rfl) ?_
  have hsz : szM S ≤ 200 := by unfold szM nn; omega
  refine r_aload_n dX9_whole_0 rfl rfl ?_
  refine r_invV0v dX9_whole_1 lm_X9_249 rfl (hP t hBd hw hdp) (by first | exact Nat.le_of_ble_eq_true rfl | omega) (by first | exact Nat.le_of_ble_eq_true rfl | omega) (Nat.zero_le _) (Nat.zero_le _) (fun S1 hq1 => ?_)
  obtain ⟨v0, n0, hv0, hz1⟩ := hq1
  subst hz1
  obtain ⟨c1, c2, c3, c4⟩ := prM_bd hsz hBd (fun _ => hw) hv0
  refine R.for (α := TX) (209) (fun i a => [some (.ref 2000)]) (fun i a => (txM S a)) (fun i a => Bd S a ∧ a.2.2.1 = D ∧ i ≤ a.1 ∧ ∀ u n, prM S n 4 a = some u → ∃ m, prM S m 2 t = some u) ?_ ?_ 0 v0 (Nat.zero_le _) ⟨c1, by omega, Nat.zero_le _, fun u n hu => ⟨n0 + n + 1, prM_2c hv0 hu⟩⟩
  · intro a hI
    have hsh : ShM (txM S a) := tx_sh h _
    obtain ⟨i1, i2, i3, i4⟩ := hI
    obtain ⟨e1, e2, e3, e4⟩ := id i1
    refine r_aload_n dX9_whole_4 rfl rfl ?_
    refine r_getI dX9_whole_5 lf_X9_221 rfl rfl ?_
    rw [show sI (txM S a) (fid 9 49) 2000 = a.2.1 from tx_49]
    refine r_iconst (v := (-1)) dX9_whole_8 (by decide) ?_
    refine r_icmp_ne 43 dX9_whole_9 (by decide) (fun q9 => ?_) (fun q9 => ?_)
    · skip
      exact absurd i3 (by have := Bd_at i1; omega)
    · skip
      exact absurd i3 (by have := Bd_at i1; omega)
  · intro i a hi hI ih
    have hsh : ShM (txM S a) := tx_sh h _
    obtain ⟨i1, i2, i3, i4⟩ := hI
    obtain ⟨e1, e2, e3, e4⟩ := id i1
    refine r_aload_n dX9_whole_4 rfl rfl ?_
    refine r_getI dX9_whole_5 lf_X9_221 rfl rfl ?_
    rw [show sI (txM S a) (fid 9 49) 2000 = a.2.1 from tx_49]
    refine r_iconst (v := (-1)) dX9_whole_8 (by decide) ?_
    refine r_icmp_ne 43 dX9_whole_9 (by decide) (fun q9 => ?_) (fun q9 => ?_)
    · skip
      have hx := i4 a 1 (prM_4w q9)
      exact r_vret dX9_whole_43 rfl (Nat.zero_le _) (Nat.zero_le _) ⟨rfl, by
          obtain ⟨m, hm⟩ := hx
          exact ⟨_, m, hm, rfl⟩⟩
    · skip
      obtain ⟨k1, k2⟩ := lkP_le (e1 q9)
      refine r_aload_n dX9_whole_12 rfl rfl ?_
      refine r_invV0i dX9_whole_13 lm_X9_227 rfl (c_X9_look a S h hz (by have := Bd_at i1; omega)) (by first | exact Nat.le_of_ble_eq_true rfl | omega) (by first | exact Nat.le_of_ble_eq_true rfl | omega) (Nat.zero_le _) (Nat.zero_le _) (fun r13 S13 hq13 => ?_)
      obtain ⟨hr13, hz13⟩ := hq13
      subst hz13
      subst hr13
      have hsh : ShM (txM S ((lkP S a.1), a.2)) := tx_sh h _
      refine r_bipush (v := 124) dX9_whole_16 (by decide) ?_
      refine r_icmp_ne 43 dX9_whole_18 (by decide) (fun q18 => ?_) (fun q18 => ?_)
      · skip
        have hx := i4 ((lkP S a.1), a.2) 1 (prM_4n q9 q18)
        exact r_vret dX9_whole_43 rfl (Nat.zero_le _) (Nat.zero_le _) ⟨rfl, by
            obtain ⟨m, hm⟩ := hx
            exact ⟨_, m, hm, rfl⟩⟩
      · skip
        have hp : (lkP S a.1) < szM S := lkC_in (fun w => by rw [w] at q18; exact absurd q18 (by decide))
        have hB1 : Bd S ((lkP S a.1) + 1, a.2) := ⟨fun _ => by show (lkP S a.1) + 1 ≤ szM S; omega, by show (lkP S a.1) + 1 + a.2.2.1 ≤ 208; omega, by show a.2.2.2.1 ≤ 2 * ((lkP S a.1) + 1); omega, e4⟩
        refine r_aload_n dX9_whole_21 rfl rfl ?_
        refine r_dup dX9_whole_22 rfl ?_
        refine r_getI dX9_whole_23 lf_X9_218 rfl rfl ?_
        rw [show sI (txM S ((lkP S a.1), a.2)) (fid 9 48) 2000 = nI (lkP S a.1) from tx_48]
        refine r_iconst (v := 1) dX9_whole_26 (by decide) ?_
        refine r_iadd dX9_whole_27 ?_
        refine r_putI dX9_whole_28 (lp_X9_218 _) rfl rfl ?_
        rw [nI_1, tx_s48]
        refine R.heap (S2 := txM S ((lkP S a.1) + 1, a.2)) rfl ?_
        refine r_aload_n dX9_whole_31 rfl rfl ?_
        refine r_invV0v dX9_whole_32 lm_X9_249 rfl (hP ((lkP S a.1) + 1, a.2) hB1 q9 i2) (by first | exact Nat.le_of_ble_eq_true rfl | omega) (by first | exact Nat.le_of_ble_eq_true rfl | omega) (Nat.zero_le _) (Nat.zero_le _) (fun S32 hq32 => ?_)
        obtain ⟨v, n32, hv, hz32⟩ := hq32
        subst hz32
        obtain ⟨d1, d2, d3, d4⟩ := prM_bd hsz hB1 (fun _ => q9) hv
        dsimp only at d2 d3 d4
        have hvb := Bd_at d1
        refine r_aload_n dX9_whole_35 rfl rfl ?_
        refine r_iconst (v := 2) dX9_whole_36 (by decide) ?_
        refine r_invV1v dX9_whole_37 lm_X9_239 rfl (c_X9_say 2 (txM S v) (tx_sh h _) (by rw [show mI (txM S v) 51 = nI v.2.2.2.1 from tx_51, nI_toInt (by omega)]; omega)) (by first | exact Nat.le_of_ble_eq_true rfl | omega) (by first | exact Nat.le_of_ble_eq_true rfl | omega) (Nat.zero_le _) (Nat.zero_le _) (fun S37 hq37 => ?_)
        rw [tx_sayS (t := v) (by omega)] at hq37
        replace hq37 : S37 = txM S (syM v 2) := hq37
        subst hq37
        refine r_goto 4 dX9_whole_40 (by decide) ?_
        exact ih (syM v 2) ⟨⟨d1.1, d1.2.1, by show v.2.2.2.1 + 1 ≤ 2 * v.1; omega, d1.2.2.2⟩, by show v.2.2.1 = D; omega, by show i + 1 ≤ v.1; omega, fun u n hu => i4 u (n32 + n + 1) (prM_4c q9 q18 hv hu)⟩
/-- a whole at any depth: by the depth that is left -/
theorem wholeM_all {l : Launch} {G : va_G} {cy : Nat → ClassId} (S : HS) (h : ShM S) (hz : 0 ≤ (mI S 47).toInt ∧ (mI S 47).toInt ≤ 200) : ∀ (e D : Nat), D + e = 8 → ∀ t : TX, Bd S t → t.2.1 = -1 → t.2.2.1 = D → Cn l G cy yX9_whole cX9_whole 1 none (3 * (8 - D) + 4) [.ref 2000] (txM S t) 0 0 (qV (fun S2 => ∃ u n, prM S n 2 t = some u ∧ S2 = txM S u))
  | 0, D, he, t, hb, hw, hd => c_X9_whole D (by omega) t S h hz hb hw hd (fun t1 b1 w1 d1 => c_X9_part D (by omega) t1 S h hz b1 w1 d1 (fun t2 b2 w2 d2 => c_X9_unit D (by omega) t2 S h hz b2 w2 d2 (fun q => absurd q (by omega))))
  | e + 1, D, he, t, hb, hw, hd => c_X9_whole D (by omega) t S h hz hb hw hd (fun t1 b1 w1 d1 => c_X9_part D (by omega) t1 S h hz b1 w1 d1 (fun t2 b2 w2 d2 => c_X9_unit D (by omega) t2 S h hz b2 w2 d2 (fun q t3 b3 w3 d3 => by
      have := wholeM_all (l := l) (G := G) (cy := cy) S h hz e (D + 1) (by omega) t3 b3 w3 d3
      rw [show 8 - (D + 1) = 7 - D by omega] at this
      exact this)))
