/-! ===== a new boat, a new yard ===== -/
theorem newB_T {S : HS} {a : Int32} (f : Nat) : sI (newB S a) f (100 + 3 * nn (cI S 9)) = if f = fid 0 2 then a else if f = fid 0 3 then -1 else 0 := by
  unfold newB
  rw [sI_setIn (Or.inr (by omega)), sI_setQ]
  unfold initB
  by_cases q2 : f = fid 0 2
  · rw [if_pos q2, q2, sI_setIe]
  · rw [if_neg q2, sI_setIn (Or.inl q2)]
    by_cases q3 : f = fid 0 3
    · rw [if_pos q3, q3, sI_setIe]
    · rw [if_neg q3, sI_setIn (Or.inl q3), sI_setR, sI_newA, sI_setR, sI_newA, sI_newO]
      simp [va_up]
theorem newB_A {S : HS} {a : Int32} {t : Nat} (h : t ≠ 100 + 3 * nn (cI S 9) + 1) (h2 : t ≠ 100 + 3 * nn (cI S 9) + 2) : sA (newB S a) t = sA S t := by
  unfold newB
  rw [sA_setI, sA_setQ]
  unfold initB
  rw [sA_setI, sA_setI, sA_setR, sA_newA, va_up_ne _ _ h2, sA_setR, sA_newA, va_up_ne _ _ h, sA_newO]
theorem newB_A0 {S : HS} {a : Int32} {t : Nat} (h : t = 100 + 3 * nn (cI S 9) + 1 ∨ t = 100 + 3 * nn (cI S 9) + 2) : sA (newB S a) t = fun _ => 0 := by
  unfold newB
  rw [sA_setI, sA_setQ]
  unfold initB
  rw [sA_setI, sA_setI, sA_setR, sA_newA, sA_setR, sA_newA]
  rcases h with e | e
  · rw [va_up_ne _ _ (by omega), e]; simp [va_up]
  · rw [e]; simp [va_up]
theorem newY_T {S : HS} {a w : Int32} (f : Nat) : sI (newY S a w) f (200 + 2 * nn (cI S 10)) = if f = fid 7 2 then w else if f = fid 7 1 then (if 6 < a then 6 else a) else 0 := by
  unfold newY
  rw [sI_setIn (Or.inr (by omega)), sI_setQ]
  unfold initY
  by_cases q2 : f = fid 7 2
  · rw [if_pos q2, q2, sI_setIe]
  · rw [if_neg q2, sI_setIn (Or.inl q2)]
    by_cases q3 : f = fid 7 1
    · rw [if_pos q3, q3, sI_setIe]
    · rw [if_neg q3, sI_setIn (Or.inl q3), sI_setR, sI_newA, sI_newO]
      simp [va_up]
theorem newY_A {S : HS} {a w : Int32} {t : Nat} (h : t ≠ 200 + 2 * nn (cI S 10) + 1) : sA (newY S a w) t = sA S t := by
  unfold newY
  rw [sA_setI, sA_setQ]
  unfold initY
  rw [sA_setI, sA_setI, sA_setR, sA_newA, va_up_ne _ _ h, sA_newO]
set_option maxHeartbeats 1000000 in
theorem Sim.boat {S T : HS} {a : Int32} (h : Sim S T) (hlt : (mI T 25).toInt < 12) (ha : 0 ≤ a.toInt ∧ a.toInt ≤ 60) : Sim (newB S a) (setI (setA (setA T (ma 2) (upd (mA T 2) (mI T 25).toNatClampNeg a)) (ma 3) (upd (mA T 3) (mI T 25).toNatClampNeg (-1))) (fid 9 25) 2000 (mI T 25 + 1)) := by
  obtain ⟨h1, h2, ⟨g0, gN, gC, gB, gP, gY, gL⟩, hN, hC, hB, hP, hY, hL, hT, hR⟩ := id h
  obtain ⟨n9, n10, n11, n12, n13, n14, n15, n16, n17, nw, ng, nz⟩ := id hN
  obtain ⟨r25, r26, r27, r24, r28, r29, r47⟩ := id gN
  have hb9 : nn (cI S 9) = nn (mI T 25) := by rw [n9]
  have hn12 : nn (mI T 25) < 12 := by unfold nn; omega
  have one : (1 : Int32).toInt = 1 := rfl
  have e1 : (mI T 25 + 1).toInt = (mI T 25).toInt + 1 := fb_addI (by omega) (by omega)
  have e25 : mI (setI (setA (setA T (ma 2) (upd (mA T 2) (mI T 25).toNatClampNeg a)) (ma 3) (upd (mA T 3) (mI T 25).toNatClampNeg (-1))) (fid 9 25) 2000 (mI T 25 + 1)) 25 = mI T 25 + 1 := sI_setIe _ _ _ _
  have en : nn (mI (setI (setA (setA T (ma 2) (upd (mA T 2) (mI T 25).toNatClampNeg a)) (ma 3) (upd (mA T 3) (mI T 25).toNatClampNeg (-1))) (fid 9 25) 2000 (mI T 25 + 1)) 25) = nn (mI T 25) + 1 := by
    rw [e25]; unfold nn; omega
  have eI : ∀ k, k ≠ 25 → mI (setI (setA (setA T (ma 2) (upd (mA T 2) (mI T 25).toNatClampNeg a)) (ma 3) (upd (mA T 3) (mI T 25).toNatClampNeg (-1))) (fid 9 25) 2000 (mI T 25 + 1)) k = mI T k := fun k hk => sI_setIn (Or.inl (by unfold fid; omega))
  have eA : ∀ k, k ≠ 2 → k ≠ 3 → mA (setI (setA (setA T (ma 2) (upd (mA T 2) (mI T 25).toNatClampNeg a)) (ma 3) (upd (mA T 3) (mI T 25).toNatClampNeg (-1))) (fid 9 25) 2000 (mI T 25 + 1)) k = mA T k := fun k h2 h3 => (sA_setn (by unfold ma; omega)).trans (sA_setn (by unfold ma; omega))
  have eA2 : mA (setI (setA (setA T (ma 2) (upd (mA T 2) (mI T 25).toNatClampNeg a)) (ma 3) (upd (mA T 3) (mI T 25).toNatClampNeg (-1))) (fid 9 25) 2000 (mI T 25 + 1)) 2 = upd (mA T 2) (nn (mI T 25)) a := (sA_setn (by decide)).trans (sA_set _ _ _)
  have eA3 : mA (setI (setA (setA T (ma 2) (upd (mA T 2) (mI T 25).toNatClampNeg a)) (ma 3) (upd (mA T 3) (mI T 25).toNatClampNeg (-1))) (fid 9 25) 2000 (mI T 25 + 1)) 3 = upd (mA T 3) (nn (mI T 25)) (-1) := sA_set _ _ _
  have sh2 : ShM (setI (setA (setA T (ma 2) (upd (mA T 2) (mI T 25).toNatClampNeg a)) (ma 3) (upd (mA T 3) (mI T 25).toNatClampNeg (-1))) (fid 9 25) 2000 (mI T 25 + 1)) := ((g0.setA _ _).setA _ _).setI _ _ _
  generalize (setI (setA (setA T (ma 2) (upd (mA T 2) (mI T 25).toNatClampNeg a)) (ma 3) (upd (mA T 3) (mI T 25).toNatClampNeg (-1))) (fid 9 25) 2000 (mI T 25 + 1)) = T2 at *
  refine ⟨newB_sh h1 (by omega) a, fun t => ?_, ⟨sh2, ?_, gC.cg (fun k _ => eA k (by omega) (by omega)), ?_, ?_, gY.cg (fun k _ _ => eA k (by omega) (by omega)) (eI 26 (by decide)), gL.cg (fun k _ _ => eA k (by omega) (by omega)) (eI 26 (by decide)) (eI 27 (by decide))⟩, ?_, hC.cg (fun j _ => by rw [newB_A (by omega) (by omega), newB_A (by omega) (by omega)]; exact ⟨rfl, rfl⟩) (fun k _ => eA k (by omega) (by omega)), ?_, ?_, hY.cg (fun i _ k _ _ => newB_I (by omega) (Or.inl (by unfold fid; omega))) (fun k _ _ => eA k (by omega) (by omega)) (eI 26 (by decide)), hL.cg (fun q _ k _ => newB_I (by omega) (Or.inl (by unfold fid; omega))) (fun k _ _ => eA k (by omega) (by omega)) (eI 27 (by decide)), hT.cg (newB_A (by omega) (by omega)) (eA 43 (by decide) (by decide)) (eI 47 (by decide)), hR.cg (newB_Qn (by decide) (by omega) (by omega)) (fun b _ => ⟨newB_A (by omega) (by omega), newB_I (by omega) (Or.inl (by decide))⟩) (eA 44 (by decide) (by decide)) (eA 46 (by decide) (by decide))⟩
  · by_cases e : t = 100 + 3 * nn (cI S 9)
    · rw [e, newB_T, if_neg (by decide), if_neg (by decide)]; exact ⟨Int.le_refl _, by decide⟩
    · rw [newB_I e (Or.inl (by decide))]; exact h2 t
  · unfold RgN
    rw [eI 26 (by decide), eI 27 (by decide), eI 24 (by decide), eI 28 (by decide), eI 29 (by decide), eI 47 (by decide), e25]
    exact ⟨by omega, r26, r27, r24, r28, r29, r47⟩
  · intro i hi
    have c := gB i hi
    rw [eA2, eA3, eA 6 (by decide) (by decide), eI 27 (by decide), en]
    refine ⟨?_, ?_, c.2.2.1, fun z k k1 k2 => by rw [eA k (by omega) (by omega)]; exact c.2.2.2 (by omega) k k1 k2⟩
    · by_cases e : i = nn (mI T 25)
      · rw [e, pk_us]; exact ha
      · rw [pk_un e]; exact c.1
    · by_cases e : i = nn (mI T 25)
      · rw [e, pk_us]; exact ⟨by decide, by decide⟩
      · rw [pk_un e]; exact c.2.1
  · intro i hi x hx
    have c := gP i hi x hx
    rw [eA 8 (by decide) (by decide), eA 9 (by decide) (by decide), en]
    exact ⟨c.1, fun z => c.2 (by omega)⟩
  · unfold SmN
    rw [eI 26 (by decide), eI 27 (by decide), eI 24 (by decide), eI 28 (by decide), eI 29 (by decide), eI 47 (by decide), eI 30 (by decide), eI 31 (by decide), eI 32 (by decide), eI 33 (by decide), eI 34 (by decide), e25, newB_9, n9]
    exact ⟨rfl, (newB_I (by omega) (Or.inl (by decide))).trans n10, (newB_I (by omega) (Or.inl (by decide))).trans n11, (newB_I (by omega) (Or.inl (by decide))).trans n12, (newB_I (by omega) (Or.inl (by decide))).trans n13, (newB_I (by omega) (Or.inl (by decide))).trans n14, (newB_I (by omega) (Or.inl (by decide))).trans n15, (newB_I (by omega) (Or.inl (by decide))).trans n16, (newB_I (by omega) (Or.inl (by decide))).trans n17, (newB_I (by omega) (Or.inl (by decide))).trans nw, (newB_I (by omega) (Or.inl (by decide))).trans ng, (newB_I (by omega) (Or.inl (by decide))).trans nz⟩
  · intro i hi hn k hk hk2
    by_cases e : i = nn (mI T 25)
    · rw [e, ← hb9, newB_T, hb9]
      have c := (gB i hi).2.2.2 (by omega)
      by_cases k2 : k = 2
      · subst k2; rw [if_pos rfl, eA2, pk_us]
      · by_cases k3 : k = 3
        · subst k3; rw [if_neg (by decide), if_pos rfl, eA3, pk_us]
        · rw [if_neg (by unfold fid; omega), if_neg (by unfold fid; omega), eA k k2 k3, ← e, c k (by omega) (by omega)]
    · rw [newB_I (by omega) (Or.inl (by unfold fid; omega)), hB i hi (by omega) k hk hk2]
      by_cases k2 : k = 2
      · subst k2; rw [eA2, pk_un e]
      · by_cases k3 : k = 3
        · subst k3; rw [eA3, pk_un e]
        · rw [eA k k2 k3]
  · intro i hi hn x hx
    rw [eA 8 (by decide) (by decide), eA 9 (by decide) (by decide)]
    by_cases e : i = nn (mI T 25)
    · have c := (gP i hi x hx).2 (by omega)
      rw [newB_A0 (Or.inl (by omega)), newB_A0 (Or.inr (by omega)), c.1, c.2]
      exact ⟨rfl, rfl⟩
    · rw [newB_A (by omega) (by omega), newB_A (by omega) (by omega)]
      exact hP i hi (by omega) x hx
set_option maxHeartbeats 1000000 in
theorem Sim.yard {S T : HS} {a w : Int32} (h : Sim S T) (hlt : (mI T 26).toInt < 4) (ha : 1 ≤ a.toInt ∧ a.toInt ≤ 6) (hw : 1 ≤ w.toInt ∧ w.toInt ≤ 500) : Sim (newY S a w) (setI (setA (setA T (ma 10) (upd (mA T 10) (mI T 26).toNatClampNeg a)) (ma 11) (upd (mA T 11) (mI T 26).toNatClampNeg w)) (fid 9 26) 2000 (mI T 26 + 1)) := by
  obtain ⟨h1, h2, ⟨g0, gN, gC, gB, gP, gY, gL⟩, hN, hC, hB, hP, hY, hL, hT, hR⟩ := id h
  obtain ⟨n9, n10, n11, n12, n13, n14, n15, n16, n17, nw, ng, nz⟩ := id hN
  obtain ⟨r25, r26, r27, r24, r28, r29, r47⟩ := id gN
  have hb9 : nn (cI S 10) = nn (mI T 26) := by rw [n10]
  have hn12 : nn (mI T 26) < 4 := by unfold nn; omega
  have one : (1 : Int32).toInt = 1 := rfl
  have six : (if (6 : Int32) < a then 6 else a) = a := if_neg (by rw [fa_lt]; have : (6 : Int32).toInt = 6 := rfl
                                                                  omega)
  have e1 : (mI T 26 + 1).toInt = (mI T 26).toInt + 1 := fb_addI (by omega) (by omega)
  have e26 : mI (setI (setA (setA T (ma 10) (upd (mA T 10) (mI T 26).toNatClampNeg a)) (ma 11) (upd (mA T 11) (mI T 26).toNatClampNeg w)) (fid 9 26) 2000 (mI T 26 + 1)) 26 = mI T 26 + 1 := sI_setIe _ _ _ _
  have en : nn (mI (setI (setA (setA T (ma 10) (upd (mA T 10) (mI T 26).toNatClampNeg a)) (ma 11) (upd (mA T 11) (mI T 26).toNatClampNeg w)) (fid 9 26) 2000 (mI T 26 + 1)) 26) = nn (mI T 26) + 1 := by
    rw [e26]; unfold nn; omega
  have eI : ∀ k, k ≠ 26 → mI (setI (setA (setA T (ma 10) (upd (mA T 10) (mI T 26).toNatClampNeg a)) (ma 11) (upd (mA T 11) (mI T 26).toNatClampNeg w)) (fid 9 26) 2000 (mI T 26 + 1)) k = mI T k := fun k hk => sI_setIn (Or.inl (by unfold fid; omega))
  have eA : ∀ k, k ≠ 10 → k ≠ 11 → mA (setI (setA (setA T (ma 10) (upd (mA T 10) (mI T 26).toNatClampNeg a)) (ma 11) (upd (mA T 11) (mI T 26).toNatClampNeg w)) (fid 9 26) 2000 (mI T 26 + 1)) k = mA T k := fun k h2 h3 => (sA_setn (by unfold ma; omega)).trans (sA_setn (by unfold ma; omega))
  have eA10 : mA (setI (setA (setA T (ma 10) (upd (mA T 10) (mI T 26).toNatClampNeg a)) (ma 11) (upd (mA T 11) (mI T 26).toNatClampNeg w)) (fid 9 26) 2000 (mI T 26 + 1)) 10 = upd (mA T 10) (nn (mI T 26)) a := (sA_setn (by decide)).trans (sA_set _ _ _)
  have eA11 : mA (setI (setA (setA T (ma 10) (upd (mA T 10) (mI T 26).toNatClampNeg a)) (ma 11) (upd (mA T 11) (mI T 26).toNatClampNeg w)) (fid 9 26) 2000 (mI T 26 + 1)) 11 = upd (mA T 11) (nn (mI T 26)) w := sA_set _ _ _
  have sh2 : ShM (setI (setA (setA T (ma 10) (upd (mA T 10) (mI T 26).toNatClampNeg a)) (ma 11) (upd (mA T 11) (mI T 26).toNatClampNeg w)) (fid 9 26) 2000 (mI T 26 + 1)) := ((g0.setA _ _).setA _ _).setI _ _ _
  generalize (setI (setA (setA T (ma 10) (upd (mA T 10) (mI T 26).toNatClampNeg a)) (ma 11) (upd (mA T 11) (mI T 26).toNatClampNeg w)) (fid 9 26) 2000 (mI T 26 + 1)) = T2 at *
  refine ⟨newY_sh h1 (by omega) a w, fun t => ?_, ⟨sh2, ?_, gC.cg (fun k _ => eA k (by omega) (by omega)), gB.cg (fun k _ _ => eA k (by omega) (by omega)) (eI 25 (by decide)) (eI 27 (by decide)), gP.cg (fun k _ _ => eA k (by omega) (by omega)) (eI 25 (by decide)), ?_, ?_⟩, ?_, hC.cg (fun j _ => by rw [newY_A (by omega), newY_A (by omega)]; exact ⟨rfl, rfl⟩) (fun k _ => eA k (by omega) (by omega)), hB.cg (fun i _ k _ _ => newY_I (by omega) (Or.inl (by unfold fid; omega))) (fun k _ _ => eA k (by omega) (by omega)) (eI 25 (by decide)), hP.cg (fun i _ => ⟨newY_A (by omega), newY_A (by omega)⟩) (fun k _ _ => eA k (by omega) (by omega)) (eI 25 (by decide)), ?_, hL.cg (fun q _ k _ => newY_I (by omega) (Or.inl (by unfold fid; omega))) (fun k _ _ => eA k (by omega) (by omega)) (eI 27 (by decide)), hT.cg (newY_A (by omega)) (eA 43 (by decide) (by decide)) (eI 47 (by decide)), hR.cg (newY_Qn (by decide) (by omega)) (fun b _ => ⟨newY_A (by omega), newY_I (by omega) (Or.inl (by decide))⟩) (eA 44 (by decide) (by decide)) (eA 46 (by decide) (by decide))⟩
  · by_cases e : t = 200 + 2 * nn (cI S 10)
    · rw [e, newY_T, if_neg (by decide), if_neg (by decide)]; exact ⟨Int.le_refl _, by decide⟩
    · rw [newY_I e (Or.inl (by decide))]; exact h2 t
  · unfold RgN
    rw [eI 25 (by decide), eI 27 (by decide), eI 24 (by decide), eI 28 (by decide), eI 29 (by decide), eI 47 (by decide), e26]
    exact ⟨r25, by omega, r27, r24, r28, r29, r47⟩
  · intro y hy
    have c := gY y hy
    rw [eA10, eA11, eA 12 (by decide) (by decide), en]
    refine ⟨c.1, fun z => ?_, fun z => c.2.2 (by omega)⟩
    by_cases e : y = nn (mI T 26)
    · rw [e, pk_us, pk_us]; exact ⟨ha, hw⟩
    · rw [pk_un e, pk_un e]; exact c.2.1 (by omega)
  · intro q hq
    have c := gL q hq
    rw [eA 16 (by decide) (by decide), eA 17 (by decide) (by decide), eA 18 (by decide) (by decide), eA 19 (by decide) (by decide), eA 22 (by decide) (by decide), eA 23 (by decide) (by decide), eI 27 (by decide), e26]
    exact ⟨fun z => by have := c.1 z; omega, c.2⟩
  · unfold SmN
    rw [eI 25 (by decide), eI 27 (by decide), eI 24 (by decide), eI 28 (by decide), eI 29 (by decide), eI 47 (by decide), eI 30 (by decide), eI 31 (by decide), eI 32 (by decide), eI 33 (by decide), eI 34 (by decide), e26, newY_10, n10]
    exact ⟨(newY_I (by omega) (Or.inl (by decide))).trans n9, rfl, (newY_I (by omega) (Or.inl (by decide))).trans n11, (newY_I (by omega) (Or.inl (by decide))).trans n12, (newY_I (by omega) (Or.inl (by decide))).trans n13, (newY_I (by omega) (Or.inl (by decide))).trans n14, (newY_I (by omega) (Or.inl (by decide))).trans n15, (newY_I (by omega) (Or.inl (by decide))).trans n16, (newY_I (by omega) (Or.inl (by decide))).trans n17, (newY_I (by omega) (Or.inl (by decide))).trans nw, (newY_I (by omega) (Or.inl (by decide))).trans ng, (newY_I (by omega) (Or.inl (by decide))).trans nz⟩
  · intro i hi hn k hk hk2
    by_cases e : i = nn (mI T 26)
    · rw [e, ← hb9, newY_T, hb9, six]
      have c := (gY i hi).2.2 (by omega)
      by_cases k2 : k = 2
      · subst k2; rw [if_pos rfl, show (9 + 2) = 11 from rfl, eA11, pk_us]
      · by_cases k3 : k = 1
        · subst k3; rw [if_neg (by decide), if_pos rfl, show (9 + 1) = 10 from rfl, eA10, pk_us]
        · have k3 : k = 3 := by omega
          subst k3
          rw [if_neg (by decide), if_neg (by decide), show (9 + 3) = 12 from rfl, eA 12 (by decide) (by decide), ← e, c]
    · rw [newY_I (by omega) (Or.inl (by unfold fid; omega)), hY i hi (by omega) k hk hk2]
      by_cases k2 : k = 2
      · subst k2; rw [show (9 + 2) = 11 from rfl, eA11, pk_un e]
      · by_cases k3 : k = 1
        · subst k3; rw [show (9 + 1) = 10 from rfl, eA10, pk_un e]
        · rw [eA (9 + k) (by omega) (by omega)]
theorem st_boat {S T S2 T2 : HS} {a r1 r2 : Int32} (h : Sim S T) (h8 : (r1 = if (¬ 12 ≤ (cI S 9).toInt ∧ 0 ≤ a.toInt ∧ a.toInt ≤ 60) then cI S 9 + 1 - 1 else -1) ∧ S2 = if (¬ 12 ≤ (cI S 9).toInt ∧ 0 ≤ a.toInt ∧ a.toInt ≤ 60) then newB S a else S) (h9 : (r2 = if (¬ (mI T 25).toInt = 12 ∧ 0 ≤ a.toInt ∧ a.toInt ≤ 60) then mI T 25 + 1 - 1 else -1) ∧ T2 = if (¬ (mI T 25).toInt = 12 ∧ 0 ≤ a.toInt ∧ a.toInt ≤ 60) then setI (setA (setA T (ma 2) (upd (mA T 2) (mI T 25).toNatClampNeg a)) (ma 3) (upd (mA T 3) (mI T 25).toNatClampNeg (-1))) (fid 9 25) 2000 (mI T 25 + 1) else T) : r1 = r2 ∧ Sim S2 T2 := by
  have n9 := h.n.1
  have r25 := h.rn.1
  obtain ⟨rfl, rfl⟩ := h8
  obtain ⟨rfl, rfl⟩ := h9
  rw [n9]
  by_cases q : (¬ (mI T 25).toInt = 12 ∧ 0 ≤ a.toInt ∧ a.toInt ≤ 60)
  · have q2 : (¬ 12 ≤ (mI T 25).toInt ∧ 0 ≤ a.toInt ∧ a.toInt ≤ 60) := ⟨by omega, q.2⟩
    rw [if_pos q, if_pos q, if_pos q2, if_pos q2]
    exact ⟨rfl, h.boat (by omega) q.2⟩
  · have q2 : ¬ (¬ 12 ≤ (mI T 25).toInt ∧ 0 ≤ a.toInt ∧ a.toInt ≤ 60) := fun z => q ⟨by omega, z.2⟩
    rw [if_neg q, if_neg q, if_neg q2, if_neg q2]
    exact ⟨rfl, h⟩
theorem st_yard {S T S2 T2 : HS} {a w r1 r2 : Int32} (h : Sim S T) (h8 : (r1 = if (¬ 4 ≤ (cI S 10).toInt ∧ (1 ≤ a.toInt ∧ a.toInt ≤ 6) ∧ 1 ≤ w.toInt ∧ w.toInt ≤ 500) then cI S 10 + 1 - 1 else -1) ∧ S2 = if (¬ 4 ≤ (cI S 10).toInt ∧ (1 ≤ a.toInt ∧ a.toInt ≤ 6) ∧ 1 ≤ w.toInt ∧ w.toInt ≤ 500) then newY S a w else S) (h9 : (r2 = if (¬ (mI T 26).toInt = 4 ∧ (1 ≤ a.toInt ∧ a.toInt ≤ 6) ∧ 1 ≤ w.toInt ∧ w.toInt ≤ 500) then mI T 26 + 1 - 1 else -1) ∧ T2 = if (¬ (mI T 26).toInt = 4 ∧ (1 ≤ a.toInt ∧ a.toInt ≤ 6) ∧ 1 ≤ w.toInt ∧ w.toInt ≤ 500) then setI (setA (setA T (ma 10) (upd (mA T 10) (mI T 26).toNatClampNeg a)) (ma 11) (upd (mA T 11) (mI T 26).toNatClampNeg w)) (fid 9 26) 2000 (mI T 26 + 1) else T) : r1 = r2 ∧ Sim S2 T2 := by
  have n10 := h.n.2.1
  have r26 := h.rn.2.1
  obtain ⟨rfl, rfl⟩ := h8
  obtain ⟨rfl, rfl⟩ := h9
  rw [n10]
  by_cases q : (¬ (mI T 26).toInt = 4 ∧ (1 ≤ a.toInt ∧ a.toInt ≤ 6) ∧ 1 ≤ w.toInt ∧ w.toInt ≤ 500)
  · have q2 : (¬ 4 ≤ (mI T 26).toInt ∧ (1 ≤ a.toInt ∧ a.toInt ≤ 6) ∧ 1 ≤ w.toInt ∧ w.toInt ≤ 500) := ⟨by omega, q.2⟩
    rw [if_pos q, if_pos q, if_pos q2, if_pos q2]
    exact ⟨rfl, h.yard (by omega) q.2.1 q.2.2⟩
  · have q2 : ¬ (¬ 4 ≤ (mI T 26).toInt ∧ (1 ≤ a.toInt ∧ a.toInt ≤ 6) ∧ 1 ≤ w.toInt ∧ w.toInt ≤ 500) := fun z => q ⟨by omega, z.2⟩
    rw [if_neg q, if_neg q, if_neg q2, if_neg q2]
    exact ⟨rfl, h⟩
