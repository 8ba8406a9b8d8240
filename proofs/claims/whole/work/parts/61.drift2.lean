/-! ===== the storm behind the hauls is the storm before them; the drift ===== -/
theorem st_cg {X Y : HS} (n : Nat) (h1 : mA Y 1 = mA X 1) (h2 : mA Y 2 = mA X 2) (h3 : mA Y 3 = mA X 3) (h7 : mA Y 7 = mA X 7) : st2 Y n = st2 X n ∧ st7 Y n = st7 X n := by
  unfold st2 st7 mStorm
  rw [h1, h2, h3, h7]
  exact ⟨rfl, rfl⟩
theorem nmS_sc {g : Int32} {X : HS} {a b c d : Nat → Int32} : nmS g (scM X a b c d) = scM (nmS g X) a b c d := by
  have e := fun k (hk : k < 35) => show mA (scM X a b c d) k = mA X k from scM_A (Or.inl hk)
  obtain ⟨e2, e7⟩ := st_cg (X := X) (Y := scM X a b c d) (nmN g X) (e 1 (by decide)) (e 2 (by decide)) (e 3 (by decide)) (e 7 (by decide))
  rw [nmS_eq, nmS_eq, show nmN g (scM X a b c d) = nmN g X from rfl, e2, e7, scM_o _ _ _ _ _ _ (Or.inl (by decide)), scM_o _ _ _ _ _ _ (Or.inl (by decide))]
theorem hmf_st {g : Int32} {X : HS} {i : Nat} (hi : i < 36) (hq : ¬ (¬ g = 0 ∧ ¬ mA X 1 i = 0)) : hmf (nmS g X) (nI i) = hmf X (nI i) := by
  funext b
  have e3 : mA (nmS g X) 3 = mA X 3 := nmS_A ⟨by decide, by decide⟩
  have e2 : mA (nmS g X) 2 = st2 X (nmN g X) := by rw [nmS_eq]; exact (sA_setn (by decide)).trans (sA_set _ _ _)
  have ei : mI (nmS g X) 25 = mI X 25 := by show sI (nmS g X) _ _ = _; rw [nmS_I]
  unfold hmf
  rw [e3, e2, ei]
  by_cases q : b < nn (mI X 25) ∧ mA X 3 b = nI i
  · rw [if_pos q, if_pos q]
    unfold st2
    rw [if_neg]
    intro z
    refine hq ⟨fun g0 => ?_, ?_⟩
    · have := z.1
      unfold nmN at this
      rw [if_pos g0] at this
      omega
    · have := z.2.2
      rw [q.2, nI_clamp (by omega)] at this
      exact this
  · rw [if_neg q, if_neg q]
theorem nmS_ha {g : Int32} {X : HS} {i : Nat} (hi : i < 36) (hq : ¬ (¬ g = 0 ∧ ¬ mA X 1 i = 0)) : nmS g (haM X (nI i)) = haM (nmS g X) (nI i) ∧ hsu (nmS g X) (nI i) = hsu X (nI i) := by
  have em := hmf_st hi hq
  have a0 : mA (nmS g X) 0 = mA X 0 := nmS_A ⟨by decide, by decide⟩
  have a5 : mA (nmS g X) 5 = mA X 5 := nmS_A ⟨by decide, by decide⟩
  have a4 : mA (nmS g X) 4 = mA X 4 := nmS_A ⟨by decide, by decide⟩
  have es : hsu (nmS g X) (nI i) = hsu X (nI i) := by unfold hsu; rw [em, a0]
  refine ⟨?_, es⟩
  have e := fun k (hk : k ≠ 5 ∧ k ≠ 4 ∧ k ≠ 0) => show mA (haM X (nI i)) k = mA X k from haM_A ⟨by unfold ma; omega, by unfold ma; omega, by unfold ma; omega⟩
  obtain ⟨e2, e7⟩ := st_cg (X := X) (Y := haM X (nI i)) (nmN g X) (e 1 (by decide)) (e 2 (by decide)) (e 3 (by decide)) (e 7 (by decide))
  rw [nmS_eq g (haM X (nI i)), show nmN g (haM X (nI i)) = nmN g X from rfl, e2, e7]
  unfold haM
  rw [em, es, a0, a5, a4, nmS_eq]
  generalize (fun b => if hmf X (nI i) b ≠ 0 then nI (prt (hsu X (nI i)) (hmf X (nI i)) 12 b) else mA X 5 b) = f5
  generalize (fun b => if hmf X (nI i) b ≠ 0 then mA X 4 b + nI (prt (hsu X (nI i)) (hmf X (nI i)) 12 b) else mA X 4 b) = f4
  generalize upd (mA X 0) (nI i).toNatClampNeg (mA X 0 (nI i).toNatClampNeg - nI (hsu X (nI i))) = f0
  generalize st2 X (nmN g X) = f2
  generalize st7 X (nmN g X) = f7
  rw [setA_comm _ (show ma 0 ≠ ma 2 by decide), setA_comm _ (show ma 4 ≠ ma 2 by decide), setA_comm _ (show ma 5 ≠ ma 2 by decide), setA_comm _ (show ma 0 ≠ ma 7 by decide), setA_comm _ (show ma 4 ≠ ma 7 by decide), setA_comm _ (show ma 5 ≠ ma 7 by decide)]
theorem nmS_nh {g : Int32} {X : HS} : ∀ i, i ≤ 36 → nmS g (nhM g X i).1 = (nhM g (nmS g X) i).1 ∧ (nhM g (nmS g X) i).2 = (nhM g X i).2
  | 0, _ => ⟨rfl, rfl⟩
  | i + 1, hi => by
    obtain ⟨k1, k2⟩ := nmS_nh (g := g) (X := X) i (by omega)
    have e1 : mA (nmS g X) 1 = mA X 1 := nmS_A ⟨by decide, by decide⟩
    have e2 : mA (nhM g X i).1 1 = mA X 1 := nhM_A ⟨by decide, by decide, by decide⟩ i
    unfold nhM
    rw [e1]
    by_cases q : ¬ g = 0 ∧ ¬ mA X 1 i = 0
    · rw [if_pos q, if_pos q]; exact ⟨k1, k2⟩
    · rw [if_neg q, if_neg q]
      obtain ⟨j1, j2⟩ := nmS_ha (g := g) (X := (nhM g X i).1) (show i < 36 by omega) (by rw [e2]; exact q)
      dsimp only
      rw [j1, k1, k2]
      refine ⟨rfl, ?_⟩
      rw [← k1, j2]
/-! the drift -/
theorem nx_all : ∀ w, w < 5 → ∀ i, i < 36 → (besF (nI w) (nI i)).toNatClampNeg < 36 ∧ (if 0 ≤ (nextF (nI i) (nI w)).toInt ∧ (nextF (nI i) (nI w)).toInt < 36 then (nextF (nI i) (nI w)).toNatClampNeg = (besF (nI w) (nI i)).toNatClampNeg ∧ (besF (nI w) (nI i)).toNatClampNeg ≠ i else (besF (nI w) (nI i)).toNatClampNeg = i) := by decide +kernel
theorem chg_dcm {cr cr2 z z2 : Nat → Int32} {w : Nat} (hw : w < 5) (hc : ∀ j, j < 36 → cr j = cr2 j) (hz : ∀ j, j < 36 → z j = z2 j) : ∀ i, i ≤ 36 → ∀ j, j < 36 → chg cr (nI w) z i j = dcm cr2 (nI w) z2 i j
  | 0, _, j, hj => hz j hj
  | i + 1, hi, j, hj => by
    have ih := chg_dcm hw hc hz i (by omega)
    obtain ⟨x1, x2⟩ := nx_all w hw i (by omega)
    unfold chg dcm
    rw [hc i (by omega)]
    generalize (besF (nI w) (nI i)).toNatClampNeg = n at *
    by_cases q : 0 ≤ (nextF (nI i) (nI w)).toInt ∧ (nextF (nI i) (nI w)).toInt < 36
    · rw [if_pos q] at x2 ⊢
      rw [x2.1]
      have ni := x2.2
      unfold upd
      by_cases jn : j = n
      · rw [if_pos jn, if_neg ni, jn, if_neg ni, if_pos rfl, ih n x1]
      · rw [if_neg jn]
        by_cases ji : j = i
        · rw [if_pos ji, if_pos ji, if_neg (fun z => ni z.symm), ih i (by omega)]
        · rw [if_neg ji, if_neg ji, if_neg jn]; exact ih j hj
    · rw [if_neg q] at x2 ⊢
      subst x2
      unfold upd
      by_cases ji : j = n
      · rw [if_pos ji, if_pos rfl, Int32.add_sub_cancel, ji]; exact ih n x1
      · rw [if_neg ji, if_neg ji]; exact ih j hj
theorem quarter {x : Int32} (h : 0 ≤ x.toInt ∧ x.toInt ≤ 10000) : (x / 4).toInt = x.toInt / 4 := by
  obtain ⟨k, hk, rfl⟩ := nI_of2 (x := x) (M := 10000) (n := 10000) rfl (fun z => by rw [fa_lt] at z; have : (0 : Int32).toInt = 0 := rfl; omega) (by rw [fa_le]; exact h.2)
  rw [show (4 : Int32) = nI 4 from rfl, pk_div (by omega) (by decide) (by decide), nI_toInt (by omega), nI_toInt (by omega)]
  omega
theorem dcm_bd {cr z : Nat → Int32} {w : Nat} (hw : w < 5) (hc : ∀ j, j < 36 → 0 ≤ (cr j).toInt ∧ (cr j).toInt ≤ 10000) (hz : ∀ j, j < 36 → z j = 0) : ∀ i, i ≤ 36 → ∀ j, j < 36 → (if j < i then -((cr j).toInt / 4) else 0) ≤ (dcm cr (nI w) z i j).toInt ∧ (dcm cr (nI w) z i j).toInt ≤ 2500 * i
  | 0, _, j, hj => by
    show _ ≤ (z j).toInt ∧ (z j).toInt ≤ _
    rw [hz j hj]
    exact ⟨Int.le_refl _, by decide⟩
  | i + 1, hi, j, hj => by
    have ih := dcm_bd hw hc hz i (by omega)
    obtain ⟨x1, -⟩ := nx_all w hw i (by omega)
    have hq := quarter (hc i (by omega))
    have ci := hc i (by omega)
    have cj := hc j hj
    have hin := ih (besF (nI w) (nI i)).toNatClampNeg x1
    have hii := ih i (by omega)
    have hij := ih j hj
    rw [if_neg (by omega)] at hii
    have c1 : -2500 ≤ (if j < i then -((cr j).toInt / 4) else 0) := by split <;> omega
    have lo : ∀ n, n < 36 → -2500 ≤ (dcm cr (nI w) z i n).toInt := fun n hn => by
      have := (ih n hn).1
      have := hc n hn
      split at * <;> omega
    unfold dcm
    generalize (besF (nI w) (nI i)).toNatClampNeg = n at *
    have lon := lo n x1
    have s1 : (dcm cr (nI w) z i n + cr i / 4).toInt = (dcm cr (nI w) z i n).toInt + (cr i).toInt / 4 := by rw [fb_addI (by omega) (by omega), hq]
    unfold upd
    by_cases ji : j = i
    · rw [if_pos ji]
      subst ji
      rw [if_pos (by omega)]
      by_cases e : j = n
      · subst e
        rw [if_pos rfl, Int32.add_sub_cancel]; omega
      · rw [if_neg e, fb_subI (by omega) (by omega), hq]; omega
    · rw [if_neg ji]
      have e1 : (j < i + 1) = (j < i) := by simp only [eq_iff_iff]; omega
      simp only [e1]
      by_cases e : j = n
      · subst e
        rw [if_pos rfl, s1]; omega
      · rw [if_neg e]; omega
theorem mn_eq (x : Int32) : mn4 x = mnA x := by
  unfold mn4 mnA
  by_cases q : (10000 : Int32) < x
  · rw [if_pos q]
    split
    · rename_i z; rw [fa_lt] at q z; omega
    · rfl
  · rw [if_neg q]
    split
    · rfl
    · rename_i z
      rw [fa_lt] at q z
      exact (fa_eq _ _).mpr (by omega)
theorem gone_eq {cr ch cr2 ch2 : Nat → Int32} {g : Int32} : ∀ {n : Nat}, (∀ j, j < n → cr j = cr2 j ∧ ch j = ch2 j ∧ 0 ≤ (cr2 j + ch2 j).toInt ∧ (cr2 j + ch2 j).toInt ≤ 200000) → gone cr ch g n = gon2 cr2 ch2 g n
  | 0, _ => rfl
  | n + 1, h => by
    unfold gone gon2
    obtain ⟨h1, h2, h3, h4⟩ := h n (by omega)
    rw [gone_eq (fun j hj => h j (by omega)), h1, h2]
    congr 1
    generalize cr2 n + ch2 n = x at *
    have t : (10000 : Int32).toInt = 10000 := rfl
    have z : (0 : Int32).toInt = 0 := rfl
    have e : (x - 10000).toInt = x.toInt - 10000 := by rw [fb_subI (by omega) (by omega), t]
    unfold mn4 mx2
    by_cases q : (10000 : Int32) < x
    · rw [if_pos q]
      rw [fa_lt] at q
      rw [if_pos (by rw [fa_lt]; omega)]
    · rw [if_neg q]
      rw [fa_lt] at q
      split
      · rename_i w; rw [fa_lt] at w; omega
      · simp
set_option maxHeartbeats 1000000 in
theorem Sim.drifts {S T : HS} (h : Sim S T) : Sim (mvS S) (drS T) := by
  obtain ⟨h1, h2, ⟨g0, gN, gC, gB, gP, gY, gL⟩, hN, hC, hB, hP, hY, hL, hT, hR⟩ := id h
  obtain ⟨n9, n10, n11, n12, n13, n14, n15, n16, n17, nw, ng, nz⟩ := id hN
  obtain ⟨r25, r26, r27, r24, r28, r29, r47⟩ := id gN
  have hw : nn (mI T 28) < 5 := by unfold nn; omega
  have ew : mI T 28 = nI (nn (mI T 28)) := (nI_nn r28.1).symm
  have e1 := chg_dcm (cr := sA S 2) (cr2 := mA T 0) (z := fillR (fun _ => 0) (sA S 4) 36) (z2 := fillR (fun _ => 0) (mA T 39) 36) hw (fun j hj => (hC j hj).1) (fun j hj => by rw [fillR_in hj, fillR_in hj]) 36 (Nat.le_refl _)
  have e2 := dcm_bd (cr := mA T 0) (z := fillR (fun _ => 0) (mA T 39) 36) hw (fun j hj => (gC j hj).1) (fun j hj => fillR_in hj) 36 (Nat.le_refl _)
  rw [← ew] at e1 e2
  have hsh : ShC (mvS S) := mvS_sh h1
  have msh : ShM (drS T) := drS_sh g0
  have vI : ∀ f, f ≠ fid 4 4 → ∀ a, sI (mvS S) f a = sI S f a := fun f hf a => mvS_I hf a
  have v4 : sI (mvS S) (fid 4 4) 1 = gone (sA S 2) (chg (sA S 2) (mI T 28) (fillR (fun _ => 0) (sA S 4) 36) 36) (mI T 33) 36 := by
    unfold mvS
    rw [sI_setIe, nw, ng]
  have vA : ∀ t, t ≠ 2 → t ≠ 4 → sA (mvS S) t = sA S t := fun t q2 q4 => by
    unfold mvS
    rw [sA_setI, sA_setn q2, sA_setn q4]
  have v2 : sA (mvS S) 2 = fillR (fun j => mn4 ((sA S 2) j + (chg (sA S 2) (mI T 28) (fillR (fun _ => 0) (sA S 4) 36) 36) j)) (sA S 2) 36 := by
    unfold mvS
    rw [sA_setI, sA_set, nw]
  have vQ : sQ (mvS S) = sQ S := rfl
  have mi : ∀ k, k ≠ 33 → mI (drS T) k = mI T k := fun k hk => drS_I (by unfold fid; omega)
  have m33 : mI (drS T) 33 = gon2 (mA T 0) (dcm (mA T 0) (mI T 28) (fillR (fun _ => 0) (mA T 39) 36) 36) (mI T 33) 36 := by
    show sI (drS T) (fid 9 33) 2000 = _
    unfold drS
    rw [sI_setA, sI_setIe]
  have mm : ∀ k, k ≠ 39 → k ≠ 0 → mA (drS T) k = mA T k := fun k q1 q2 => drS_A ⟨by unfold ma; omega, by unfold ma; omega⟩
  have m0 : mA (drS T) 0 = fillR (fun j => mnA (mA T 0 j + dcm (mA T 0) (mI T 28) (fillR (fun _ => 0) (mA T 39) 36) 36 j)) (mA T 0) 36 := by
    show sA (drS T) (ma 0) = _
    unfold drS
    rw [sA_set]
  generalize mvS S = S2 at *
  generalize drS T = T2 at *
  generalize chg (sA S 2) (mI T 28) (fillR (fun _ => 0) (sA S 4) 36) 36 = ch at *
  generalize dcm (mA T 0) (mI T 28) (fillR (fun _ => 0) (mA T 39) 36) 36 = dc at *
  have hx : ∀ j, j < 36 → 0 ≤ (mA T 0 j + dc j).toInt ∧ (mA T 0 j + dc j).toInt ≤ 200000 := fun j hj => by
    have c := (gC j hj).1
    have e := e2 j hj
    rw [if_pos hj] at e
    rw [fb_addI (by omega) (by omega)]; omega
  refine ⟨hsh, fun t => by rw [vI _ (by decide)]; exact h2 t, ⟨msh, ?_, ?_, gB.cg (fun k _ _ => mm k (by omega) (by omega)) (mi 25 (by decide)) (mi 27 (by decide)), gP.cg (fun k _ _ => mm k (by omega) (by omega)) (mi 25 (by decide)), gY.cg (fun k _ _ => mm k (by omega) (by omega)) (mi 26 (by decide)), gL.cg (fun k _ _ => mm k (by omega) (by omega)) (mi 26 (by decide)) (mi 27 (by decide))⟩, ?_, ?_, hB.cg (fun i _ k _ _ => vI _ (by unfold fid; omega) _) (fun k _ _ => mm k (by omega) (by omega)) (mi 25 (by decide)), hP.cg (fun b _ => ⟨vA _ (by omega) (by omega), vA _ (by omega) (by omega)⟩) (fun k _ _ => mm k (by omega) (by omega)) (mi 25 (by decide)), hY.cg (fun b _ k _ _ => vI _ (by unfold fid; omega) _) (fun k _ _ => mm k (by omega) (by omega)) (mi 26 (by decide)), hL.cg (fun b _ k _ => vI _ (by unfold fid; omega) _) (fun k _ _ => mm k (by omega) (by omega)) (mi 27 (by decide)), hT.cg (vA 9 (by omega) (by omega)) (mm 43 (by omega) (by omega)) (mi 47 (by decide)), hR.cg (by rw [vQ]) (fun b _ => ⟨vA _ (by omega) (by omega), vI _ (by decide) _⟩) (mm 44 (by omega) (by omega)) (mm 46 (by omega) (by omega))⟩
  · unfold RgN
    rw [mi 25 (by decide), mi 26 (by decide), mi 27 (by decide), mi 24 (by decide), mi 28 (by decide), mi 29 (by decide), mi 47 (by decide)]
    exact gN
  · intro j hj
    rw [m0, fillR_in hj, mm 1 (by decide) (by decide)]
    refine ⟨?_, (gC j hj).2⟩
    have x := hx j hj
    have t : (10000 : Int32).toInt = 10000 := rfl
    unfold mnA
    split
    · rename_i q; rw [fa_lt] at q; omega
    · omega
  · unfold SmN
    rw [mi 25 (by decide), mi 26 (by decide), mi 27 (by decide), mi 24 (by decide), mi 28 (by decide), mi 29 (by decide), mi 47 (by decide), mi 30 (by decide), mi 31 (by decide), mi 32 (by decide), mi 34 (by decide), vI (fid 4 3) (by decide), vI (fid 5 1) (by decide), v4, m33]
    refine ⟨?_, ?_, ?_, ?_, ?_, ?_, ?_, ?_, ?_, nw, gone_eq (fun j hj => ⟨(hC j hj).1, e1 j hj, hx j hj⟩), nz⟩ <;> (show sI S2 _ 0 = _) <;> rw [vI _ (by decide)] <;> assumption
  · intro j hj
    rw [v2, m0, fillR_in hj, fillR_in hj, (hC j hj).1, e1 j hj, mn_eq, vA 3 (by decide) (by decide), mm 1 (by decide) (by decide)]
    exact ⟨rfl, (hC j hj).2⟩
