/-! ===== a night, both sides ===== -/
set_option maxHeartbeats 1000000 in
theorem st_night {S T S2 T2 : HS} {g r1 r2 : Int32} (h : Sim S T) (h8 : (r1 = if (cI S 12).toInt < 300 then (heS g (n1S g S) 36).2 else -1) ∧ S2 = if (cI S 12).toInt < 300 then n5S g S else S) (h9 : (mI T 24 = 300 → r2 = -1 ∧ T2 = T) ∧ (¬ mI T 24 = 300 → ∃ r5 r6 r7 r8 ii, r2 = nI (nhM g (nm0 T) 36).2 ∧ smK (drS (nm2 g (scM (nhM g (nm0 T) 36).1 r5 r6 r7 r8) (nhM g (nm0 T) 36).2)) ii ∧ smX (smA (drS (nm2 g (scM (nhM g (nm0 T) 36).1 r5 r6 r7 r8) (nhM g (nm0 T) 36).2)) ii) = -1 ∧ T2 = setI (wkA (smA (drS (nm2 g (scM (nhM g (nm0 T) 36).1 r5 r6 r7 r8) (nhM g (nm0 T) 36).2)) ii) (nn (mI T 27)) (nn (mI T 26))) (fid 9 24) 2000 (mI (wkA (smA (drS (nm2 g (scM (nhM g (nm0 T) 36).1 r5 r6 r7 r8) (nhM g (nm0 T) 36).2)) ii) (nn (mI T 27)) (nn (mI T 26))) 24 + 1))) : r1 = r2 ∧ Sim S2 T2 := by
  obtain ⟨e8, s8⟩ := h8
  have n12 := h.n.2.2.2.1
  have r24 := h.rn.2.2.2.1
  have t300 : (300 : Int32).toInt = 300 := rfl
  by_cases q : mI T 24 = 300
  · obtain ⟨e9, s9⟩ := h9.1 q
    have q2 : ¬ (cI S 12).toInt < 300 := by rw [n12, q]; decide
    rw [if_neg q2] at e8 s8
    rw [e8, e9, s8, s9]
    exact ⟨rfl, h⟩
  · obtain ⟨r5, r6, r7, r8, ii, e9, hK, hX, s9⟩ := h9.2 q
    have q3 : (mI T 24).toInt < 300 := by
      have : ¬ (mI T 24).toInt = 300 := fun z => q ((fa_eq _ _).mpr z)
      omega
    have q2 : (cI S 12).toInt < 300 := by rw [n12]; exact q3
    rw [if_pos q2] at e8 s8
    obtain ⟨nb1, nb2, nb3⟩ := h.dawn g
    obtain ⟨k1, k2, k3, k4⟩ := nb1.hauls (g := g) nb3 36 (Nat.le_refl _)
    obtain ⟨c1, c2⟩ := nmS_nh (g := g) (X := nm0 T) 36 (Nat.le_refl _)
    have z3 : mA (nhM g (nmS g (nm0 T)) 36).1 3 = mA (nmS g (nm0 T)) 3 := nhM_A ⟨by decide, by decide, by decide⟩ 36
    have z11 : mA (nhM g (nmS g (nm0 T)) 36).1 11 = mA (nmS g (nm0 T)) 11 := nhM_A ⟨by decide, by decide, by decide⟩ 36
    have zI : ∀ k, mI (nhM g (nmS g (nm0 T)) 36).1 k = mI T k := fun k => by
      show sI _ _ _ = _
      rw [nhM_I, nmS_I]
      unfold nm0
      rw [sI_setA]
    have y7 : ∀ y, sI (heS g (n1S g S) 36).1 (fid 7 4) (200 + 2 * y) = sI (n1S g S) (fid 7 4) (200 + 2 * y) := fun y => heS_I2 (by decide) (by decide) _ 36
    have zn : ∀ k, mI (nmS g (nm0 T)) k = mI T k := fun k => by
      show sI (nmS g (nm0 T)) _ _ = _
      rw [nmS_I]
      unfold nm0
      rw [sI_setA]
    have en2 : n2S g S = setI (heS g (n1S g S) 36).1 (fid 8 14) 0 (sI (heS g (n1S g S) 36).1 (fid 8 14) 0 + (heS g (n1S g S) 36).2) := by unfold n2S; rfl
    have enm : nm2 g (scM (nhM g (nm0 T) 36).1 r5 r6 r7 r8) (nhM g (nm0 T) 36).2 = setI (scM (nhM g (nmS g (nm0 T)) 36).1 r5 r6 r7 r8) (fid 9 30) 2000 (mI (scM (nhM g (nmS g (nm0 T)) 36).1 r5 r6 r7 r8) 30 + nI (nhM g (nm0 T) 36).2) := by
      unfold nm2
      rw [nmS_sc, c1]
    rw [enm] at hK hX s9
    have er : r1 = r2 := by rw [e8, e9, k2, c2]
    refine ⟨er, ?_⟩
    rw [k2] at en2
    rw [← c2] at hK hX s9
    have hn5 : n5S g S = setI (glS (saA (mvS (n2S g S)) 11) (nn (cI S 11)) (nn (cI (saA (mvS (n2S g S)) 11) 11) - nn (cI S 11))) (fid 8 12) 0 (cI (glS (saA (mvS (n2S g S)) 11) (nn (cI S 11)) (nn (cI (saA (mvS (n2S g S)) 11) 11) - nn (cI S 11))) 12 + 1) := by unfold n5S n4S n3S; rfl
    rw [hn5] at s8
    generalize (nhM g (nmS g (nm0 T)) 36).2 = tt at *
    generalize (nhM g (nmS g (nm0 T)) 36).1 = X1 at *
    generalize (heS g (n1S g S) 36).1 = S1 at *
    -- behind the hauls: what was taken
    have hv : sI S1 (fid 8 14) 0 + nI tt = mI (scM X1 r5 r6 r7 r8) 30 + nI tt := by
      rw [scM_I]
      congr 1
      exact k1.n.2.2.2.2.2.1
    rw [hv] at en2
    have t1 : Sim (n2S g S) (setI (scM X1 r5 r6 r7 r8) (fid 9 30) 2000 (mI (scM X1 r5 r6 r7 r8) 30 + nI tt)) := by
      rw [en2]
      exact (k1.sM r5 r6 r7 r8).taken
    have d5 : ∀ k, k < 35 → mA (setI (scM X1 r5 r6 r7 r8) (fid 9 30) 2000 (mI (scM X1 r5 r6 r7 r8) 30 + nI tt)) k = mA X1 k := fun k hk => by
      show sA (setI (scM X1 r5 r6 r7 r8) (fid 9 30) 2000 (mI (scM X1 r5 r6 r7 r8) 30 + nI tt)) (ma k) = _
      rw [sA_setI]
      exact scM_A (Or.inl hk)
    have dI : ∀ k, k ≠ 30 → mI (setI (scM X1 r5 r6 r7 r8) (fid 9 30) 2000 (mI (scM X1 r5 r6 r7 r8) 30 + nI tt)) k = mI T k := fun k hk => (sI_setIn (Or.inl (by unfold fid; omega))).trans ((scM_I _ _ _ _ _ _).trans (zI k))
    have n7 : ∀ y, sI (n2S g S) (fid 7 4) (200 + 2 * y) = sI (n1S g S) (fid 7 4) (200 + 2 * y) := fun y => by
      rw [en2, sI_setIn (Or.inl (by decide))]; exact y7 y
    have nA : ∀ t, t ≠ 2 → t < 12 ∨ 14 < t → sA (n2S g S) t = sA (n1S g S) t := fun t t2 ht => by
      rw [en2, sA_setI]; exact k4 t t2 ht
    generalize setI (scM X1 r5 r6 r7 r8) (fid 9 30) 2000 (mI (scM X1 r5 r6 r7 r8) 30 + nI tt) = D0 at *
    -- the drift
    have t2 := t1.drifts
    have f5 : ∀ k, k < 35 → k ≠ 0 → mA (drS D0) k = mA X1 k := fun k hk h0 => (drS_A ⟨by unfold ma; omega, by unfold ma; omega⟩).trans (d5 k hk)
    have fI : ∀ k, k ≠ 30 → k ≠ 33 → mI (drS D0) k = mI T k := fun k hk h3 => (drS_I (by unfold fid; omega)).trans (dI k hk)
    have m7 : ∀ y, sI (mvS (n2S g S)) (fid 7 4) (200 + 2 * y) = sI (n1S g S) (fid 7 4) (200 + 2 * y) := fun y => (mvS_I (by decide) _).trans (n7 y)
    have mA2 : ∀ t, t ≠ 2 → t ≠ 4 → t < 12 ∨ 14 < t → sA (mvS (n2S g S)) t = sA (n1S g S) t := fun t t2 t4 ht => by
      unfold mvS
      rw [sA_setI, sA_setn t2, sA_setn t4]; exact nA t t2 ht
    generalize drS D0 = D at *
    generalize mvS (n2S g S) = M at *
    have e26 : mI D 26 = mI T 26 := fI 26 (by decide) (by decide)
    have e27 : mI D 27 = mI T 27 := fI 27 (by decide) (by decide)
    have e24 : mI D 24 = mI T 24 := fI 24 (by decide) (by decide)
    have gD := t2.2.2.1
    have hroom : ∀ y, y < nn (mI D 26) → sI M (fid 7 4) (200 + 2 * y) = mA D 11 y := fun y hy => by
      rw [m7, (nb2 y (by rw [zn, ← e26]; exact hy)).1, f5 11 (by decide) (by decide), z11]
    have hact : ∀ b, b < 12 → 0 < (mA D 5 b).toInt → 0 ≤ (mA D 3 b).toInt ∧ (mA D 3 b).toInt ≤ 35 := fun b hb hp => by
      have c := (gD.2.2.2.1 b hb).2.1
      refine ⟨?_, c.2⟩
      rcases Int.lt_or_le (mA D 3 b).toInt 0 with w | w
      · exfalso
        have := k3 b hb (Or.inr (by rw [← z3, ← f5 3 (by decide) (by decide)]; exact w))
        rw [f5 5 (by decide) (by decide), this] at hp
        exact absurd hp (by decide)
      · exact w
    obtain ⟨u1, u2, u3⟩ := t2.sells hroom hact hK.1 hX
    -- the gutting
    have l11 := saA_11 t2.1 11
    have cI9 : ∀ k, (k = 10 ∨ k = 12) → cI (saA M 11) k = cI M k := fun k hk => saA_I (by rcases hk with rfl | rfl <;> simp) 11
    have x26 : mI (smA D ii) 26 = mI T 26 := by rw [← u1.1.n.2.1, cI9 10 (Or.inl rfl), t2.n.2.1, e26]
    have x24 : mI (smA D ii) 24 = mI T 24 := by rw [← u1.1.n.2.2.2.1, cI9 12 (Or.inr rfl), t2.n.2.2.2.1, e24]
    rw [t2.n.2.2.1, u1.1.n.2.2.1, e27] at l11
    have efr : nn (cI S 11) = nn (mI T 27) := by rw [h.n.2.2.1]
    rw [e27] at u1
    have gX := u1.1.2.2.1
    have hGH : GH (smA D ii) (nn (mI T 27)) := ⟨gX.2.1.2.2.2.2.2.1, fun q q1 q2 => by
      have c := (gX.2.2.2.2.2.2 q (by have := gX.2.1.2.2.1; unfold nn at q2; omega)).1 q2
      exact ⟨u1.2.2 q q1 q2, c.2, c.1⟩⟩
    have hfr : nn (mI T 27) ≤ nn (mI (smA D ii) 27) := by unfold nn; omega
    have hzr : ∀ q, nn (mI T 27) ≤ q → q < 400 → ∀ r, (r = 18 ∨ r = 19 ∨ r = 22 ∨ r = 23) → mA (smA D ii) r q = 0 := fun q q1 q2 r hr => by
      have c := (gD.2.2.2.2.2.2 q q2).2 (by rw [e27]; exact q1)
      rcases hr with rfl | rfl | rfl | rfl
      · rw [u3.1]; exact c.1
      · rw [u3.2.1]; exact c.2.1
      · rw [u3.2.2.1]; exact c.2.2.1
      · rw [u3.2.2.2]; exact c.2.2.2
    have hfree : ∀ y, y < nn (mI (smA D ii) 26) → ∀ j, j < 6 → sA (saA M 11) (201 + 2 * y) j = 0 := fun y hy j hj => by
      rw [u2, mA2 _ (by omega) (by omega) (by omega)]
      exact (nb2 y (by rw [zn, ← x26]; exact hy)).2 j hj
    have t3 := u1.1.guts hGH hfr hfree hzr
    have e11 : nn (cI (saA M 11) 11) = nn (mI (smA D ii) 27) := by rw [u1.1.n.2.2.1]
    rw [efr, e11] at s8
    have y24 : mI (wkA (smA D ii) (nn (mI T 27)) (nn (mI T 26))) 24 = mI T 24 := (wkA_I (by decide) _).trans x24
    rw [x26] at t3
    generalize glS (saA M 11) (nn (mI T 27)) (nn (mI (smA D ii) 27) - nn (mI T 27)) = SF at *
    generalize wkA (smA D ii) (nn (mI T 27)) (nn (mI T 26)) = TF at *
    have e12 : cI SF 12 = mI TF 24 := t3.n.2.2.2.1
    rw [s8, s9, e12]
    have one : (1 : Int32).toInt = 1 := rfl
    exact t3.later (by rw [y24, fb_addI (by omega) (by omega)]; omega)
