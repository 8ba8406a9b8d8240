/-! ===== the sales of a boat, and their order ===== -/
set_option maxHeartbeats 1000000 in
theorem Sim.taken {S T : HS} {v : Int32} (h : Sim S T) : Sim (setI S (fid 8 14) 0 v) (setI T (fid 9 30) 2000 v) := by
  obtain ⟨h1, h2, ⟨g0, gN, gC, gB, gP, gY, gL⟩, hN, hC, hB, hP, hY, hL, hT, hR⟩ := id h
  obtain ⟨n9, n10, n11, n12, n13, n14, n15, n16, n17, nw, ng, nz⟩ := id hN
  obtain ⟨r25, r26, r27, r24, r28, r29, r47⟩ := id gN
  refine ⟨h1.same rfl rfl rfl (sI_setIn (Or.inl (by decide))) (sI_setIn (Or.inl (by decide))) (sI_setIn (Or.inl (by decide))), fun t => by rw [sI_setIn (Or.inl (by decide))]; exact h2 t, ⟨g0.setI _ _ _, ⟨by rw [show mI (setI T (fid 9 30) 2000 v) 25 = mI T 25 from sI_setIn (Or.inl (by decide))]; exact r25, by rw [show mI (setI T (fid 9 30) 2000 v) 26 = mI T 26 from sI_setIn (Or.inl (by decide))]; exact r26, by rw [show mI (setI T (fid 9 30) 2000 v) 27 = mI T 27 from sI_setIn (Or.inl (by decide))]; exact r27, by rw [show mI (setI T (fid 9 30) 2000 v) 24 = mI T 24 from sI_setIn (Or.inl (by decide))]; exact r24, by rw [show mI (setI T (fid 9 30) 2000 v) 28 = mI T 28 from sI_setIn (Or.inl (by decide))]; exact r28, by rw [show mI (setI T (fid 9 30) 2000 v) 29 = mI T 29 from sI_setIn (Or.inl (by decide))]; exact r29, by rw [show mI (setI T (fid 9 30) 2000 v) 47 = mI T 47 from sI_setIn (Or.inl (by decide))]; exact r47⟩, gC.cg (by intros; (try apply And.intro) <;> (try simp only [cI, mI, mA, sI_setI, sI_setA, sA_setI, sA_setA, sQ_setI, sQ_setA, up2, va_up, ma, fid]) <;> (first | rfl | ((repeat rw [if_neg (by omega)]) <;> rfl))), gB.cg (by intros; (try apply And.intro) <;> (try simp only [cI, mI, mA, sI_setI, sI_setA, sA_setI, sA_setA, sQ_setI, sQ_setA, up2, va_up, ma, fid]) <;> (first | rfl | ((repeat rw [if_neg (by omega)]) <;> rfl))) (by intros; (try apply And.intro) <;> (try simp only [cI, mI, mA, sI_setI, sI_setA, sA_setI, sA_setA, sQ_setI, sQ_setA, up2, va_up, ma, fid]) <;> (first | rfl | ((repeat rw [if_neg (by omega)]) <;> rfl))) (by intros; (try apply And.intro) <;> (try simp only [cI, mI, mA, sI_setI, sI_setA, sA_setI, sA_setA, sQ_setI, sQ_setA, up2, va_up, ma, fid]) <;> (first | rfl | ((repeat rw [if_neg (by omega)]) <;> rfl))), gP.cg (by intros; (try apply And.intro) <;> (try simp only [cI, mI, mA, sI_setI, sI_setA, sA_setI, sA_setA, sQ_setI, sQ_setA, up2, va_up, ma, fid]) <;> (first | rfl | ((repeat rw [if_neg (by omega)]) <;> rfl))) (by intros; (try apply And.intro) <;> (try simp only [cI, mI, mA, sI_setI, sI_setA, sA_setI, sA_setA, sQ_setI, sQ_setA, up2, va_up, ma, fid]) <;> (first | rfl | ((repeat rw [if_neg (by omega)]) <;> rfl))), gY.cg (by intros; (try apply And.intro) <;> (try simp only [cI, mI, mA, sI_setI, sI_setA, sA_setI, sA_setA, sQ_setI, sQ_setA, up2, va_up, ma, fid]) <;> (first | rfl | ((repeat rw [if_neg (by omega)]) <;> rfl))) (by intros; (try apply And.intro) <;> (try simp only [cI, mI, mA, sI_setI, sI_setA, sA_setI, sA_setA, sQ_setI, sQ_setA, up2, va_up, ma, fid]) <;> (first | rfl | ((repeat rw [if_neg (by omega)]) <;> rfl))), gL.cg (by intros; (try apply And.intro) <;> (try simp only [cI, mI, mA, sI_setI, sI_setA, sA_setI, sA_setA, sQ_setI, sQ_setA, up2, va_up, ma, fid]) <;> (first | rfl | ((repeat rw [if_neg (by omega)]) <;> rfl))) (by intros; (try apply And.intro) <;> (try simp only [cI, mI, mA, sI_setI, sI_setA, sA_setI, sA_setA, sQ_setI, sQ_setA, up2, va_up, ma, fid]) <;> (first | rfl | ((repeat rw [if_neg (by omega)]) <;> rfl))) (by intros; (try apply And.intro) <;> (try simp only [cI, mI, mA, sI_setI, sI_setA, sA_setI, sA_setA, sQ_setI, sQ_setA, up2, va_up, ma, fid]) <;> (first | rfl | ((repeat rw [if_neg (by omega)]) <;> rfl)))⟩, ⟨(sI_setIn (by decide)).trans (n9.trans (sI_setIn (Or.inl (by decide))).symm), (sI_setIn (by decide)).trans (n10.trans (sI_setIn (Or.inl (by decide))).symm), (sI_setIn (by decide)).trans (n11.trans (sI_setIn (Or.inl (by decide))).symm), (sI_setIn (by decide)).trans (n12.trans (sI_setIn (Or.inl (by decide))).symm), (sI_setIn (by decide)).trans (n13.trans (sI_setIn (Or.inl (by decide))).symm), (sI_setIe _ _ _ _).trans (sI_setIe _ _ _ _).symm, (sI_setIn (by decide)).trans (n15.trans (sI_setIn (Or.inl (by decide))).symm), (sI_setIn (by decide)).trans (n16.trans (sI_setIn (Or.inl (by decide))).symm), (sI_setIn (by decide)).trans (n17.trans (sI_setIn (Or.inl (by decide))).symm), (sI_setIn (by decide)).trans (nw.trans (sI_setIn (Or.inl (by decide))).symm), (sI_setIn (by decide)).trans (ng.trans (sI_setIn (Or.inl (by decide))).symm), (sI_setIn (by decide)).trans (nz.trans (sI_setIn (Or.inl (by decide))).symm)⟩, hC.cg (by intros; (try apply And.intro) <;> (try simp only [cI, mI, mA, sI_setI, sI_setA, sA_setI, sA_setA, sQ_setI, sQ_setA, up2, va_up, ma, fid]) <;> (first | rfl | ((repeat rw [if_neg (by omega)]) <;> rfl))) (by intros; (try apply And.intro) <;> (try simp only [cI, mI, mA, sI_setI, sI_setA, sA_setI, sA_setA, sQ_setI, sQ_setA, up2, va_up, ma, fid]) <;> (first | rfl | ((repeat rw [if_neg (by omega)]) <;> rfl))), hB.cg (by intros; (try apply And.intro) <;> (try simp only [cI, mI, mA, sI_setI, sI_setA, sA_setI, sA_setA, sQ_setI, sQ_setA, up2, va_up, ma, fid]) <;> (first | rfl | ((repeat rw [if_neg (by omega)]) <;> rfl))) (by intros; (try apply And.intro) <;> (try simp only [cI, mI, mA, sI_setI, sI_setA, sA_setI, sA_setA, sQ_setI, sQ_setA, up2, va_up, ma, fid]) <;> (first | rfl | ((repeat rw [if_neg (by omega)]) <;> rfl))) (by intros; (try apply And.intro) <;> (try simp only [cI, mI, mA, sI_setI, sI_setA, sA_setI, sA_setA, sQ_setI, sQ_setA, up2, va_up, ma, fid]) <;> (first | rfl | ((repeat rw [if_neg (by omega)]) <;> rfl))), hP.cg (by intros; (try apply And.intro) <;> (try simp only [cI, mI, mA, sI_setI, sI_setA, sA_setI, sA_setA, sQ_setI, sQ_setA, up2, va_up, ma, fid]) <;> (first | rfl | ((repeat rw [if_neg (by omega)]) <;> rfl))) (by intros; (try apply And.intro) <;> (try simp only [cI, mI, mA, sI_setI, sI_setA, sA_setI, sA_setA, sQ_setI, sQ_setA, up2, va_up, ma, fid]) <;> (first | rfl | ((repeat rw [if_neg (by omega)]) <;> rfl))) (by intros; (try apply And.intro) <;> (try simp only [cI, mI, mA, sI_setI, sI_setA, sA_setI, sA_setA, sQ_setI, sQ_setA, up2, va_up, ma, fid]) <;> (first | rfl | ((repeat rw [if_neg (by omega)]) <;> rfl))), hY.cg (by intros; (try apply And.intro) <;> (try simp only [cI, mI, mA, sI_setI, sI_setA, sA_setI, sA_setA, sQ_setI, sQ_setA, up2, va_up, ma, fid]) <;> (first | rfl | ((repeat rw [if_neg (by omega)]) <;> rfl))) (by intros; (try apply And.intro) <;> (try simp only [cI, mI, mA, sI_setI, sI_setA, sA_setI, sA_setA, sQ_setI, sQ_setA, up2, va_up, ma, fid]) <;> (first | rfl | ((repeat rw [if_neg (by omega)]) <;> rfl))) (by intros; (try apply And.intro) <;> (try simp only [cI, mI, mA, sI_setI, sI_setA, sA_setI, sA_setA, sQ_setI, sQ_setA, up2, va_up, ma, fid]) <;> (first | rfl | ((repeat rw [if_neg (by omega)]) <;> rfl))), hL.cg (by intros; (try apply And.intro) <;> (try simp only [cI, mI, mA, sI_setI, sI_setA, sA_setI, sA_setA, sQ_setI, sQ_setA, up2, va_up, ma, fid]) <;> (first | rfl | ((repeat rw [if_neg (by omega)]) <;> rfl))) (by intros; (try apply And.intro) <;> (try simp only [cI, mI, mA, sI_setI, sI_setA, sA_setI, sA_setA, sQ_setI, sQ_setA, up2, va_up, ma, fid]) <;> (first | rfl | ((repeat rw [if_neg (by omega)]) <;> rfl))) (by intros; (try apply And.intro) <;> (try simp only [cI, mI, mA, sI_setI, sI_setA, sA_setI, sA_setA, sQ_setI, sQ_setA, up2, va_up, ma, fid]) <;> (first | rfl | ((repeat rw [if_neg (by omega)]) <;> rfl))), hT.cg (by intros; (try apply And.intro) <;> (try simp only [cI, mI, mA, sI_setI, sI_setA, sA_setI, sA_setA, sQ_setI, sQ_setA, up2, va_up, ma, fid]) <;> (first | rfl | ((repeat rw [if_neg (by omega)]) <;> rfl))) (by intros; (try apply And.intro) <;> (try simp only [cI, mI, mA, sI_setI, sI_setA, sA_setI, sA_setA, sQ_setI, sQ_setA, up2, va_up, ma, fid]) <;> (first | rfl | ((repeat rw [if_neg (by omega)]) <;> rfl))) (by intros; (try apply And.intro) <;> (try simp only [cI, mI, mA, sI_setI, sI_setA, sA_setI, sA_setA, sQ_setI, sQ_setA, up2, va_up, ma, fid]) <;> (first | rfl | ((repeat rw [if_neg (by omega)]) <;> rfl))), hR.cg (by intros; (try apply And.intro) <;> (try simp only [cI, mI, mA, sI_setI, sI_setA, sA_setI, sA_setA, sQ_setI, sQ_setA, up2, va_up, ma, fid]) <;> (first | rfl | ((repeat rw [if_neg (by omega)]) <;> rfl))) (by intros; (try apply And.intro) <;> (try simp only [cI, mI, mA, sI_setI, sI_setA, sA_setI, sA_setA, sQ_setI, sQ_setA, up2, va_up, ma, fid]) <;> (first | rfl | ((repeat rw [if_neg (by omega)]) <;> rfl))) (by intros; (try apply And.intro) <;> (try simp only [cI, mI, mA, sI_setI, sI_setA, sA_setI, sA_setA, sQ_setI, sQ_setA, up2, va_up, ma, fid]) <;> (first | rfl | ((repeat rw [if_neg (by omega)]) <;> rfl))) (by intros; (try apply And.intro) <;> (try simp only [cI, mI, mA, sI_setI, sI_setA, sA_setI, sA_setA, sQ_setI, sQ_setA, up2, va_up, ma, fid]) <;> (first | rfl | ((repeat rw [if_neg (by omega)]) <;> rfl)))⟩
set_option maxHeartbeats 1000000 in
theorem Sim.thrown {S T : HS} {v : Int32} (h : Sim S T) : Sim (setI S (fid 8 17) 0 v) (setI T (fid 9 34) 2000 v) := by
  obtain ⟨h1, h2, ⟨g0, gN, gC, gB, gP, gY, gL⟩, hN, hC, hB, hP, hY, hL, hT, hR⟩ := id h
  obtain ⟨n9, n10, n11, n12, n13, n14, n15, n16, n17, nw, ng, nz⟩ := id hN
  obtain ⟨r25, r26, r27, r24, r28, r29, r47⟩ := id gN
  refine ⟨h1.same rfl rfl rfl (sI_setIn (Or.inl (by decide))) (sI_setIn (Or.inl (by decide))) (sI_setIn (Or.inl (by decide))), fun t => by rw [sI_setIn (Or.inl (by decide))]; exact h2 t, ⟨g0.setI _ _ _, ⟨by rw [show mI (setI T (fid 9 34) 2000 v) 25 = mI T 25 from sI_setIn (Or.inl (by decide))]; exact r25, by rw [show mI (setI T (fid 9 34) 2000 v) 26 = mI T 26 from sI_setIn (Or.inl (by decide))]; exact r26, by rw [show mI (setI T (fid 9 34) 2000 v) 27 = mI T 27 from sI_setIn (Or.inl (by decide))]; exact r27, by rw [show mI (setI T (fid 9 34) 2000 v) 24 = mI T 24 from sI_setIn (Or.inl (by decide))]; exact r24, by rw [show mI (setI T (fid 9 34) 2000 v) 28 = mI T 28 from sI_setIn (Or.inl (by decide))]; exact r28, by rw [show mI (setI T (fid 9 34) 2000 v) 29 = mI T 29 from sI_setIn (Or.inl (by decide))]; exact r29, by rw [show mI (setI T (fid 9 34) 2000 v) 47 = mI T 47 from sI_setIn (Or.inl (by decide))]; exact r47⟩, gC.cg (by intros; (try apply And.intro) <;> (try simp only [cI, mI, mA, sI_setI, sI_setA, sA_setI, sA_setA, sQ_setI, sQ_setA, up2, va_up, ma, fid]) <;> (first | rfl | ((repeat rw [if_neg (by omega)]) <;> rfl))), gB.cg (by intros; (try apply And.intro) <;> (try simp only [cI, mI, mA, sI_setI, sI_setA, sA_setI, sA_setA, sQ_setI, sQ_setA, up2, va_up, ma, fid]) <;> (first | rfl | ((repeat rw [if_neg (by omega)]) <;> rfl))) (by intros; (try apply And.intro) <;> (try simp only [cI, mI, mA, sI_setI, sI_setA, sA_setI, sA_setA, sQ_setI, sQ_setA, up2, va_up, ma, fid]) <;> (first | rfl | ((repeat rw [if_neg (by omega)]) <;> rfl))) (by intros; (try apply And.intro) <;> (try simp only [cI, mI, mA, sI_setI, sI_setA, sA_setI, sA_setA, sQ_setI, sQ_setA, up2, va_up, ma, fid]) <;> (first | rfl | ((repeat rw [if_neg (by omega)]) <;> rfl))), gP.cg (by intros; (try apply And.intro) <;> (try simp only [cI, mI, mA, sI_setI, sI_setA, sA_setI, sA_setA, sQ_setI, sQ_setA, up2, va_up, ma, fid]) <;> (first | rfl | ((repeat rw [if_neg (by omega)]) <;> rfl))) (by intros; (try apply And.intro) <;> (try simp only [cI, mI, mA, sI_setI, sI_setA, sA_setI, sA_setA, sQ_setI, sQ_setA, up2, va_up, ma, fid]) <;> (first | rfl | ((repeat rw [if_neg (by omega)]) <;> rfl))), gY.cg (by intros; (try apply And.intro) <;> (try simp only [cI, mI, mA, sI_setI, sI_setA, sA_setI, sA_setA, sQ_setI, sQ_setA, up2, va_up, ma, fid]) <;> (first | rfl | ((repeat rw [if_neg (by omega)]) <;> rfl))) (by intros; (try apply And.intro) <;> (try simp only [cI, mI, mA, sI_setI, sI_setA, sA_setI, sA_setA, sQ_setI, sQ_setA, up2, va_up, ma, fid]) <;> (first | rfl | ((repeat rw [if_neg (by omega)]) <;> rfl))), gL.cg (by intros; (try apply And.intro) <;> (try simp only [cI, mI, mA, sI_setI, sI_setA, sA_setI, sA_setA, sQ_setI, sQ_setA, up2, va_up, ma, fid]) <;> (first | rfl | ((repeat rw [if_neg (by omega)]) <;> rfl))) (by intros; (try apply And.intro) <;> (try simp only [cI, mI, mA, sI_setI, sI_setA, sA_setI, sA_setA, sQ_setI, sQ_setA, up2, va_up, ma, fid]) <;> (first | rfl | ((repeat rw [if_neg (by omega)]) <;> rfl))) (by intros; (try apply And.intro) <;> (try simp only [cI, mI, mA, sI_setI, sI_setA, sA_setI, sA_setA, sQ_setI, sQ_setA, up2, va_up, ma, fid]) <;> (first | rfl | ((repeat rw [if_neg (by omega)]) <;> rfl)))⟩, ⟨(sI_setIn (by decide)).trans (n9.trans (sI_setIn (Or.inl (by decide))).symm), (sI_setIn (by decide)).trans (n10.trans (sI_setIn (Or.inl (by decide))).symm), (sI_setIn (by decide)).trans (n11.trans (sI_setIn (Or.inl (by decide))).symm), (sI_setIn (by decide)).trans (n12.trans (sI_setIn (Or.inl (by decide))).symm), (sI_setIn (by decide)).trans (n13.trans (sI_setIn (Or.inl (by decide))).symm), (sI_setIn (by decide)).trans (n14.trans (sI_setIn (Or.inl (by decide))).symm), (sI_setIn (by decide)).trans (n15.trans (sI_setIn (Or.inl (by decide))).symm), (sI_setIn (by decide)).trans (n16.trans (sI_setIn (Or.inl (by decide))).symm), (sI_setIe _ _ _ _).trans (sI_setIe _ _ _ _).symm, (sI_setIn (by decide)).trans (nw.trans (sI_setIn (Or.inl (by decide))).symm), (sI_setIn (by decide)).trans (ng.trans (sI_setIn (Or.inl (by decide))).symm), (sI_setIn (by decide)).trans (nz.trans (sI_setIn (Or.inl (by decide))).symm)⟩, hC.cg (by intros; (try apply And.intro) <;> (try simp only [cI, mI, mA, sI_setI, sI_setA, sA_setI, sA_setA, sQ_setI, sQ_setA, up2, va_up, ma, fid]) <;> (first | rfl | ((repeat rw [if_neg (by omega)]) <;> rfl))) (by intros; (try apply And.intro) <;> (try simp only [cI, mI, mA, sI_setI, sI_setA, sA_setI, sA_setA, sQ_setI, sQ_setA, up2, va_up, ma, fid]) <;> (first | rfl | ((repeat rw [if_neg (by omega)]) <;> rfl))), hB.cg (by intros; (try apply And.intro) <;> (try simp only [cI, mI, mA, sI_setI, sI_setA, sA_setI, sA_setA, sQ_setI, sQ_setA, up2, va_up, ma, fid]) <;> (first | rfl | ((repeat rw [if_neg (by omega)]) <;> rfl))) (by intros; (try apply And.intro) <;> (try simp only [cI, mI, mA, sI_setI, sI_setA, sA_setI, sA_setA, sQ_setI, sQ_setA, up2, va_up, ma, fid]) <;> (first | rfl | ((repeat rw [if_neg (by omega)]) <;> rfl))) (by intros; (try apply And.intro) <;> (try simp only [cI, mI, mA, sI_setI, sI_setA, sA_setI, sA_setA, sQ_setI, sQ_setA, up2, va_up, ma, fid]) <;> (first | rfl | ((repeat rw [if_neg (by omega)]) <;> rfl))), hP.cg (by intros; (try apply And.intro) <;> (try simp only [cI, mI, mA, sI_setI, sI_setA, sA_setI, sA_setA, sQ_setI, sQ_setA, up2, va_up, ma, fid]) <;> (first | rfl | ((repeat rw [if_neg (by omega)]) <;> rfl))) (by intros; (try apply And.intro) <;> (try simp only [cI, mI, mA, sI_setI, sI_setA, sA_setI, sA_setA, sQ_setI, sQ_setA, up2, va_up, ma, fid]) <;> (first | rfl | ((repeat rw [if_neg (by omega)]) <;> rfl))) (by intros; (try apply And.intro) <;> (try simp only [cI, mI, mA, sI_setI, sI_setA, sA_setI, sA_setA, sQ_setI, sQ_setA, up2, va_up, ma, fid]) <;> (first | rfl | ((repeat rw [if_neg (by omega)]) <;> rfl))), hY.cg (by intros; (try apply And.intro) <;> (try simp only [cI, mI, mA, sI_setI, sI_setA, sA_setI, sA_setA, sQ_setI, sQ_setA, up2, va_up, ma, fid]) <;> (first | rfl | ((repeat rw [if_neg (by omega)]) <;> rfl))) (by intros; (try apply And.intro) <;> (try simp only [cI, mI, mA, sI_setI, sI_setA, sA_setI, sA_setA, sQ_setI, sQ_setA, up2, va_up, ma, fid]) <;> (first | rfl | ((repeat rw [if_neg (by omega)]) <;> rfl))) (by intros; (try apply And.intro) <;> (try simp only [cI, mI, mA, sI_setI, sI_setA, sA_setI, sA_setA, sQ_setI, sQ_setA, up2, va_up, ma, fid]) <;> (first | rfl | ((repeat rw [if_neg (by omega)]) <;> rfl))), hL.cg (by intros; (try apply And.intro) <;> (try simp only [cI, mI, mA, sI_setI, sI_setA, sA_setI, sA_setA, sQ_setI, sQ_setA, up2, va_up, ma, fid]) <;> (first | rfl | ((repeat rw [if_neg (by omega)]) <;> rfl))) (by intros; (try apply And.intro) <;> (try simp only [cI, mI, mA, sI_setI, sI_setA, sA_setI, sA_setA, sQ_setI, sQ_setA, up2, va_up, ma, fid]) <;> (first | rfl | ((repeat rw [if_neg (by omega)]) <;> rfl))) (by intros; (try apply And.intro) <;> (try simp only [cI, mI, mA, sI_setI, sI_setA, sA_setI, sA_setA, sQ_setI, sQ_setA, up2, va_up, ma, fid]) <;> (first | rfl | ((repeat rw [if_neg (by omega)]) <;> rfl))), hT.cg (by intros; (try apply And.intro) <;> (try simp only [cI, mI, mA, sI_setI, sI_setA, sA_setI, sA_setA, sQ_setI, sQ_setA, up2, va_up, ma, fid]) <;> (first | rfl | ((repeat rw [if_neg (by omega)]) <;> rfl))) (by intros; (try apply And.intro) <;> (try simp only [cI, mI, mA, sI_setI, sI_setA, sA_setI, sA_setA, sQ_setI, sQ_setA, up2, va_up, ma, fid]) <;> (first | rfl | ((repeat rw [if_neg (by omega)]) <;> rfl))) (by intros; (try apply And.intro) <;> (try simp only [cI, mI, mA, sI_setI, sI_setA, sA_setI, sA_setA, sQ_setI, sQ_setA, up2, va_up, ma, fid]) <;> (first | rfl | ((repeat rw [if_neg (by omega)]) <;> rfl))), hR.cg (by intros; (try apply And.intro) <;> (try simp only [cI, mI, mA, sI_setI, sI_setA, sA_setI, sA_setA, sQ_setI, sQ_setA, up2, va_up, ma, fid]) <;> (first | rfl | ((repeat rw [if_neg (by omega)]) <;> rfl))) (by intros; (try apply And.intro) <;> (try simp only [cI, mI, mA, sI_setI, sI_setA, sA_setI, sA_setA, sQ_setI, sQ_setA, up2, va_up, ma, fid]) <;> (first | rfl | ((repeat rw [if_neg (by omega)]) <;> rfl))) (by intros; (try apply And.intro) <;> (try simp only [cI, mI, mA, sI_setI, sI_setA, sA_setI, sA_setA, sQ_setI, sQ_setA, up2, va_up, ma, fid]) <;> (first | rfl | ((repeat rw [if_neg (by omega)]) <;> rfl))) (by intros; (try apply And.intro) <;> (try simp only [cI, mI, mA, sI_setI, sI_setA, sA_setI, sA_setA, sQ_setI, sQ_setA, up2, va_up, ma, fid]) <;> (first | rfl | ((repeat rw [if_neg (by omega)]) <;> rfl)))⟩
set_option maxHeartbeats 1000000 in
theorem Sim.later {S T : HS} {v : Int32} (h : Sim S T) (hv : 0 ≤ v.toInt ∧ v.toInt ≤ 300) : Sim (setI S (fid 8 12) 0 v) (setI T (fid 9 24) 2000 v) := by
  obtain ⟨h1, h2, ⟨g0, gN, gC, gB, gP, gY, gL⟩, hN, hC, hB, hP, hY, hL, hT, hR⟩ := id h
  obtain ⟨n9, n10, n11, n12, n13, n14, n15, n16, n17, nw, ng, nz⟩ := id hN
  obtain ⟨r25, r26, r27, r24, r28, r29, r47⟩ := id gN
  refine ⟨h1.same rfl rfl rfl (sI_setIn (Or.inl (by decide))) (sI_setIn (Or.inl (by decide))) (sI_setIn (Or.inl (by decide))), fun t => by rw [sI_setIn (Or.inl (by decide))]; exact h2 t, ⟨g0.setI _ _ _, ⟨by rw [show mI (setI T (fid 9 24) 2000 v) 25 = mI T 25 from sI_setIn (Or.inl (by decide))]; exact r25, by rw [show mI (setI T (fid 9 24) 2000 v) 26 = mI T 26 from sI_setIn (Or.inl (by decide))]; exact r26, by rw [show mI (setI T (fid 9 24) 2000 v) 27 = mI T 27 from sI_setIn (Or.inl (by decide))]; exact r27, by rw [show mI (setI T (fid 9 24) 2000 v) 24 = v from sI_setIe _ _ _ _]; exact hv, by rw [show mI (setI T (fid 9 24) 2000 v) 28 = mI T 28 from sI_setIn (Or.inl (by decide))]; exact r28, by rw [show mI (setI T (fid 9 24) 2000 v) 29 = mI T 29 from sI_setIn (Or.inl (by decide))]; exact r29, by rw [show mI (setI T (fid 9 24) 2000 v) 47 = mI T 47 from sI_setIn (Or.inl (by decide))]; exact r47⟩, gC.cg (by intros; (try apply And.intro) <;> (try simp only [cI, mI, mA, sI_setI, sI_setA, sA_setI, sA_setA, sQ_setI, sQ_setA, up2, va_up, ma, fid]) <;> (first | rfl | ((repeat rw [if_neg (by omega)]) <;> rfl))), gB.cg (by intros; (try apply And.intro) <;> (try simp only [cI, mI, mA, sI_setI, sI_setA, sA_setI, sA_setA, sQ_setI, sQ_setA, up2, va_up, ma, fid]) <;> (first | rfl | ((repeat rw [if_neg (by omega)]) <;> rfl))) (by intros; (try apply And.intro) <;> (try simp only [cI, mI, mA, sI_setI, sI_setA, sA_setI, sA_setA, sQ_setI, sQ_setA, up2, va_up, ma, fid]) <;> (first | rfl | ((repeat rw [if_neg (by omega)]) <;> rfl))) (by intros; (try apply And.intro) <;> (try simp only [cI, mI, mA, sI_setI, sI_setA, sA_setI, sA_setA, sQ_setI, sQ_setA, up2, va_up, ma, fid]) <;> (first | rfl | ((repeat rw [if_neg (by omega)]) <;> rfl))), gP.cg (by intros; (try apply And.intro) <;> (try simp only [cI, mI, mA, sI_setI, sI_setA, sA_setI, sA_setA, sQ_setI, sQ_setA, up2, va_up, ma, fid]) <;> (first | rfl | ((repeat rw [if_neg (by omega)]) <;> rfl))) (by intros; (try apply And.intro) <;> (try simp only [cI, mI, mA, sI_setI, sI_setA, sA_setI, sA_setA, sQ_setI, sQ_setA, up2, va_up, ma, fid]) <;> (first | rfl | ((repeat rw [if_neg (by omega)]) <;> rfl))), gY.cg (by intros; (try apply And.intro) <;> (try simp only [cI, mI, mA, sI_setI, sI_setA, sA_setI, sA_setA, sQ_setI, sQ_setA, up2, va_up, ma, fid]) <;> (first | rfl | ((repeat rw [if_neg (by omega)]) <;> rfl))) (by intros; (try apply And.intro) <;> (try simp only [cI, mI, mA, sI_setI, sI_setA, sA_setI, sA_setA, sQ_setI, sQ_setA, up2, va_up, ma, fid]) <;> (first | rfl | ((repeat rw [if_neg (by omega)]) <;> rfl))), gL.cg (by intros; (try apply And.intro) <;> (try simp only [cI, mI, mA, sI_setI, sI_setA, sA_setI, sA_setA, sQ_setI, sQ_setA, up2, va_up, ma, fid]) <;> (first | rfl | ((repeat rw [if_neg (by omega)]) <;> rfl))) (by intros; (try apply And.intro) <;> (try simp only [cI, mI, mA, sI_setI, sI_setA, sA_setI, sA_setA, sQ_setI, sQ_setA, up2, va_up, ma, fid]) <;> (first | rfl | ((repeat rw [if_neg (by omega)]) <;> rfl))) (by intros; (try apply And.intro) <;> (try simp only [cI, mI, mA, sI_setI, sI_setA, sA_setI, sA_setA, sQ_setI, sQ_setA, up2, va_up, ma, fid]) <;> (first | rfl | ((repeat rw [if_neg (by omega)]) <;> rfl)))⟩, ⟨(sI_setIn (by decide)).trans (n9.trans (sI_setIn (Or.inl (by decide))).symm), (sI_setIn (by decide)).trans (n10.trans (sI_setIn (Or.inl (by decide))).symm), (sI_setIn (by decide)).trans (n11.trans (sI_setIn (Or.inl (by decide))).symm), (sI_setIe _ _ _ _).trans (sI_setIe _ _ _ _).symm, (sI_setIn (by decide)).trans (n13.trans (sI_setIn (Or.inl (by decide))).symm), (sI_setIn (by decide)).trans (n14.trans (sI_setIn (Or.inl (by decide))).symm), (sI_setIn (by decide)).trans (n15.trans (sI_setIn (Or.inl (by decide))).symm), (sI_setIn (by decide)).trans (n16.trans (sI_setIn (Or.inl (by decide))).symm), (sI_setIn (by decide)).trans (n17.trans (sI_setIn (Or.inl (by decide))).symm), (sI_setIn (by decide)).trans (nw.trans (sI_setIn (Or.inl (by decide))).symm), (sI_setIn (by decide)).trans (ng.trans (sI_setIn (Or.inl (by decide))).symm), (sI_setIn (by decide)).trans (nz.trans (sI_setIn (Or.inl (by decide))).symm)⟩, hC.cg (by intros; (try apply And.intro) <;> (try simp only [cI, mI, mA, sI_setI, sI_setA, sA_setI, sA_setA, sQ_setI, sQ_setA, up2, va_up, ma, fid]) <;> (first | rfl | ((repeat rw [if_neg (by omega)]) <;> rfl))) (by intros; (try apply And.intro) <;> (try simp only [cI, mI, mA, sI_setI, sI_setA, sA_setI, sA_setA, sQ_setI, sQ_setA, up2, va_up, ma, fid]) <;> (first | rfl | ((repeat rw [if_neg (by omega)]) <;> rfl))), hB.cg (by intros; (try apply And.intro) <;> (try simp only [cI, mI, mA, sI_setI, sI_setA, sA_setI, sA_setA, sQ_setI, sQ_setA, up2, va_up, ma, fid]) <;> (first | rfl | ((repeat rw [if_neg (by omega)]) <;> rfl))) (by intros; (try apply And.intro) <;> (try simp only [cI, mI, mA, sI_setI, sI_setA, sA_setI, sA_setA, sQ_setI, sQ_setA, up2, va_up, ma, fid]) <;> (first | rfl | ((repeat rw [if_neg (by omega)]) <;> rfl))) (by intros; (try apply And.intro) <;> (try simp only [cI, mI, mA, sI_setI, sI_setA, sA_setI, sA_setA, sQ_setI, sQ_setA, up2, va_up, ma, fid]) <;> (first | rfl | ((repeat rw [if_neg (by omega)]) <;> rfl))), hP.cg (by intros; (try apply And.intro) <;> (try simp only [cI, mI, mA, sI_setI, sI_setA, sA_setI, sA_setA, sQ_setI, sQ_setA, up2, va_up, ma, fid]) <;> (first | rfl | ((repeat rw [if_neg (by omega)]) <;> rfl))) (by intros; (try apply And.intro) <;> (try simp only [cI, mI, mA, sI_setI, sI_setA, sA_setI, sA_setA, sQ_setI, sQ_setA, up2, va_up, ma, fid]) <;> (first | rfl | ((repeat rw [if_neg (by omega)]) <;> rfl))) (by intros; (try apply And.intro) <;> (try simp only [cI, mI, mA, sI_setI, sI_setA, sA_setI, sA_setA, sQ_setI, sQ_setA, up2, va_up, ma, fid]) <;> (first | rfl | ((repeat rw [if_neg (by omega)]) <;> rfl))), hY.cg (by intros; (try apply And.intro) <;> (try simp only [cI, mI, mA, sI_setI, sI_setA, sA_setI, sA_setA, sQ_setI, sQ_setA, up2, va_up, ma, fid]) <;> (first | rfl | ((repeat rw [if_neg (by omega)]) <;> rfl))) (by intros; (try apply And.intro) <;> (try simp only [cI, mI, mA, sI_setI, sI_setA, sA_setI, sA_setA, sQ_setI, sQ_setA, up2, va_up, ma, fid]) <;> (first | rfl | ((repeat rw [if_neg (by omega)]) <;> rfl))) (by intros; (try apply And.intro) <;> (try simp only [cI, mI, mA, sI_setI, sI_setA, sA_setI, sA_setA, sQ_setI, sQ_setA, up2, va_up, ma, fid]) <;> (first | rfl | ((repeat rw [if_neg (by omega)]) <;> rfl))), hL.cg (by intros; (try apply And.intro) <;> (try simp only [cI, mI, mA, sI_setI, sI_setA, sA_setI, sA_setA, sQ_setI, sQ_setA, up2, va_up, ma, fid]) <;> (first | rfl | ((repeat rw [if_neg (by omega)]) <;> rfl))) (by intros; (try apply And.intro) <;> (try simp only [cI, mI, mA, sI_setI, sI_setA, sA_setI, sA_setA, sQ_setI, sQ_setA, up2, va_up, ma, fid]) <;> (first | rfl | ((repeat rw [if_neg (by omega)]) <;> rfl))) (by intros; (try apply And.intro) <;> (try simp only [cI, mI, mA, sI_setI, sI_setA, sA_setI, sA_setA, sQ_setI, sQ_setA, up2, va_up, ma, fid]) <;> (first | rfl | ((repeat rw [if_neg (by omega)]) <;> rfl))), hT.cg (by intros; (try apply And.intro) <;> (try simp only [cI, mI, mA, sI_setI, sI_setA, sA_setI, sA_setA, sQ_setI, sQ_setA, up2, va_up, ma, fid]) <;> (first | rfl | ((repeat rw [if_neg (by omega)]) <;> rfl))) (by intros; (try apply And.intro) <;> (try simp only [cI, mI, mA, sI_setI, sI_setA, sA_setI, sA_setA, sQ_setI, sQ_setA, up2, va_up, ma, fid]) <;> (first | rfl | ((repeat rw [if_neg (by omega)]) <;> rfl))) (by intros; (try apply And.intro) <;> (try simp only [cI, mI, mA, sI_setI, sI_setA, sA_setI, sA_setA, sQ_setI, sQ_setA, up2, va_up, ma, fid]) <;> (first | rfl | ((repeat rw [if_neg (by omega)]) <;> rfl))), hR.cg (by intros; (try apply And.intro) <;> (try simp only [cI, mI, mA, sI_setI, sI_setA, sA_setI, sA_setA, sQ_setI, sQ_setA, up2, va_up, ma, fid]) <;> (first | rfl | ((repeat rw [if_neg (by omega)]) <;> rfl))) (by intros; (try apply And.intro) <;> (try simp only [cI, mI, mA, sI_setI, sI_setA, sA_setI, sA_setA, sQ_setI, sQ_setA, up2, va_up, ma, fid]) <;> (first | rfl | ((repeat rw [if_neg (by omega)]) <;> rfl))) (by intros; (try apply And.intro) <;> (try simp only [cI, mI, mA, sI_setI, sI_setA, sA_setI, sA_setA, sQ_setI, sQ_setA, up2, va_up, ma, fid]) <;> (first | rfl | ((repeat rw [if_neg (by omega)]) <;> rfl))) (by intros; (try apply And.intro) <;> (try simp only [cI, mI, mA, sI_setI, sI_setA, sA_setI, sA_setA, sQ_setI, sQ_setA, up2, va_up, ma, fid]) <;> (first | rfl | ((repeat rw [if_neg (by omega)]) <;> rfl)))⟩
theorem runF_sim {α β : Type} {c : α → Bool} {f : α → α} {d : β → Bool} {g : β → β} {R : α → β → Prop} (hc : ∀ s t, R s t → (c s = true ↔ d t = true)) (hf : ∀ s t, R s t → d t = true → R (f s) (g t)) : ∀ n s t, R s t → R (runF c f n s) (runF d g n t)
  | 0, _, _, h => h
  | n + 1, s, t, h => by
    unfold runF
    by_cases q : d t = true
    · rw [if_pos ((hc s t h).mpr q), if_pos q]
      exact runF_sim hc hf n _ _ (hf s t h q)
    · rw [if_neg (fun z => q ((hc s t h).mp z)), if_neg q]
      exact h
/-- what a boat's sales leave as it was -/
def FX (X Y : HS) : Prop := mA Y 3 = mA X 3 ∧ mA Y 5 = mA X 5 ∧ mI Y 25 = mI X 25 ∧ mA Y 41 = mA X 41 ∧ mA Y 18 = mA X 18 ∧ mA Y 19 = mA X 19 ∧ mA Y 22 = mA X 22 ∧ mA Y 23 = mA X 23
theorem FX.sell {X Y : HS} {b : Nat} {x : Int32} (h : FX X Y) : FX X (smH b Y x) := by
  obtain ⟨h1, h2, h3, h4, h5, h6, h7, h8⟩ := h
  have e : ∀ k, k ≠ 40 → k ≠ 6 → (k < 13 ∨ 21 < k ∨ k = 18 ∨ k = 19) → mA (smH b Y x) k = mA Y k := fun k q1 q2 q3 => sellS_A ⟨by unfold ma; omega, by unfold ma; omega, by unfold ma; omega, by unfold ma; omega, by unfold ma; omega, by unfold ma; omega, by unfold ma; omega, by unfold ma; omega, by unfold ma; omega⟩
  have e25 : mI (smH b Y x) 25 = mI Y 25 := sellS_I (by decide) _
  exact ⟨(e 3 (by decide) (by decide) (by decide)).trans h1, (e 5 (by decide) (by decide) (by decide)).trans h2, e25.trans h3, (e 41 (by decide) (by decide) (by decide)).trans h4, (e 18 (by decide) (by decide) (by decide)).trans h5, (e 19 (by decide) (by decide) (by decide)).trans h6, (e 22 (by decide) (by decide) (by decide)).trans h7, (e 23 (by decide) (by decide) (by decide)).trans h8⟩
theorem slH_A {S : HS} {b : Nat} {m x : Int32} : sA (slH S b m x) = sA S := by
  unfold slH
  rw [sA_setI, sA_setI, newL_A]
theorem SR.sales {fr : Nat} {S X : HS} {b : Nat} {m : Int32} (h : SR fr S X) (hb12 : b < 12) (hb : b < nn (mI X 25)) (hm : m = minF (mA X 3 b)) (hm2 : 30 ≤ m.toInt ∧ m.toInt ≤ 330) : SR fr (slF b m S) (smF b X) ∧ FX (sold1 X b) (smF b X) ∧ sA (slF b m S) = sA S := by
  have e5 : sI S (fid 0 5) (100 + 3 * b) = mA X 5 b := h.1.2.2.2.2.2.1 b hb12 hb 5 (by omega) (by omega)
  have h0 : SR fr S (sold1 X b) := by
    have e : ∀ k, k ≠ 41 → mA (sold1 X b) k = mA X k := fun k hk => sA_setn (by unfold ma; omega)
    refine ⟨h.1.row (Or.inl (by decide)) _, fun y hy => ?_, fun q q1 q2 => ?_⟩
    · rw [e 40 (by decide)]; exact h.2.1 y hy
    · rw [e 20 (by decide)]; exact h.2.2 q q1 q2
  have key := runF_sim (c := slB) (f := fun p : HS × Int32 => (slH p.1 b m p.2, p.2 - slN p.1 p.2)) (d := smB) (g := fun p : HS × Int32 => (smH b p.1 p.2, p.2 - smN p.1 p.2)) (R := fun p p2 : HS × Int32 => SR fr p.1 p2.1 ∧ p.2 = p2.2 ∧ FX (sold1 X b) p2.1 ∧ sA p.1 = sA S)
    (fun s t q => by rw [slB_iff, smB_iff, q.2.1]; exact slC_iff q.1 _)
    (fun s t q hd => by
      obtain ⟨q1, q2, q3, q4⟩ := q
      have e3 : mA t.1 3 = mA X 3 := q3.1.trans (sA_setn (by decide))
      have e25 : mI t.1 25 = mI X 25 := q3.2.2.1
      have z := SR.sell (b := b) (m := m) (x := t.2) q1 hb12 (by rw [e25]; exact hb) (by rw [e3]; exact hm) hm2 (smB_iff.mp hd)
      dsimp only
      rw [q2]
      exact ⟨z.1, by rw [z.2], q3.sell, slH_A.trans q4⟩)
    4 (S, mA X 5 b) (sold1 X b, mA X 5 b) ⟨h0, rfl, ⟨rfl, rfl, rfl, rfl, rfl, rfl, rfl, rfl⟩, rfl⟩
  have k8 : slR b m S = runF slB (fun p : HS × Int32 => (slH p.1 b m p.2, p.2 - slN p.1 p.2)) 4 (S, mA X 5 b) := by
    unfold slR; rw [e5]
  have k9 : smR b X = runF smB (fun p : HS × Int32 => (smH b p.1 p.2, p.2 - smN p.1 p.2)) 4 (sold1 X b, mA X 5 b) := rfl
  rw [← k8, ← k9] at key
  obtain ⟨z1, z2, z3, z4⟩ := key
  unfold slF smF
  generalize smR b X = P at *
  generalize slR b m S = Q at *
  have ev : sI Q.1 (fid 8 17) 0 + Q.2 = mI P.1 34 + P.2 := by rw [z2]; congr 1; exact z1.1.n.2.2.2.2.2.2.2.2.1
  rw [ev]
  refine ⟨⟨z1.1.thrown, fun y hy => ?_, fun q q1 q2 => ?_⟩, ?_, by rw [sA_setI]; exact z4⟩
  · have e26 : mI (setI P.1 (fid 9 34) 2000 (mI P.1 34 + P.2)) 26 = mI P.1 26 := sI_setIn (Or.inl (by decide))
    rw [e26] at hy
    rw [sI_setIn (Or.inl (by decide))]
    exact z1.2.1 y hy
  · have e27 : mI (setI P.1 (fid 9 34) 2000 (mI P.1 34 + P.2)) 27 = mI P.1 27 := sI_setIn (Or.inl (by decide))
    rw [e27] at q2
    exact z1.2.2 q q1 q2
  · obtain ⟨f1, f2, f3, f4⟩ := z3
    exact ⟨f1, f2, (sI_setIn (Or.inl (by decide))).trans f3, f4⟩
/-! the order -/
def stp (c : Int32) : Nat := nn c % 6 + nn c / 6
theorem stp_all : ∀ k, k < 36 → stepsF (nI k) = nI (k % 6 + k / 6) ∧ minF (nI k) = nI (30 * (k % 6 + k / 6 + 1)) ∧ k % 6 + k / 6 ≤ 10 := by decide +kernel
theorem stp_at {c : Int32} (h : 0 ≤ c.toInt ∧ c.toInt ≤ 35) : stepsF c = nI (stp c) ∧ minF c = nI (30 * (stp c + 1)) ∧ stp c ≤ 10 := by
  have := stp_all (nn c) (by unfold nn; omega)
  rw [nI_nn h.1] at this
  exact this
theorem nI_inj {a b : Nat} (ha : a < 2 ^ 31) (hb : b < 2 ^ 31) (h : nI a = nI b) : a = b := by
  have := congrArg Int32.toInt h
  rw [nI_toInt ha, nI_toInt hb] at this
  omega
theorem nbF_min {sd tn ce : Nat → Int32} : ∀ n, n ≤ 12 → ∀ j, j < n → nbF sd tn ce n = nI j → ∀ k, k < n → (sd k = 0 ∧ 0 < (tn k).toInt) → (minF (ce j)).toInt ≤ (minF (ce k)).toInt ∧ (k < j → (minF (ce j)).toInt < (minF (ce k)).toInt)
  | 0, _, j, hj, _ => absurd hj (Nat.not_lt_zero _)
  | n + 1, hn, j, hj, he => by
    intro k hk hak
    unfold nbF at he
    have sp := nbF_spec (sd := sd) (tn := tn) (ce := ce) n
    by_cases c : (sd n = 0 ∧ 0 < (tn n).toInt) ∧ (nbF sd tn ce n = -1 ∨ (minF (ce n)).toInt < (minF (ce (nbF sd tn ce n).toNatClampNeg)).toInt)
    · rw [if_pos c] at he
      have ej : n = j := nI_inj (by omega) (by omega) he
      subst ej
      by_cases ek : k = n
      · subst ek; exact ⟨Int.le_refl _, fun z => absurd z (Nat.lt_irrefl _)⟩
      · rcases sp with ⟨s1, s2⟩ | ⟨i, s1, s2, s3, s4⟩
        · exact absurd hak (s2 k (by omega))
        · have := (nbF_min n (by omega) i s1 s2 k (by omega) hak).1
          have c2 := c.2.resolve_left (by rw [s2]; exact nI_nm (by omega))
          rw [s2, nI_clamp (by omega)] at c2
          exact ⟨by omega, fun _ => by omega⟩
    · rw [if_neg c] at he
      rcases sp with ⟨s1, s2⟩ | ⟨i, s1, s2, s3, s4⟩
      · rw [s1] at he; exact absurd he.symm (nI_nm (by omega))
      · have ej : i = j := nI_inj (by omega) (by omega) (s2.symm.trans he)
        subst ej
        by_cases ek : k = n
        · subst ek
          have c2 : ¬ (nbF sd tn ce k = -1 ∨ (minF (ce k)).toInt < (minF (ce (nbF sd tn ce k).toNatClampNeg)).toInt) := fun z => c ⟨hak, z⟩
          rw [s2, nI_clamp (by omega)] at c2
          have c3 : ¬ (minF (ce k)).toInt < (minF (ce i)).toInt := fun z => c2 (Or.inr z)
          exact ⟨by omega, fun z => by omega⟩
        · exact nbF_min n (by omega) i s1 s2 k (by omega) hak
/-- who has sold when all keys below K are through -/
def flg (D : HS) (K b : Nat) : Int32 := if 0 < (mA D 5 b).toInt ∧ 12 * stp (mA D 3 b) + b < K then 1 else 0
def OrdC (fr : Nat) (D S0 : HS) (K : Nat) (S : HS) : Prop := sA S = sA S0 ∧ ∃ i, SR fr S (smA D i) ∧ (∀ j, j < i → ¬ smX (smA D j) = -1) ∧ (mA (smA D i) 3 = mA D 3 ∧ mA (smA D i) 5 = mA D 5 ∧ mI (smA D i) 25 = mI D 25 ∧ mA (smA D i) 18 = mA D 18 ∧ mA (smA D i) 19 = mA D 19 ∧ mA (smA D i) 22 = mA D 22 ∧ mA (smA D i) 23 = mA D 23) ∧ ∀ b, b < nn (mI D 25) → mA (smA D i) 41 b = flg D K b
theorem OrdC.step {fr : Nat} {D S0 S : HS} {s b : Nat} (hn12 : nn (mI D 25) ≤ 12) (hact : ∀ b, b < 12 → 0 < (mA D 5 b).toInt → 0 ≤ (mA D 3 b).toInt ∧ (mA D 3 b).toInt ≤ 35) (hb : b < nn (mI D 25)) (hs : s ≤ 10) (h : OrdC fr D S0 (12 * s + b) S) : OrdC fr D S0 (12 * s + b + 1) (@ite _ (saC S s b) (saD S s b) (slF b (30 * (nI s + 1)) S) S) := by
  obtain ⟨hA, i, h1, h2, ⟨f3, f5, f25, f18, f19, f22, f23⟩, h4⟩ := h
  have hb12 : b < 12 := by omega
  have e5 : sI S (fid 0 5) (100 + 3 * b) = mA D 5 b := (h1.1.2.2.2.2.2.1 b hb12 (by rw [f25]; exact hb) 5 (by omega) (by omega)).trans (by rw [f5])
  have e3 : sI S (fid 0 3) (100 + 3 * b) = mA D 3 b := (h1.1.2.2.2.2.2.1 b hb12 (by rw [f25]; exact hb) 3 (by omega) (by omega)).trans (by rw [f3])
  have hcd : saC S s b ↔ (0 < (mA D 5 b).toInt ∧ stp (mA D 3 b) = s) := by
    unfold saC
    rw [e5, e3]
    refine ⟨fun z => ⟨z.1, ?_⟩, fun z => ⟨z.1, ?_⟩⟩
    · have c := stp_at (hact b hb12 z.1)
      exact nI_inj (by omega) (by omega) (c.1.symm.trans z.2)
    · rw [(stp_at (hact b hb12 z.1)).1, z.2]
  by_cases q : saC S s b
  · rw [if_pos q]
    obtain ⟨q1, q2⟩ := hcd.mp q
    have cst := stp_at (hact b hb12 q1)
    have em : (30 : Int32) * (nI s + 1) = minF (mA D 3 b) := by
      rw [cst.2.1, q2, nI_1]
      exact (Int32.ofNat_mul 30 (s + 1)).symm
    have hz := SR.sales (b := b) (m := 30 * (nI s + 1)) h1 hb12 (by rw [f25]; exact hb) (by rw [f3]; exact em) (by rw [em, cst.2.1, nI_toInt (by omega)]; omega)
    -- the next boat is b
    have hx : smX (smA D i) = nI b := by
      unfold smX
      rw [f3, f5, f25]
      have hab : mA (smA D i) 41 b = 0 ∧ 0 < (mA D 5 b).toInt := ⟨by rw [h4 b hb]; unfold flg; rw [if_neg (by omega)], q1⟩
      rcases nbF_spec (sd := mA (smA D i) 41) (tn := mA D 5) (ce := mA D 3) (nn (mI D 25)) with ⟨s1, s2⟩ | ⟨j, s1, s2, s3, s4⟩
      · exact absurd hab (s2 b hb)
      · have mn := nbF_min (sd := mA (smA D i) 41) (tn := mA D 5) (ce := mA D 3) (nn (mI D 25)) hn12 j s1 s2 b hb hab
        have cj := stp_at (hact j (by omega) s4)
        have kj : ¬ 12 * stp (mA D 3 j) + j < 12 * s + b := fun z => by
          have := h4 j s1
          rw [s3] at this
          unfold flg at this
          rw [if_pos ⟨s4, z⟩] at this
          exact absurd this (by decide)
        rw [cj.2.1, cst.2.1, nI_toInt (by omega), nI_toInt (by omega)] at mn
        have : j = b := by
          rcases Nat.lt_trichotomy j b with w | w | w
          · omega
          · exact w
          · have := mn.2 w; omega
        rw [s2, this]
    refine ⟨hz.2.2.trans hA, i + 1, ?_⟩
    have es : smA D (i + 1) = smF b (smA D i) := by
      show smF (nn (smX (smA D i))) (smA D i) = _
      rw [hx, nn_nI (by omega)]
    rw [es]
    obtain ⟨y3, y5, y25, y41, y18, y19, y22, y23⟩ := hz.2.1
    have w : ∀ k, k ≠ 41 → mA (sold1 (smA D i) b) k = mA (smA D i) k := fun k hk => sA_setn (by unfold ma; omega)
    refine ⟨hz.1, fun j hj => ?_, ⟨(y3.trans (w 3 (by decide))).trans f3, (y5.trans (w 5 (by decide))).trans f5, y25.trans f25, (y18.trans (w 18 (by decide))).trans f18, (y19.trans (w 19 (by decide))).trans f19, (y22.trans (w 22 (by decide))).trans f22, (y23.trans (w 23 (by decide))).trans f23⟩, fun c hc => ?_⟩
    · rcases Nat.lt_succ_iff_lt_or_eq.mp hj with z | z
      · exact h2 j z
      · rw [z, hx]; exact nI_nm (by omega)
    · rw [y41, show mA (sold1 (smA D i) b) 41 = upd (mA (smA D i) 41) b 1 from sA_set _ _ _]
      by_cases e : c = b
      · rw [e, pk_us]; unfold flg; rw [if_pos ⟨q1, by omega⟩]
      · rw [pk_un e, h4 c hc]
        unfold flg
        by_cases z : 0 < (mA D 5 c).toInt ∧ 12 * stp (mA D 3 c) + c < 12 * s + b
        · rw [if_pos z, if_pos ⟨z.1, by omega⟩]
        · rw [if_neg z, if_neg (fun y => z ⟨y.1, by have := y.2; omega⟩)]
  · rw [if_neg q]
    refine ⟨hA, i, h1, h2, ⟨f3, f5, f25, f18, f19, f22, f23⟩, fun c hc => ?_⟩
    rw [h4 c hc]
    unfold flg
    by_cases z : 0 < (mA D 5 c).toInt ∧ 12 * stp (mA D 3 c) + c < 12 * s + b
    · rw [if_pos z, if_pos ⟨z.1, by omega⟩]
    · rw [if_neg z, if_neg]
      intro y
      have y2 := y.2
      have : 12 * stp (mA D 3 c) + c = 12 * s + b := by
        have : ¬ 12 * stp (mA D 3 c) + c < 12 * s + b := fun w => z ⟨y.1, w⟩
        omega
      have ecb : c = b ∧ stp (mA D 3 c) = s := by omega
      obtain ⟨ec, es⟩ := ecb
      subst ec
      exact q (hcd.mpr ⟨y.1, es⟩)
theorem OrdC.row {fr : Nat} {D S0 S : HS} {s : Nat} (hn12 : nn (mI D 25) ≤ 12) (hact : ∀ b, b < 12 → 0 < (mA D 5 b).toInt → 0 ≤ (mA D 3 b).toInt ∧ (mA D 3 b).toInt ≤ 35) (hs : s ≤ 10) (h : OrdC fr D S0 (12 * s) S) : ∀ b, b ≤ nn (mI D 25) → OrdC fr D S0 (12 * s + b) (saB s S b)
  | 0, _ => h
  | b + 1, hb => OrdC.step hn12 hact (by omega) hs (OrdC.row hn12 hact hs h b (by omega))
theorem OrdC.all {fr : Nat} {D S : HS} (hn12 : nn (mI D 25) ≤ 12) (e9 : nn (cI S 9) = nn (mI D 25)) (hact : ∀ b, b < 12 → 0 < (mA D 5 b).toInt → 0 ≤ (mA D 3 b).toInt ∧ (mA D 3 b).toInt ≤ 35) (h : OrdC fr D S 0 S) : ∀ s, s ≤ 11 → OrdC fr D S (12 * s) (saA S s)
  | 0, _ => h
  | s + 1, hs => by
    have ih := OrdC.all hn12 e9 hact h s (by omega)
    obtain ⟨k1, i, k2, k3, k4, k5⟩ := OrdC.row hn12 hact (by omega) ih (nn (mI D 25)) (Nat.le_refl _)
    rw [← e9] at k1 k2
    refine ⟨k1, i, k2, k3, k4, fun b hb => ?_⟩
    rw [k5 b hb]
    unfold flg
    by_cases z : 0 < (mA D 5 b).toInt ∧ 12 * stp (mA D 3 b) + b < 12 * s + nn (mI D 25)
    · rw [if_pos z, if_pos ⟨z.1, by omega⟩]
    · rw [if_neg z, if_neg (fun y => z ⟨y.1, by have := y.2; omega⟩)]
/-- all sales of a night -/
theorem Sim.sells {S D : HS} (h : Sim S D) (hr : ∀ y, y < nn (mI D 26) → sI S (fid 7 4) (200 + 2 * y) = mA D 11 y) (hact : ∀ b, b < 12 → 0 < (mA D 5 b).toInt → 0 ≤ (mA D 3 b).toInt ∧ (mA D 3 b).toInt ≤ 35) {ii : Nat} (hK : ∀ j, j < ii → ¬ smX (smA D j) = -1) (hX : smX (smA D ii) = -1) : SR (nn (mI D 27)) (saA S 11) (smA D ii) ∧ sA (saA S 11) = sA S ∧ (mA (smA D ii) 18 = mA D 18 ∧ mA (smA D ii) 19 = mA D 19 ∧ mA (smA D ii) 22 = mA D 22 ∧ mA (smA D ii) 23 = mA D 23) := by
  have r25 := h.rn.1
  have r26 := h.rn.2.1
  have hn12 : nn (mI D 25) ≤ 12 := by unfold nn; omega
  have hn4 : nn (mI D 26) ≤ 4 := by unfold nn; omega
  have gY := h.2.2.1.2.2.2.2.2.1
  have w : ∀ k, k ≠ 40 → k ≠ 41 → mA (smL D) k = mA D k := fun k q1 q2 => (sA_setn (by unfold ma; omega)).trans (sA_setn (by unfold ma; omega))
  have w40 : mA (smL D) 40 = fillR (mA D 11) (mA D 40) (nn (mI D 26)) := (sA_setn (by decide)).trans (sA_set _ _ _)
  have w41 : mA (smL D) 41 = fillR (fun _ => 0) (mA D 41) (nn (mI D 25)) := sA_set _ _ _
  have h0 : OrdC (nn (mI D 27)) D S 0 S := by
    refine ⟨rfl, 0, ⟨(h.row (Or.inl (by decide)) _).row (Or.inl (by decide)) _, fun y hy => ?_, fun q q1 q2 => ?_⟩, fun j hj => absurd hj (Nat.not_lt_zero _), ⟨w 3 (by decide) (by decide), w 5 (by decide) (by decide), rfl, w 18 (by decide) (by decide), w 19 (by decide) (by decide), w 22 (by decide) (by decide), w 23 (by decide) (by decide)⟩, fun b hb => ?_⟩
    · have hy : y < nn (mI D 26) := hy
      show _ = mA (smL D) 40 y ∧ 0 ≤ (mA (smL D) 40 y).toInt ∧ (mA (smL D) 40 y).toInt ≤ 500
      rw [w40, fillR_in hy]
      have := ((gY y (by omega)).2.1 hy).2
      exact ⟨hr y hy, by omega, by omega⟩
    · have q2 : q < nn (mI D 27) := q2
      omega
    · show mA (smL D) 41 b = _
      rw [w41, fillR_in hb]
      unfold flg
      rw [if_neg (by omega)]
  obtain ⟨k1, i, k2, k3, k4, k5⟩ := OrdC.all hn12 (by rw [h.n.1]) hact h0 11 (by decide)
  have hxi : smX (smA D i) = -1 := by
    unfold smX
    rcases nbF_spec (sd := mA (smA D i) 41) (tn := mA (smA D i) 5) (ce := mA (smA D i) 3) (nn (mI (smA D i) 25)) with ⟨s1, -⟩ | ⟨j, s1, s2, s3, s4⟩
    · exact s1
    · exfalso
      rw [k4.2.2.1] at s1
      rw [k4.2.1] at s4
      have := k5 j s1
      rw [s3] at this
      unfold flg at this
      have cj := stp_at (hact j (by omega) s4)
      rw [if_pos ⟨s4, by omega⟩] at this
      exact absurd this (by decide)
  have ei : i = ii := by
    rcases Nat.lt_trichotomy i ii with z | z | z
    · exact absurd hxi (hK i z)
    · exact z
    · exact absurd hX (k3 ii z)
  subst ei
  exact ⟨k2, k1, k4.2.2.2⟩
