/-! ===== a night ===== -/
set_option maxHeartbeats 1000000 in
theorem Sim.guts {S X : HS} {fr : Nat} (h : Sim S X) (hG : GH X fr) (hfr : fr ≤ nn (mI X 27)) (h0 : ∀ y, y < nn (mI X 26) → ∀ j, j < 6 → sA S (201 + 2 * y) j = 0) (hz : ∀ q, fr ≤ q → q < 400 → ∀ r, (r = 18 ∨ r = 19 ∨ r = 22 ∨ r = 23) → mA X r q = 0) : Sim (glS S fr (nn (mI X 27) - fr)) (wkA X fr (nn (mI X 26))) := by
  obtain ⟨h1, h2, ⟨g0, gN, gC, gB, gP, gY, gL⟩, hN, hC, hB, hP, hY, hL, hT, hR⟩ := id h
  obtain ⟨n9, n10, n11, n12, n13, n14, n15, n16, n17, nw, ng, nz⟩ := id hN
  obtain ⟨r25, r26, r27, r24, r28, r29, r47⟩ := id gN
  have hn4 : nn (mI X 26) ≤ 4 := by unfold nn; omega
  have hl4 : nn (mI X 27) ≤ 400 := by unfold nn; omega
  have hsh : ShC (glS S fr (nn (mI X 27) - fr)) := glS_sh h1 _
  have msh : ShM (wkA X fr (nn (mI X 26))) := wkA_sh g0 _
  obtain ⟨-, v2, -, ⟨v15, v16⟩, v6, v7⟩ := gl_v h hG h0 hz (nn (mI X 27) - fr) (by omega)
  have vO : ∀ f a, (f ≠ fid 2 7 ∧ f ≠ fid 2 8 ∧ f ≠ fid 2 9 ∧ f ≠ fid 2 10) → (f ≠ fid 8 15 ∧ f ≠ fid 8 16) → sI (glS S fr (nn (mI X 27) - fr)) f a = sI S f a := fun f a q1 q2 => glS_I q1 q2 _
  have v3 : ∀ f a, a < 1000 + fr ∨ 1000 + (fr + (nn (mI X 27) - fr)) ≤ a → f ≠ fid 8 15 → f ≠ fid 8 16 → sI (glS S fr (nn (mI X 27) - fr)) f a = sI S f a := (gl_v h hG h0 hz (nn (mI X 27) - fr) (by omega)).2.2.1
  obtain ⟨w1, w31, w32⟩ := wa_v hG hfr (fun q q1 q2 r hr => hz q q1 (by omega) r hr) hn4 (fun y hy => ((gY y (by omega)).2.1 hy).1.1) (nn (mI X 26)) (Nat.le_refl _)
  have wA : ∀ k, k ≠ 42 → k ≠ 18 → k ≠ 19 → k ≠ 22 → k ≠ 23 → mA (wkA X fr (nn (mI X 26))) k = mA X k := fun k q1 q2 q3 q4 q5 => wkA_A ⟨by unfold ma; omega, by unfold ma; omega, by unfold ma; omega, by unfold ma; omega, by unfold ma; omega⟩ _
  have wI : ∀ k, k ≠ 31 → k ≠ 32 → mI (wkA X fr (nn (mI X 26))) k = mI X k := fun k q1 q2 => wkA_I ⟨by unfold fid; omega, by unfold fid; omega⟩ _
  have yl : ∀ k, k < nn (mI X 27) - fr → nn (mA X 16 (fr + k)) < nn (mI X 26) := fun k hk => (nI_yard hG (by omega) (by omega)).2
  rw [l_sum_cg (g := fun k => (pres X fr k).2.1) (fun k hk => if_pos (yl k hk))] at w31
  rw [l_sum_cg (g := fun k => mA X 17 (fr + k) - (pres X fr k).2.1) (fun k hk => if_pos (yl k hk))] at w32
  generalize glS S fr (nn (mI X 27) - fr) = S2 at *
  generalize wkA X fr (nn (mI X 26)) = X2 at *
  refine ⟨hsh, fun t => by rw [vO _ _ (by decide) (by decide)]; exact h2 t, ⟨msh, ?_, gC.cg (fun k _ => wA k (by omega) (by omega) (by omega) (by omega) (by omega)), gB.cg (fun k _ _ => wA k (by omega) (by omega) (by omega) (by omega) (by omega)) (wI 25 (by decide) (by decide)) (wI 27 (by decide) (by decide)), gP.cg (fun k _ _ => wA k (by omega) (by omega) (by omega) (by omega) (by omega)) (wI 25 (by decide) (by decide)), gY.cg (fun k _ _ => wA k (by omega) (by omega) (by omega) (by omega) (by omega)) (wI 26 (by decide) (by decide)), ?_⟩, ?_, hC.cg (fun _ _ => by rw [v6 2 (by omega), v6 3 (by omega)]; exact ⟨rfl, rfl⟩) (fun k _ => wA k (by omega) (by omega) (by omega) (by omega) (by omega)), hB.cg (fun i _ k _ _ => vO _ _ ⟨by unfold fid; omega, by unfold fid; omega, by unfold fid; omega, by unfold fid; omega⟩ ⟨by unfold fid; omega, by unfold fid; omega⟩) (fun k _ _ => wA k (by omega) (by omega) (by omega) (by omega) (by omega)) (wI 25 (by decide) (by decide)), hP.cg (fun b _ => ⟨v6 _ (by omega), v6 _ (by omega)⟩) (fun k _ _ => wA k (by omega) (by omega) (by omega) (by omega) (by omega)) (wI 25 (by decide) (by decide)), hY.cg (fun i _ k _ _ => vO _ _ ⟨by unfold fid; omega, by unfold fid; omega, by unfold fid; omega, by unfold fid; omega⟩ ⟨by unfold fid; omega, by unfold fid; omega⟩) (fun k _ _ => wA k (by omega) (by omega) (by omega) (by omega) (by omega)) (wI 26 (by decide) (by decide)), ?_, hT.cg (v6 9 (by omega)) (wA 43 (by omega) (by omega) (by omega) (by omega) (by omega)) (wI 47 (by decide) (by decide)), hR.cg (by rw [v7]) (fun b _ => ⟨v6 _ (by omega), vO _ _ (by decide) (by decide)⟩) (wA 44 (by omega) (by omega) (by omega) (by omega) (by omega)) (wA 46 (by omega) (by omega) (by omega) (by omega) (by omega))⟩
  · unfold RgN
    rw [wI 25 (by decide) (by decide), wI 26 (by decide) (by decide), wI 27 (by decide) (by decide), wI 24 (by decide) (by decide), wI 28 (by decide) (by decide), wI 29 (by decide) (by decide), wI 47 (by decide) (by decide)]
    exact gN
  · intro q hq4
    have c := gL q hq4
    rw [wI 27 (by decide) (by decide), wI 26 (by decide) (by decide), wA 16 (by omega) (by omega) (by omega) (by omega) (by omega), wA 17 (by omega) (by omega) (by omega) (by omega) (by omega)]
    refine ⟨c.1, fun z => ?_⟩
    rw [w1 18 (by omega), w1 19 (by omega), w1 22 (by omega), w1 23 (by omega), if_neg (by omega), if_neg (by omega), if_neg (by omega), if_neg (by omega)]
    exact c.2 z
  · unfold SmN
    rw [wI 25 (by decide) (by decide), wI 26 (by decide) (by decide), wI 27 (by decide) (by decide), wI 24 (by decide) (by decide), wI 28 (by decide) (by decide), wI 29 (by decide) (by decide), wI 47 (by decide) (by decide), wI 30 (by decide) (by decide), wI 33 (by decide) (by decide), wI 34 (by decide) (by decide), w31, w32, v15, v16, n15, n16]
    exact ⟨(vO _ _ (by decide) (by decide)).trans n9, (vO _ _ (by decide) (by decide)).trans n10, (vO _ _ (by decide) (by decide)).trans n11, (vO _ _ (by decide) (by decide)).trans n12, (vO _ _ (by decide) (by decide)).trans n13, (vO _ _ (by decide) (by decide)).trans n14, rfl, rfl, (vO _ _ (by decide) (by decide)).trans n17, (vO _ _ (by decide) (by decide)).trans nw, (vO _ _ (by decide) (by decide)).trans ng, (vO _ _ (by decide) (by decide)).trans nz⟩
  · intro q hq4 hqn k hk
    rw [wI 27 (by decide) (by decide)] at hqn
    by_cases k7 : k < 7
    · have hlk : lr k ≠ 42 ∧ lr k ≠ 18 ∧ lr k ≠ 19 ∧ lr k ≠ 22 ∧ lr k ≠ 23 := (show ∀ k, k < 7 → lr k ≠ 42 ∧ lr k ≠ 18 ∧ lr k ≠ 19 ∧ lr k ≠ 22 ∧ lr k ≠ 23 by decide) k k7
      rw [wA (lr k) hlk.1 hlk.2.1 hlk.2.2.1 hlk.2.2.2.1 hlk.2.2.2.2, vO _ _ ⟨by unfold fid; omega, by unfold fid; omega, by unfold fid; omega, by unfold fid; omega⟩ ⟨by unfold fid; omega, by unfold fid; omega⟩]
      exact hL q hq4 hqn k hk
    · have hk4 : k = 7 ∨ k = 8 ∨ k = 9 ∨ k = 10 := by omega
      by_cases qf : fr ≤ q
      · have vv := v2 (q - fr) (by omega)
        rw [show fr + (q - fr) = q by omega] at vv
        have yy := (nI_yard hG qf hqn).2
        rcases hk4 with rfl | rfl | rfl | rfl
        · show _ = mA X2 18 q
          rw [w1 18 (by omega), if_pos ⟨qf, hqn, yy⟩, vv.1]; rfl
        · show _ = mA X2 19 q
          rw [w1 19 (by omega), if_pos ⟨qf, hqn, yy⟩, vv.2.1]
          show _ = mA X 17 (fr + (q - fr)) - _
          rw [show fr + (q - fr) = q by omega]
        · show _ = mA X2 22 q
          rw [w1 22 (by omega), if_pos ⟨qf, hqn, yy⟩, vv.2.2.1]; rfl
        · show _ = mA X2 23 q
          rw [w1 23 (by omega), if_pos ⟨qf, hqn, yy⟩, vv.2.2.2]; rfl
      · have hs := hL q hq4 hqn k hk
        rw [v3 _ _ (Or.inl (by omega)) (by unfold fid; omega) (by unfold fid; omega), hs]
        rcases hk4 with rfl | rfl | rfl | rfl
        · show mA X 18 q = mA X2 18 q
          rw [w1 18 (by omega), if_neg (fun z => qf z.1)]
        · show mA X 19 q = mA X2 19 q
          rw [w1 19 (by omega), if_neg (fun z => qf z.1)]
        · show mA X 22 q = mA X2 22 q
          rw [w1 22 (by omega), if_neg (fun z => qf z.1)]
        · show mA X 23 q = mA X2 23 q
          rw [w1 23 (by omega), if_neg (fun z => qf z.1)]
