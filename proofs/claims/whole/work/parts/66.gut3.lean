/-! ===== gutting: the system's lots, the reference's yards ===== -/
theorem nI_yard {X : HS} {fr : Nat} (h : GH X fr) {q : Nat} (h1 : fr ≤ q) (h2 : q < nn (mI X 27)) : nI (nn (mA X 16 q)) = mA X 16 q ∧ nn (mA X 16 q) < nn (mI X 26) := by
  have := (h.2 q h1 h2).2.2
  exact ⟨nI_nn this.1, by unfold nn; omega⟩
set_option maxHeartbeats 1000000 in
theorem gl_v {S X : HS} {fr : Nat} (h : Sim S X) (hG : GH X fr) (h0 : ∀ y, y < nn (mI X 26) → ∀ j, j < 6 → sA S (201 + 2 * y) j = 0) (hz : ∀ q, fr ≤ q → q < 400 → ∀ r, (r = 18 ∨ r = 19 ∨ r = 22 ∨ r = 23) → mA X r q = 0) : ∀ i, fr + i ≤ nn (mI X 27) → (∀ y, y < nn (mI X 26) → Ag (cwX X y) (sA (glS S fr i) (201 + 2 * y)) (pfy X fr y i)) ∧ (∀ k, k < i → sI (glS S fr i) (fid 2 7) (1000 + (fr + k)) = (pres X fr k).2.1 ∧ sI (glS S fr i) (fid 2 8) (1000 + (fr + k)) = mA X 17 (fr + k) - (pres X fr k).2.1 ∧ sI (glS S fr i) (fid 2 9) (1000 + (fr + k)) = (pres X fr k).2.2.1 ∧ sI (glS S fr i) (fid 2 10) (1000 + (fr + k)) = (pres X fr k).2.2.2) ∧ (∀ f a, a < 1000 + fr ∨ 1000 + (fr + i) ≤ a → f ≠ fid 8 15 → f ≠ fid 8 16 → sI (glS S fr i) f a = sI S f a) ∧ (cI (glS S fr i) 15 = cI S 15 + l_sum (fun k => (pres X fr k).2.1) i ∧ cI (glS S fr i) 16 = cI S 16 + l_sum (fun k => mA X 17 (fr + k) - (pres X fr k).2.1) i) ∧ (∀ t, t < 201 ∨ 209 ≤ t → sA (glS S fr i) t = sA S t) ∧ sQ (glS S fr i) = sQ S
  | 0, _ => by
    have r26 := h.rn.2.1
    have gY := h.2.2.1.2.2.2.2.2.1
    refine ⟨fun y hy j hj => ?_, fun k hk => absurd hk (Nat.not_lt_zero _), fun f a _ _ _ => rfl, ⟨?_, ?_⟩, fun t _ => rfl, rfl⟩
    · have := ((gY y (by unfold nn at hy; omega)).2.1 hy).1
      exact h0 y hy j (by unfold cwX nn at hj; omega)
    · show cI S 15 = cI S 15 + 0; simp
    · show cI S 16 = cI S 16 + 0; simp
  | i + 1, hi => by
    obtain ⟨k1, k2, k3, ⟨k4, k5⟩, k6, k7⟩ := gl_v h hG h0 hz i (by omega)
    obtain ⟨h1, h2, ⟨g0, gN, gC, gB, gP, gYY, gL⟩, hN, hC, hB, hP, hY, hL, hT, hR⟩ := id h
    obtain ⟨n9, n10, n11, n12, n13, n14, n15, n16, n17, nw, ng, nz⟩ := id hN
    obtain ⟨r25, r26, r27, r24, r28, r29, r47⟩ := id gN
    have hq : fr + i < nn (mI X 27) := by omega
    have hq4 : fr + i < 400 := by unfold nn at hq; omega
    obtain ⟨ey, hy⟩ := nI_yard hG (show fr ≤ fr + i by omega) hq
    have hy4 : nn (mA X 16 (fr + i)) < 4 := by unfold nn at hy ⊢; omega
    have eL : ∀ k, k < 11 → sI (glS S fr i) (fid 2 k) (1000 + (fr + i)) = mA X (lr k) (fr + i) := fun k hk => (k3 _ _ (Or.inr (Nat.le_refl _)) (by unfold fid; omega) (by unfold fid; omega)).trans (hL _ hq4 hq k hk)
    have e3 : sI (glS S fr i) (fid 2 3) (1000 + (fr + i)) = mA X 16 (fr + i) := eL 3 (by omega)
    have e4 : sI (glS S fr i) (fid 2 4) (1000 + (fr + i)) = mA X 17 (fr + i) := eL 4 (by omega)
    have e5 : sI (glS S fr i) (fid 2 5) (1000 + (fr + i)) = mA X 20 (fr + i) := eL 5 (by omega)
    have e7 : sI (glS S fr i) (fid 2 7) (1000 + (fr + i)) = 0 := (eL 7 (by omega)).trans (hz _ (by omega) hq4 18 (by omega))
    have e9 : sI (glS S fr i) (fid 2 9) (1000 + (fr + i)) = 0 := (eL 9 (by omega)).trans (hz _ (by omega) hq4 22 (by omega))
    have e10 : sI (glS S fr i) (fid 2 10) (1000 + (fr + i)) = 0 := (eL 10 (by omega)).trans (hz _ (by omega) hq4 23 (by omega))
    have e13 : cI (glS S fr i) 13 = mI X 29 := (k3 _ _ (Or.inl (by omega)) (by decide) (by decide)).trans n13
    have ecr : sI (glS S fr i) (fid 7 1) (200 + 2 * nn (mA X 16 (fr + i))) = mA X 10 (nn (mA X 16 (fr + i))) := (k3 _ _ (Or.inl (by omega)) (by decide) (by decide)).trans (hY _ hy4 hy 1 (by omega) (by omega))
    have eP : gutP (glS S fr i) (1000 + (fr + i)) = pg X (nn (mA X 16 (fr + i))) (fr + i) (sA (glS S fr i) (201 + 2 * nn (mA X 16 (fr + i)))) := by
      unfold gutP gY
      rw [e3, e4, e5, e7, e9, e10, e13, ecr]
      rfl
    have ca := pg_cg (q := fr + i) (k1 _ hy)
    rw [← eP] at ca
    have c2 : (gutP (glS S fr i) (1000 + (fr + i))).2 = (pres X fr i).2 := ca.2
    show (∀ y, y < nn (mI X 26) → Ag (cwX X y) (sA (gutS (glS S fr i) (1000 + (fr + i))) (201 + 2 * y)) (pfy X fr y (i + 1))) ∧ (∀ k, k < i + 1 → sI (gutS (glS S fr i) (1000 + (fr + i))) (fid 2 7) (1000 + (fr + k)) = (pres X fr k).2.1 ∧ sI (gutS (glS S fr i) (1000 + (fr + i))) (fid 2 8) (1000 + (fr + k)) = mA X 17 (fr + k) - (pres X fr k).2.1 ∧ sI (gutS (glS S fr i) (1000 + (fr + i))) (fid 2 9) (1000 + (fr + k)) = (pres X fr k).2.2.1 ∧ sI (gutS (glS S fr i) (1000 + (fr + i))) (fid 2 10) (1000 + (fr + k)) = (pres X fr k).2.2.2) ∧ (∀ f a, a < 1000 + fr ∨ 1000 + (fr + (i + 1)) ≤ a → f ≠ fid 8 15 → f ≠ fid 8 16 → sI (gutS (glS S fr i) (1000 + (fr + i))) f a = sI S f a) ∧ (cI (gutS (glS S fr i) (1000 + (fr + i))) 15 = cI S 15 + (l_sum (fun k => (pres X fr k).2.1) i + (pres X fr i).2.1) ∧ cI (gutS (glS S fr i) (1000 + (fr + i))) 16 = cI S 16 + (l_sum (fun k => mA X 17 (fr + k) - (pres X fr k).2.1) i + (mA X 17 (fr + i) - (pres X fr i).2.1))) ∧ (∀ t, t < 201 ∨ 209 ≤ t → sA (gutS (glS S fr i) (1000 + (fr + i))) t = sA S t) ∧ sQ (gutS (glS S fr i) (1000 + (fr + i))) = sQ S
    unfold gutS
    generalize gutP (glS S fr i) (1000 + (fr + i)) = P at *
    have egY : gY (glS S fr i) (1000 + (fr + i)) = nn (mA X 16 (fr + i)) := by unfold gY; rw [e3]
    have sA1 : ∀ t, sA (gut2 (glS S fr i) (1000 + (fr + i)) P) t = if t = 201 + 2 * nn (mA X 16 (fr + i)) then P.1 else sA (glS S fr i) t := fun t => by
      unfold gut2 gut1 gS
      rw [sA_setI, sA_setI, sA_setI, sA_setI, sA_setI, sA_setI, egY]
      by_cases q : t = 201 + 2 * nn (mA X 16 (fr + i))
      · rw [if_pos q, q, sA_set]
      · rw [if_neg q, sA_setn q]
    have i0 : ∀ f a, f ≠ fid 8 15 → f ≠ fid 8 16 → sI (gut2 (glS S fr i) (1000 + (fr + i)) P) f a = sI (gut1 (glS S fr i) (1000 + (fr + i)) P) f a := fun f a q1 q2 => by
      unfold gut2
      rw [sI_setIn (Or.inl q2), sI_setIn (Or.inl q1)]
    have i15 : cI (gut2 (glS S fr i) (1000 + (fr + i)) P) 15 = cI (glS S fr i) 15 + P.2.1 := by
      show sI (gut2 (glS S fr i) (1000 + (fr + i)) P) (fid 8 15) 0 = _
      unfold gut2
      rw [sI_setIn (Or.inl (by decide)), sI_setIe]
    have i16 : cI (gut2 (glS S fr i) (1000 + (fr + i)) P) 16 = cI (glS S fr i) 16 + (mA X 17 (fr + i) - P.2.1) := by
      show sI (gut2 (glS S fr i) (1000 + (fr + i)) P) (fid 8 16) 0 = _
      unfold gut2
      rw [sI_setIe, e4]
    refine ⟨fun y hyn => ?_, fun k hk => ?_, fun f a ha q1 q2 => ?_, ⟨?_, ?_⟩, fun t ht => ?_, ?_⟩
    · rw [sA1]
      unfold pfy
      by_cases q : y = nn (mA X 16 (fr + i))
      · subst q
        rw [if_pos rfl, if_pos ey.symm]
        exact ca.1
      · rw [if_neg (by omega), if_neg (fun w => q (by rw [w, nn_nI (by unfold nn at hyn; omega)]))]
        exact k1 y hyn
    · by_cases q : k = i
      · subst q
        rw [i0 _ _ (by decide) (by decide), i0 _ _ (by decide) (by decide), i0 _ _ (by decide) (by decide), i0 _ _ (by decide) (by decide), gut1_7, gut1_8, gut1_9, gut1_10, e4, c2]
        exact ⟨rfl, rfl, rfl, rfl⟩
      · rw [i0 _ _ (by decide) (by decide), i0 _ _ (by decide) (by decide), i0 _ _ (by decide) (by decide), i0 _ _ (by decide) (by decide), gut1_I (Or.inr (by omega)), gut1_I (Or.inr (by omega)), gut1_I (Or.inr (by omega)), gut1_I (Or.inr (by omega))]
        exact k2 k (by omega)
    · rw [i0 f a q1 q2, gut1_I (Or.inr (by omega))]
      exact k3 f a (by omega) q1 q2
    · rw [i15, k4, c2, Int32.add_assoc]
    · rw [i16, k5, c2, Int32.add_assoc]
    · rw [sA1, if_neg (by omega)]
      exact k6 t ht
    · unfold gut2 gut1 gS
      rw [sQ_setI, sQ_setI, sQ_setI, sQ_setI, sQ_setI, sQ_setI, sQ_setA]
      exact k7
/-- a lot's row r, gutted -/
def pv (X : HS) (fr r k : Nat) : Int32 := if r = 18 then (pres X fr k).2.1 else if r = 19 then mA X 17 (fr + k) - (pres X fr k).2.1 else if r = 22 then (pres X fr k).2.2.1 else (pres X fr k).2.2.2
theorem l_sum_add {f g : Nat → Int32} : ∀ n, l_sum f n + l_sum g n = l_sum (fun k => f k + g k) n
  | 0 => rfl
  | n + 1 => by
    show l_sum f n + f n + (l_sum g n + g n) = l_sum (fun k => f k + g k) n + (f n + g n)
    rw [← l_sum_add n]
    ac_rfl
set_option maxHeartbeats 1000000 in
theorem wl_v {X E : HS} {fr y : Nat} (hG : GH X fr) (hE : ∀ r, r = 10 ∨ r = 16 ∨ r = 17 ∨ r = 20 → mA E r = mA X r) (h29 : mI E 29 = mI X 29) (hz : ∀ q, fr ≤ q → q < nn (mI X 27) → mA X 16 q = nI y → ∀ r, (r = 18 ∨ r = 19 ∨ r = 22 ∨ r = 23) → mA E r q = 0) (hy : y < 4) (hc : 1 ≤ (mA X 10 y).toInt) : ∀ i, fr + i ≤ nn (mI X 27) → Ag (cwX X y) (mA (wLs (wk0 E y) y fr i) 42) (pfy X fr y i) ∧ (∀ r, (r = 18 ∨ r = 19 ∨ r = 22 ∨ r = 23) → ∀ q, mA (wLs (wk0 E y) y fr i) r q = if fr ≤ q ∧ q < fr + i ∧ mA X 16 q = nI y then pv X fr r (q - fr) else mA E r q) ∧ mI (wLs (wk0 E y) y fr i) 31 = mI E 31 + l_sum (fun k => if mA X 16 (fr + k) = nI y then (pres X fr k).2.1 else 0) i ∧ mI (wLs (wk0 E y) y fr i) 32 = mI E 32 + l_sum (fun k => if mA X 16 (fr + k) = nI y then mA X 17 (fr + k) - (pres X fr k).2.1 else 0) i
  | 0, _ => by
    refine ⟨fun j hj => ?_, fun r hr q => ?_, ?_, ?_⟩
    · show sA (wk0 E y) (ma 42) j = 0
      unfold wk0
      rw [sA_set, hE 10 (Or.inl rfl), fillR_in (by unfold cwX nn at *; omega)]
    · rw [if_neg (by omega)]
      show sA (wk0 E y) (ma r) q = _
      unfold wk0
      rw [sA_setn (by unfold ma; omega)]
    · show mI E 31 = mI E 31 + 0; simp
    · show mI E 32 = mI E 32 + 0; simp
  | i + 1, hi => by
    obtain ⟨k1, k2, k3, k4⟩ := wl_v hG hE h29 hz hy hc i (by omega)
    have hq : fr + i < nn (mI X 27) := by omega
    have fA : ∀ r, r = 10 ∨ r = 16 ∨ r = 17 ∨ r = 20 → mA (wLs (wk0 E y) y fr i) r = mA X r := fun r hr => by
      show sA (wLs (wk0 E y) y fr i) (ma r) = _
      rw [wLs_A ⟨by unfold ma; omega, by unfold ma; omega, by unfold ma; omega, by unfold ma; omega, by unfold ma; omega⟩]
      unfold wk0
      rw [sA_setn (by unfold ma; omega)]
      exact hE r hr
    have fI : mI (wLs (wk0 E y) y fr i) 29 = mI X 29 := by
      show sI (wLs (wk0 E y) y fr i) (fid 9 29) 2000 = _
      rw [wLs_I (by decide)]
      exact h29
    show Ag (cwX X y) (mA (wLot (wLs (wk0 E y) y fr i) y (fr + i)) 42) (pfy X fr y (i + 1)) ∧ (∀ r, (r = 18 ∨ r = 19 ∨ r = 22 ∨ r = 23) → ∀ q, mA (wLot (wLs (wk0 E y) y fr i) y (fr + i)) r q = if fr ≤ q ∧ q < fr + (i + 1) ∧ mA X 16 q = nI y then pv X fr r (q - fr) else mA E r q) ∧ mI (wLot (wLs (wk0 E y) y fr i) y (fr + i)) 31 = mI E 31 + (l_sum (fun k => if mA X 16 (fr + k) = nI y then (pres X fr k).2.1 else 0) i + (if mA X 16 (fr + i) = nI y then (pres X fr i).2.1 else 0)) ∧ mI (wLot (wLs (wk0 E y) y fr i) y (fr + i)) 32 = mI E 32 + (l_sum (fun k => if mA X 16 (fr + k) = nI y then mA X 17 (fr + k) - (pres X fr k).2.1 else 0) i + (if mA X 16 (fr + i) = nI y then mA X 17 (fr + i) - (pres X fr i).2.1 else 0))
    generalize wLs (wk0 E y) y fr i = Z at *
    by_cases c : mA X 16 (fr + i) = nI y
    · rw [if_pos c, if_pos c]
      have eny : nn (mA X 16 (fr + i)) = y := by rw [c, nn_nI (by omega)]
      have ez : ∀ r, (r = 18 ∨ r = 19 ∨ r = 22 ∨ r = 23) → mA Z r (fr + i) = 0 := fun r hr => by
        rw [k2 r hr, if_neg (by omega)]
        exact hz _ (by omega) hq c r hr
      have eW : wLot Z y (fr + i) = wkS Z (fr + i) (wIt (cwX X y) (mA X 20 (fr + i)) (mI X 29) (mA Z 42, 0, 0, 0, 0, mI Z 31, mI Z 32) (nn (mA X 17 (fr + i)))) := by
        unfold wLot wNu ws0
        rw [fA 10 (by omega), fA 16 (by omega), fA 17 (by omega), fA 20 (by omega), fI, if_pos c, ez 18 (by omega), ez 19 (by omega), ez 22 (by omega), ez 23 (by omega)]
        rfl
      have hBf : Bf (cwX X y) (mA Z 42) := fun j hj => by rw [k1 j hj]; exact pfy_bd hG i (by omega) j hj
      obtain ⟨-, K, -, -, rw_⟩ := pg_run hG (show fr ≤ fr + i by omega) hq hBf (mI Z 31) (mI Z 32)
      have ca := pg_cg (X := X) (q := fr + i) k1
      have c2 : (pg X y (fr + i) (mA Z 42)).2 = (pres X fr i).2 := by
        unfold pres
        rw [eny]
        exact ca.2
      rw [eW, rw_]
      generalize pg X y (fr + i) (mA Z 42) = P at *
      rw [c2]
      refine ⟨?_, fun r hr q => ?_, ?_, ?_⟩
      · show Ag (cwX X y) (sA (wkS Z (fr + i) _) (ma 42)) _
        rw [wk_A42]
        unfold pfy
        rw [if_pos c]
        exact ca.1
      · have hcq : ∀ (v : Int32) (hv : v = pv X fr r i), upd (mA Z r) (fr + i) v q = if fr ≤ q ∧ q < fr + (i + 1) ∧ mA X 16 q = nI y then pv X fr r (q - fr) else mA E r q := fun v hv => by
          by_cases e : q = fr + i
          · rw [e, pk_us, if_pos ⟨by omega, by omega, c⟩, hv, show fr + i - fr = i by omega]
          · rw [pk_un e, k2 r hr q]
            by_cases w : fr ≤ q ∧ q < fr + i ∧ mA X 16 q = nI y
            · rw [if_pos w, if_pos ⟨w.1, by omega, w.2.2⟩]
            · rw [if_neg w, if_neg (fun u => w ⟨u.1, by have := u.2.1; omega, u.2.2⟩)]
        rcases hr with rfl | rfl | rfl | rfl
        · show sA (wkS Z (fr + i) _) (ma 18) q = _
          rw [wk_A18]; exact hcq _ rfl
        · show sA (wkS Z (fr + i) _) (ma 19) q = _
          rw [wk_A19]; exact hcq _ rfl
        · show sA (wkS Z (fr + i) _) (ma 22) q = _
          rw [wk_A22]; exact hcq _ rfl
        · show sA (wkS Z (fr + i) _) (ma 23) q = _
          rw [wk_A23]; exact hcq _ rfl
      · show sI (wkS Z (fr + i) _) (fid 9 31) 2000 = _
        rw [wk_I31]
        show mI Z 31 + (pres X fr i).2.1 = _
        rw [k3, Int32.add_assoc]
      · show sI (wkS Z (fr + i) _) (fid 9 32) 2000 = _
        rw [wk_I32]
        show mI Z 32 + (mA X 17 (fr + i) - (pres X fr i).2.1) = _
        rw [k4, Int32.add_assoc]
    · rw [if_neg c, if_neg c]
      have eW : wLot Z y (fr + i) = Z := by
        unfold wLot wNu
        rw [fA 16 (by omega), if_neg c]
        exact (wk_self Z (fr + i)).symm
      rw [eW]
      refine ⟨?_, fun r hr q => ?_, by rw [k3]; simp, by rw [k4]; simp⟩
      · unfold pfy
        rw [if_neg c]
        exact k1
      · rw [k2 r hr q]
        by_cases w : fr ≤ q ∧ q < fr + i ∧ mA X 16 q = nI y
        · rw [if_pos w, if_pos ⟨w.1, by omega, w.2.2⟩]
        · rw [if_neg w, if_neg]
          intro u
          by_cases e : q = fr + i
          · rw [e] at u; exact c u.2.2
          · exact w ⟨u.1, by have := u.2.1; omega, u.2.2⟩
set_option maxHeartbeats 1000000 in
theorem wa_v {X : HS} {fr : Nat} (hG : GH X fr) (hfr : fr ≤ nn (mI X 27)) (hz : ∀ q, fr ≤ q → q < nn (mI X 27) → ∀ r, (r = 18 ∨ r = 19 ∨ r = 22 ∨ r = 23) → mA X r q = 0) (hn4 : nn (mI X 26) ≤ 4) (hc : ∀ y, y < nn (mI X 26) → 1 ≤ (mA X 10 y).toInt) : ∀ y, y ≤ nn (mI X 26) → (∀ r, (r = 18 ∨ r = 19 ∨ r = 22 ∨ r = 23) → ∀ q, mA (wkA X fr y) r q = if fr ≤ q ∧ q < nn (mI X 27) ∧ nn (mA X 16 q) < y then pv X fr r (q - fr) else mA X r q) ∧ mI (wkA X fr y) 31 = mI X 31 + l_sum (fun k => if nn (mA X 16 (fr + k)) < y then (pres X fr k).2.1 else 0) (nn (mI X 27) - fr) ∧ mI (wkA X fr y) 32 = mI X 32 + l_sum (fun k => if nn (mA X 16 (fr + k)) < y then mA X 17 (fr + k) - (pres X fr k).2.1 else 0) (nn (mI X 27) - fr)
  | 0, _ => by
    have e0 : ∀ (f : Nat → Int32) n, l_sum (fun k => if nn (mA X 16 (fr + k)) < 0 then f k else 0) n = 0 := fun f n => by
      induction n with
      | zero => rfl
      | succ n ih =>
        show l_sum _ n + (if _ then _ else _) = 0
        rw [ih, if_neg (Nat.not_lt_zero _)]; rfl
    refine ⟨fun r hr q => ?_, ?_, ?_⟩
    · rw [if_neg (by omega)]; rfl
    · rw [e0]; show mI X 31 = mI X 31 + 0; simp
    · rw [e0]; show mI X 32 = mI X 32 + 0; simp
  | y + 1, hy => by
    obtain ⟨k1, k2, k3⟩ := wa_v hG hfr hz hn4 hc y (by omega)
    have fA : ∀ r, r = 10 ∨ r = 16 ∨ r = 17 ∨ r = 20 → mA (wkA X fr y) r = mA X r := fun r hr => wkA_A ⟨by unfold ma; omega, by unfold ma; omega, by unfold ma; omega, by unfold ma; omega, by unfold ma; omega⟩ y
    have f29 : mI (wkA X fr y) 29 = mI X 29 := wkA_I (by decide) y
    have f27 : mI (wkA X fr y) 27 = mI X 27 := wkA_I (by decide) y
    have hin : ∀ q, fr ≤ q → q < nn (mI X 27) → (mA X 16 q = nI y ↔ nn (mA X 16 q) = y) := fun q q1 q2 => by
      have := nI_yard hG q1 q2
      refine ⟨fun z => by rw [z, nn_nI (by omega)], fun z => by rw [← this.1, z]⟩
    show (∀ r, (r = 18 ∨ r = 19 ∨ r = 22 ∨ r = 23) → ∀ q, mA (wkY (wkA X fr y) y fr) r q = _) ∧ mI (wkY (wkA X fr y) y fr) 31 = _ ∧ mI (wkY (wkA X fr y) y fr) 32 = _
    generalize wkA X fr y = E at *
    have hv := wl_v (X := X) (E := E) hG fA f29 (fun q q1 q2 q3 r hr => by
      rw [k1 r hr q, if_neg (fun w => by have := (hin q q1 q2).mp q3; omega)]
      exact hz q q1 q2 r hr) (show y < 4 by omega) (hc y (by omega)) (nn (mI X 27) - fr) (by omega)
    unfold wkY
    rw [f27]
    generalize wLs (wk0 E y) y fr (nn (mI X 27) - fr) = Z at *
    obtain ⟨-, v2, v3, v4⟩ := hv
    rw [show fr + (nn (mI X 27) - fr) = nn (mI X 27) by omega] at v2
    have es : ∀ f : Nat → Int32, l_sum (fun k => if nn (mA X 16 (fr + k)) < y then f k else 0) (nn (mI X 27) - fr) + l_sum (fun k => if mA X 16 (fr + k) = nI y then f k else 0) (nn (mI X 27) - fr) = l_sum (fun k => if nn (mA X 16 (fr + k)) < y + 1 then f k else 0) (nn (mI X 27) - fr) := fun f => by
      rw [l_sum_add]
      refine l_sum_cg (fun k hk => ?_)
      have hi := hin (fr + k) (by omega) (by omega)
      by_cases q : nn (mA X 16 (fr + k)) < y
      · rw [if_pos q, if_neg (fun z => by have := hi.mp z; omega), if_pos (by omega)]; simp
      · rw [if_neg q]
        by_cases q2 : nn (mA X 16 (fr + k)) = y
        · rw [if_pos (hi.mpr q2), if_pos (by omega)]; simp
        · rw [if_neg (fun z => q2 (hi.mp z)), if_neg (by omega)]; rfl
    refine ⟨fun r hr q => ?_, ?_, ?_⟩
    · rw [v2 r hr q, k1 r hr q]
      by_cases w : fr ≤ q ∧ q < nn (mI X 27)
      · have hi := hin q w.1 w.2
        by_cases q2 : nn (mA X 16 q) = y
        · rw [if_pos ⟨w.1, w.2, hi.mpr q2⟩, if_pos ⟨w.1, w.2, by omega⟩]
        · rw [if_neg (fun z => q2 (hi.mp z.2.2))]
          by_cases q3 : nn (mA X 16 q) < y
          · rw [if_pos ⟨w.1, w.2, q3⟩, if_pos ⟨w.1, w.2, by omega⟩]
          · rw [if_neg (fun z => q3 z.2.2), if_neg (fun z => by have := z.2.2; omega)]
      · rw [if_neg (fun z => w ⟨z.1, z.2.1⟩), if_neg (fun z => w ⟨z.1, z.2.1⟩), if_neg (fun z => w ⟨z.1, z.2.1⟩)]
    · rw [v3, k2, Int32.add_assoc, es]
    · rw [v4, k3, Int32.add_assoc, es]
