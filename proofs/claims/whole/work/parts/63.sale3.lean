/-! ===== one sale ===== -/
theorem sl_f {fr : Nat} {S X : HS} {b : Nat} {m x : Int32} (h : SR fr S X) (hb12 : b < 12) (hb : b < nn (mI X 25)) (hc : smC X x) : ∃ j, j < 4 ∧ j < nn (mI X 26) ∧ smY X = nI j ∧ buyS S = nI j ∧ slN S x = smN X x ∧ sI S (fid 7 4) (200 + 2 * j) = mA X 40 j ∧ sI S (fid 7 3) (200 + 2 * j) = mA X 12 j ∧ sI S (fid 0 6) (100 + 3 * b) = mA X 6 b ∧ sI S (fid 0 3) (100 + 3 * b) = mA X 3 b ∧ (0 ≤ (mA X 40 j).toInt ∧ (mA X 40 j).toInt ≤ 500) ∧ 1 ≤ (smN X x).toInt ∧ (smN X x).toInt ≤ 500 ∧ (smN X x).toInt ≤ (mA X 40 j).toInt := by
  obtain ⟨hs, hy, hq⟩ := id h
  obtain ⟨h1, h2, ⟨g0, gN, gC, gB, gP, gY, gL⟩, hN, hC, hB, hP, hY, hL, hT, hR⟩ := id hs
  obtain ⟨n9, n10, n11, n12, n13, n14, n15, n16, n17, nw, ng, nz⟩ := id hN
  obtain ⟨r25, r26, r27, r24, r28, r29, r47⟩ := id gN
  obtain ⟨j, hj4, hjn, ej, ejc, eji, hpos⟩ := smY_pos r26 hc.2.1
  have hx := hc.1
  have hl := hc.2.2
  have ebuy : buyS S = nI j := (buy_eq h).trans ej
  have ennb : nn (buyS S) = j := by rw [ebuy, nn_nI (by omega)]
  have erl : sI S (fid 7 4) (200 + 2 * j) = mA X 40 j := (hy j hjn).1
  have ebid : sI S (fid 7 3) (200 + 2 * j) = mA X 12 j := hY j hj4 hjn 3 (by omega) (by omega)
  have eow : sI S (fid 0 6) (100 + 3 * b) = mA X 6 b := hB b hb12 hb 6 (by omega) (by omega)
  have ecl : sI S (fid 0 3) (100 + 3 * b) = mA X 3 b := hB b hb12 hb 3 (by omega) (by omega)
  have hr5 := (hy j hjn).2
  have eN : slN S x = smN X x := by
    unfold slN smN
    rw [ennb, erl, ejc]
  have hN5 : 1 ≤ (smN X x).toInt ∧ (smN X x).toInt ≤ 500 ∧ (smN X x).toInt ≤ (mA X 40 j).toInt := by
    unfold smN
    rw [ejc]
    split
    · omega
    · rename_i z; rw [fa_lt] at z; omega
  exact ⟨j, hj4, hjn, ej, ebuy, eN, erl, ebid, eow, ecl, hr5, hN5⟩
set_option maxHeartbeats 1000000 in
theorem sl_v {S : HS} {b j : Nat} {m x : Int32} {rl bd ow cl n nl nw : Int32} (hb12 : b < 12) (hj4 : j < 4) (ebuy : buyS S = nI j) (eN : slN S x = n) (erl : sI S (fid 7 4) (200 + 2 * j) = rl) (ebid : sI S (fid 7 3) (200 + 2 * j) = bd) (eow : sI S (fid 0 6) (100 + 3 * b) = ow) (ecl : sI S (fid 0 3) (100 + 3 * b) = cl) (n11 : cI S 11 = nl) (n12 : cI S 12 = nw) : (∀ f a, f ≠ fid 7 4 → f ≠ fid 0 6 → a ≠ 1000 + nn nl → (f ≠ fid 8 11 ∨ a ≠ 0) → sI (slH S b m x) f a = sI S f a) ∧ (∀ y, y < 4 → sI (slH S b m x) (fid 7 4) (200 + 2 * y) = if y = j then rl - n else sI S (fid 7 4) (200 + 2 * y)) ∧ (∀ i, i < 12 → sI (slH S b m x) (fid 0 6) (100 + 3 * i) = if i = b then ow + n * bd else sI S (fid 0 6) (100 + 3 * i)) ∧ cI (slH S b m x) 11 = nl + 1 ∧ (∀ k, k < 11 → sI (slH S b m x) (fid 2 k) (1000 + nn nl) = [nw, nI b, cl, nI j, n, m, bd, 0, 0, 0, 0].getD k 0) ∧ sI (slH S b m x) (fid 5 1) (1000 + nn nl) = 0 ∧ sA (slH S b m x) = sA S ∧ sQ (slH S b m x) 10 = sQ S 10 := by
  have ennb : nn (buyS S) = j := by rw [ebuy, nn_nI (by omega)]
  have hnl : nn (cI S 11) = nn nl := by rw [n11]
  have hT5 := newL_T (S := S) (a := cI S 12) (b := nI b) (c := sI S (fid 0 3) (100 + 3 * b)) (e := buyS S) (f := slN S x) (g := m) (i := sI S (fid 7 3) (200 + 2 * nn (buyS S)))
  dsimp only at hT5
  have i1 : ∀ f a, f ≠ fid 7 4 → f ≠ fid 0 6 → a ≠ 1000 + nn nl → (f ≠ fid 8 11 ∨ a ≠ 0) → sI (slH S b m x) f a = sI S f a := fun f a q1 q2 q3 q4 => by
    unfold slH
    rw [sI_setIn (Or.inl q2), sI_setIn (Or.inl q1), newL_I (by rw [hnl]; exact q3) q4]
  have i2 : ∀ y, y < 4 → sI (slH S b m x) (fid 7 4) (200 + 2 * y) = if y = j then rl - n else sI S (fid 7 4) (200 + 2 * y) := fun y hy4 => by
    unfold slH
    rw [sI_setIn (Or.inl (by decide)), ennb, erl, eN]
    by_cases q : y = j
    · rw [if_pos q, q, sI_setIe]
    · rw [if_neg q, sI_setIn (Or.inr (by omega)), newL_I (by omega) (Or.inl (by decide))]
  have i3 : ∀ i, i < 12 → sI (slH S b m x) (fid 0 6) (100 + 3 * i) = if i = b then ow + n * bd else sI S (fid 0 6) (100 + 3 * i) := fun i hi => by
    unfold slH
    rw [ennb, eow, ebid, eN]
    by_cases q : i = b
    · rw [if_pos q, q, sI_setIe]
    · rw [if_neg q, sI_setIn (Or.inr (by omega)), sI_setIn (Or.inl (by decide)), newL_I (by omega) (Or.inl (by decide))]
  have i4 : cI (slH S b m x) 11 = nl + 1 := by rw [slH_11, n11]
  have i5 : ∀ k, k < 11 → sI (slH S b m x) (fid 2 k) (1000 + nn nl) = [nw, nI b, cl, nI j, n, m, bd, 0, 0, 0, 0].getD k 0 := fun k hk => by
    have e : sI (slH S b m x) (fid 2 k) (1000 + nn nl) = sI (newL S (cI S 12) (nI b) (sI S (fid 0 3) (100 + 3 * b)) (buyS S) (slN S x) m (sI S (fid 7 3) (200 + 2 * nn (buyS S)))) (fid 2 k) (1000 + nn nl) := by
      unfold slH
      rw [sI_setIn (Or.inl (by unfold fid; omega)), sI_setIn (Or.inl (by unfold fid; omega))]
    rw [e]
    rw [hnl] at hT5
    obtain ⟨t0, t1, t2, t3, t4, t5, t6, t7, t8, t9, t10⟩ := hT5
    have hkk : k = 0 ∨ k = 1 ∨ k = 2 ∨ k = 3 ∨ k = 4 ∨ k = 5 ∨ k = 6 ∨ k = 7 ∨ k = 8 ∨ k = 9 ∨ k = 10 := by omega
    rcases hkk with rfl | rfl | rfl | rfl | rfl | rfl | rfl | rfl | rfl | rfl | rfl
    · rw [t0, n12]; rfl
    · rw [t1]; rfl
    · rw [t2, ecl]; rfl
    · rw [t3, ebuy]; rfl
    · rw [t4, eN]; rfl
    · rw [t5]; rfl
    · rw [t6, ennb, ebid]; rfl
    · rw [t7]; rfl
    · rw [t8]; rfl
    · rw [t9]; rfl
    · rw [t10]; rfl
  have i6 : sI (slH S b m x) (fid 5 1) (1000 + nn nl) = 0 := by
    unfold slH
    rw [sI_setIn (Or.inl (by decide)), sI_setIn (Or.inl (by decide))]
    unfold newL
    rw [sI_setIn (Or.inl (by decide)), sI_setQ]
    unfold initL
    rw [sI_setIn (Or.inl (by decide)), sI_setIn (Or.inl (by decide)), sI_setIn (Or.inl (by decide)), sI_setIn (Or.inl (by decide)), sI_setIn (Or.inl (by decide)), sI_setIn (Or.inl (by decide)), sI_setIn (Or.inl (by decide)), sI_newO, hnl]
    simp [va_up]
  have iA : sA (slH S b m x) = sA S := by
    unfold slH
    rw [sA_setI, sA_setI, newL_A]
  have iQ : sQ (slH S b m x) 10 = sQ S 10 := by
    unfold slH
    rw [sQ_setI, sQ_setI, newL_Q, va_up_ne _ _ (by decide)]
  exact ⟨i1, i2, i3, i4, i5, i6, iA, iQ⟩
set_option maxHeartbeats 1000000 in
theorem sm_v {X : HS} {b j : Nat} {x : Int32} (hb12 : b < 12) (hj4 : j < 4) (ej : smY X = nI j) : (∀ k, k ≠ 27 → mI (smH b X x) k = mI X k) ∧ mI (smH b X x) 27 = mI X 27 + 1 ∧ (∀ k, k ≠ 40 → k ≠ 6 → k ≠ 13 → k ≠ 14 → k ≠ 15 → k ≠ 16 → k ≠ 17 → k ≠ 20 → k ≠ 21 → mA (smH b X x) k = mA X k) ∧ mA (smH b X x) 40 = upd (mA X 40) j (mA X 40 j - smN X x) ∧ mA (smH b X x) 6 = upd (mA X 6) b (mA X 6 b + smN X x * mA X 12 j) ∧ mA (smH b X x) 13 = upd (mA X 13) (nn (mI X 27)) (mI X 24) ∧ mA (smH b X x) 14 = upd (mA X 14) (nn (mI X 27)) (nI b) ∧ mA (smH b X x) 15 = upd (mA X 15) (nn (mI X 27)) (mA X 3 b) ∧ mA (smH b X x) 16 = upd (mA X 16) (nn (mI X 27)) (nI j) ∧ mA (smH b X x) 17 = upd (mA X 17) (nn (mI X 27)) (smN X x) ∧ mA (smH b X x) 20 = upd (mA X 20) (nn (mI X 27)) (minF (mA X 3 b)) ∧ mA (smH b X x) 21 = upd (mA X 21) (nn (mI X 27)) (mA X 12 j) := by
  have ejc : (smY X).toNatClampNeg = j := by rw [ej, nI_clamp (by omega)]
  have hbc : (nI b).toNatClampNeg = b := nI_clamp (by omega)
  have m40 := sellS_40 (S := X) (b := nI b) (y := smY X) (n := smN X x)
  obtain ⟨m6, m13, m14, m15, m16, m17, m20, m21⟩ := sellS_r (S := X) (b := nI b) (y := smY X) (n := smN X x)
  rw [ejc] at m40
  rw [hbc, ejc] at m6
  rw [hbc] at m15 m20
  rw [ejc] at m21
  refine ⟨fun k hk => sellS_I (by unfold fid; omega) _, sellS_27, fun k q1 q2 q3 q4 q5 q6 q7 q8 q9 => sellS_A ⟨by unfold ma; omega, by unfold ma; omega, by unfold ma; omega, by unfold ma; omega, by unfold ma; omega, by unfold ma; omega, by unfold ma; omega, by unfold ma; omega, by unfold ma; omega⟩, m40, m6, m13, m14, m15, ?_, m17, m20, m21⟩
  rw [← ej]
  exact m16
