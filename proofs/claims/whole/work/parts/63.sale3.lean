/-! ===== one sale ===== -/
set_option maxHeartbeats 2000000 in
theorem SR.sell {fr : Nat} {S X : HS} {b : Nat} {m x : Int32} (h : SR fr S X) (hb12 : b < 12) (hb : b < nn (mI X 25)) (hm : m = minF (mA X 3 b)) (hm2 : 30 ≤ m.toInt ∧ m.toInt ≤ 330) (hc : smC X x) : SR fr (slH S b m x) (smH b X x) ∧ slN S x = smN X x := by
  obtain ⟨hs, hy, hq⟩ := id h
  obtain ⟨h1, h2, ⟨g0, gN, gC, gB, gP, gY, gL⟩, hN, hC, hB, hP, hY, hL, hT, hR⟩ := id hs
  obtain ⟨n9, n10, n11, n12, n13, n14, n15, n16, n17, nw, ng, nz⟩ := id hN
  obtain ⟨r25, r26, r27, r24, r28, r29, r47⟩ := id gN
  obtain ⟨j, hj4, hjn, ej, ejc, eji, hpos⟩ := smY_pos r26 hc.2.1
  have hx := hc.1
  have hl := hc.2.2
  have ebuy : buyS S = nI j := (buy_eq h).trans ej
  have ennb : nn (buyS S) = j := by rw [ebuy, nn_nI (by omega)]
  have erl : sI S (fid 7 4) (200 + 2 * j) = mA X 40 j := (hy j hjn).1
  have ebid : sI S (fid 7 3) (200 + 2 * j) = mA X 12 j := hY j hj4 hjn 3 (by omega) (by omega)
  have eow : sI S (fid 0 6) (100 + 3 * b) = mA X 6 b := hB b hb12 hb 6 (by omega) (by omega)
  have ecl : sI S (fid 0 3) (100 + 3 * b) = mA X 3 b := hB b hb12 hb 3 (by omega) (by omega)
  have hr5 := (hy j hjn).2
  have eN : slN S x = smN X x := by
    unfold slN smN
    rw [ennb, erl, ejc]
  have hN5 : 1 ≤ (smN X x).toInt ∧ (smN X x).toInt ≤ 500 ∧ (smN X x).toInt ≤ (mA X 40 j).toInt := by
    unfold smN
    rw [ejc]
    split
    · omega
    · rename_i z; rw [fa_lt] at z; omega
  refine ⟨?_, eN⟩
  have hnl : nn (cI S 11) = nn (mI X 27) := by rw [n11]
  have hnl4 : nn (mI X 27) < 400 := by unfold nn; omega
  have hcl : (mI X 27).toNatClampNeg = nn (mI X 27) := rfl
  -- the system's readings
  have hsh : ShC (slH S b m x) := slH_sh h1 ((slC_iff h x).mpr hc)
  have hT5 := newL_T (S := S) (a := cI S 12) (b := nI b) (c := sI S (fid 0 3) (100 + 3 * b)) (e := buyS S) (f := slN S x) (g := m) (i := sI S (fid 7 3) (200 + 2 * nn (buyS S)))
  dsimp only at hT5
  have i1 : ∀ f a, f ≠ fid 7 4 → f ≠ fid 0 6 → a ≠ 1000 + nn (mI X 27) → (f ≠ fid 8 11 ∨ a ≠ 0) → sI (slH S b m x) f a = sI S f a := fun f a q1 q2 q3 q4 => by
    unfold slH
    rw [sI_setIn (Or.inl q2), sI_setIn (Or.inl q1), newL_I (by rw [hnl]; exact q3) q4]
  have i2 : ∀ y, y < 4 → sI (slH S b m x) (fid 7 4) (200 + 2 * y) = if y = j then mA X 40 j - smN X x else sI S (fid 7 4) (200 + 2 * y) := fun y hy4 => by
    unfold slH
    rw [sI_setIn (Or.inl (by decide)), ennb, erl, eN]
    by_cases q : y = j
    · rw [if_pos q, q, sI_setIe]
    · rw [if_neg q, sI_setIn (Or.inr (by omega)), newL_I (by omega) (Or.inl (by decide))]
  have i3 : ∀ i, i < 12 → sI (slH S b m x) (fid 0 6) (100 + 3 * i) = if i = b then mA X 6 b + smN X x * mA X 12 j else sI S (fid 0 6) (100 + 3 * i) := fun i hi => by
    unfold slH
    rw [ennb, eow, ebid, eN]
    by_cases q : i = b
    · rw [if_pos q, q, sI_setIe]
    · rw [if_neg q, sI_setIn (Or.inr (by omega)), sI_setIn (Or.inl (by decide)), newL_I (by omega) (Or.inl (by decide))]
  have i4 : cI (slH S b m x) 11 = mI X 27 + 1 := by rw [slH_11, n11]
  have i5 : ∀ k, k < 11 → sI (slH S b m x) (fid 2 k) (1000 + nn (mI X 27)) = [mI X 24, nI b, mA X 3 b, nI j, smN X x, m, mA X 12 j, 0, 0, 0, 0].getD k 0 := fun k hk => by
    have e : sI (slH S b m x) (fid 2 k) (1000 + nn (mI X 27)) = sI (newL S (cI S 12) (nI b) (sI S (fid 0 3) (100 + 3 * b)) (buyS S) (slN S x) m (sI S (fid 7 3) (200 + 2 * nn (buyS S)))) (fid 2 k) (1000 + nn (mI X 27)) := by
      unfold slH
      rw [sI_setIn (Or.inl (by unfold fid; omega)), sI_setIn (Or.inl (by unfold fid; omega))]
    rw [e]
    rw [hnl] at hT5
    obtain ⟨t0, t1, t2, t3, t4, t5, t6, t7, t8, t9, t10⟩ := hT5
    have hkk : k = 0 ∨ k = 1 ∨ k = 2 ∨ k = 3 ∨ k = 4 ∨ k = 5 ∨ k = 6 ∨ k = 7 ∨ k = 8 ∨ k = 9 ∨ k = 10 := by omega
    rcases hkk with rfl | rfl | rfl | rfl | rfl | rfl | rfl | rfl | rfl | rfl | rfl
    · rw [t0, n12]; rfl
    · rw [t1]; rfl
    · rw [t2, ecl]; rfl
    · rw [t3, ebuy]; rfl
    · rw [t4, eN]; rfl
    · rw [t5]; rfl
    · rw [t6, ennb, ebid]; rfl
    · rw [t7]; rfl
    · rw [t8]; rfl
    · rw [t9]; rfl
    · rw [t10]; rfl
  have i6 : sI (slH S b m x) (fid 5 1) (1000 + nn (mI X 27)) = 0 := by
    unfold slH
    rw [sI_setIn (Or.inl (by decide)), sI_setIn (Or.inl (by decide))]
    unfold newL
    rw [sI_setIn (Or.inl (by decide)), sI_setQ]
    unfold initL
    rw [sI_setIn (Or.inl (by decide)), sI_setIn (Or.inl (by decide)), sI_setIn (Or.inl (by decide)), sI_setIn (Or.inl (by decide)), sI_setIn (Or.inl (by decide)), sI_setIn (Or.inl (by decide)), sI_setIn (Or.inl (by decide)), sI_newO, hnl]
    simp [va_up]
  have iA : sA (slH S b m x) = sA S := by
    unfold slH
    rw [sA_setI, sA_setI, newL_A]
  have iQ : sQ (slH S b m x) 10 = sQ S 10 := by
    unfold slH
    rw [sQ_setI, sQ_setI, newL_Q, va_up_ne _ _ (by decide)]
  -- the reference's
  have msh : ShM (smH b X x) := sellS_sh g0 _ _ _
  have mi : ∀ k, k ≠ 27 → mI (smH b X x) k = mI X k := fun k hk => sellS_I (by unfold fid; omega) _
  have m27 : mI (smH b X x) 27 = mI X 27 + 1 := sellS_27
  have mm : ∀ k, k ≠ 40 → k ≠ 6 → k ≠ 13 → k ≠ 14 → k ≠ 15 → k ≠ 16 → k ≠ 17 → k ≠ 20 → k ≠ 21 → mA (smH b X x) k = mA X k := fun k q1 q2 q3 q4 q5 q6 q7 q8 q9 => sellS_A ⟨by unfold ma; omega, by unfold ma; omega, by unfold ma; omega, by unfold ma; omega, by unfold ma; omega, by unfold ma; omega, by unfold ma; omega, by unfold ma; omega, by unfold ma; omega⟩
  have m40 : mA (smH b X x) 40 = upd (mA X 40) j (mA X 40 j - smN X x) := by
    have := sellS_40 (S := X) (b := nI b) (y := smY X) (n := smN X x)
    rw [ejc] at this
    exact this
  obtain ⟨m6, m13, m14, m15, m16, m17, m20, m21⟩ := sellS_r (S := X) (b := nI b) (y := smY X) (n := smN X x)
  rw [nI_clamp (show b < 2 ^ 31 by omega), ejc] at m6
  rw [hcl] at m13 m14 m15 m16 m17 m20 m21
  rw [nI_clamp (show b < 2 ^ 31 by omega)] at m15 m20
  rw [ejc] at m21
  rw [ej] at m16
  have m6 : mA (smH b X x) 6 = _ := m6
  have m13 : mA (smH b X x) 13 = _ := m13
  have m14 : mA (smH b X x) 14 = _ := m14
  have m15 : mA (smH b X x) 15 = _ := m15
  have m16 : mA (smH b X x) 16 = _ := m16
  have m17 : mA (smH b X x) 17 = _ := m17
  have m20 : mA (smH b X x) 20 = _ := m20
  have m21 : mA (smH b X x) 21 = _ := m21
  generalize slH S b m x = S2 at *
  generalize smH b X x = X2 at *
  have one : (1 : Int32).toInt = 1 := rfl
  have e27 : (mI X 27 + 1).toInt = (mI X 27).toInt + 1 := by rw [fb_addI (by omega) (by omega)]; rfl
  have en : nn (mI X2 27) = nn (mI X 27) + 1 := by rw [m27]; unfold nn; omega
  have hbd := (gY j hj4).1
  have ho := (gB b hb12).2.2.1
  have hpr : 0 ≤ (smN X x * mA X 12 j).toInt ∧ (smN X x * mA X 12 j).toInt ≤ 50000 := by
    have p1 : (smN X x).toInt * (mA X 12 j).toInt ≤ 500 * 100 := Int.mul_le_mul hN5.2.1 hbd.2 hbd.1 (by decide)
    have p2 : 0 ≤ (smN X x).toInt * (mA X 12 j).toInt := Int.mul_nonneg (by omega) hbd.1
    rw [fb_mulI (by omega) (by omega)]; omega
  have e6 : (mA X 6 b + smN X x * mA X 12 j).toInt = (mA X 6 b).toInt + (smN X x * mA X 12 j).toInt := fb_addI (by omega) (by omega)
  have rowL : ∀ k, k < 11 → ∀ q, q < 400 → mA X2 (lr k) q = if q = nn (mI X 27) then [mI X 24, nI b, mA X 3 b, nI j, smN X x, m, mA X 12 j, 0, 0, 0, 0].getD k 0 else mA X (lr k) q := fun k hk q hq4 => by
    have hz := (gL q hq4).2
    have hkk : k = 0 ∨ k = 1 ∨ k = 2 ∨ k = 3 ∨ k = 4 ∨ k = 5 ∨ k = 6 ∨ k = 7 ∨ k = 8 ∨ k = 9 ∨ k = 10 := by omega
    rcases hkk with rfl | rfl | rfl | rfl | rfl | rfl | rfl | rfl | rfl | rfl | rfl
    · show mA X2 13 q = _; rw [m13]; rfl
    · show mA X2 14 q = _; rw [m14]; rfl
    · show mA X2 15 q = _; rw [m15]; rfl
    · show mA X2 16 q = _; rw [m16]; rfl
    · show mA X2 17 q = _; rw [m17]; rfl
    · show mA X2 20 q = _; rw [m20, ← hm]; rfl
    · show mA X2 21 q = _; rw [m21]; rfl
    · show mA X2 18 q = if q = nn (mI X 27) then 0 else mA X 18 q
      rw [mm 18 (by decide) (by decide) (by decide) (by decide) (by decide) (by decide) (by decide) (by decide) (by decide)]
      split
      · rename_i z; exact (hz (by omega)).1
      · rfl
    · show mA X2 19 q = if q = nn (mI X 27) then 0 else mA X 19 q
      rw [mm 19 (by decide) (by decide) (by decide) (by decide) (by decide) (by decide) (by decide) (by decide) (by decide)]
      split
      · rename_i z; exact (hz (by omega)).2.1
      · rfl
    · show mA X2 22 q = if q = nn (mI X 27) then 0 else mA X 22 q
      rw [mm 22 (by decide) (by decide) (by decide) (by decide) (by decide) (by decide) (by decide) (by decide) (by decide)]
      split
      · rename_i z; exact (hz (by omega)).2.2.1
      · rfl
    · show mA X2 23 q = if q = nn (mI X 27) then 0 else mA X 23 q
      rw [mm 23 (by decide) (by decide) (by decide) (by decide) (by decide) (by decide) (by decide) (by decide) (by decide)]
      split
      · rename_i z; exact (hz (by omega)).2.2.2
      · rfl
  have mk : ∀ k, k ≠ 40 → k ≠ 6 → (k < 13 ∨ 21 < k) → mA X2 k = mA X k := fun k q1 q2 q3 => mm k q1 q2 (by omega) (by omega) (by omega) (by omega) (by omega) (by omega) (by omega)
  refine ⟨⟨hsh, fun t => ?_, ⟨msh, ?_, gC.cg (fun k _ => mk k (by omega) (by omega) (by omega)), ?_, gP.cg (fun k _ _ => mk k (by omega) (by omega) (by omega)) (mi 25 (by decide)), gY.cg (fun k _ _ => mk k (by omega) (by omega) (by omega)) (mi 26 (by decide)), ?_⟩, ?_, hC.cg (fun _ _ => by rw [iA]; exact ⟨rfl, rfl⟩) (fun k _ => mk k (by omega) (by omega) (by omega)), ?_, hP.cg (fun b _ => by rw [iA]; exact ⟨rfl, rfl⟩) (fun k _ _ => mk k (by omega) (by omega) (by omega)) (mi 25 (by decide)), hY.cg (fun i _ k _ _ => i1 _ _ (by unfold fid; omega) (by unfold fid; omega) (by omega) (Or.inl (by unfold fid; omega))) (fun k _ _ => mk k (by omega) (by omega) (by omega)) (mi 26 (by decide)), ?_, hT.cg (by rw [iA]) (mk 43 (by omega) (by omega) (by omega)) (mi 47 (by decide)), hR.cg iQ (fun b _ => ⟨by rw [iA], i1 _ _ (by decide) (by decide) (by omega) (Or.inl (by decide))⟩) (mk 44 (by omega) (by omega) (by omega)) (mk 46 (by omega) (by omega) (by omega))⟩, fun y hyn => ?_, fun q hq1 hq2 => ?_⟩
  · by_cases e : t = 1000 + nn (mI X 27)
    · rw [e, i6]; exact ⟨Int.le_refl _, by decide⟩
    · rw [i1 _ _ (by decide) (by decide) e (Or.inl (by decide))]; exact h2 t
  · unfold RgN
    rw [mi 25 (by decide), mi 26 (by decide), mi 24 (by decide), mi 28 (by decide), mi 29 (by decide), mi 47 (by decide), m27]
    exact ⟨r25, r26, by omega, r24, r28, r29, r47⟩
  · intro i hi
    have c := gB i hi
    rw [mk 2 (by decide) (by decide) (by omega), mk 3 (by decide) (by decide) (by omega), m6, mi 25 (by decide), m27, e27]
    refine ⟨c.1, c.2.1, ?_, fun z k k1 k2 => ?_⟩
    · by_cases e : i = b
      · rw [e, pk_us, e6]; omega
      · rw [pk_un e]; omega
    · by_cases e : k = 6
      · rw [e, m6, pk_un (by omega)]; exact c.2.2.2 z 6 (by omega) (by omega)
      · rw [mk k (by omega) e (by omega)]; exact c.2.2.2 z k k1 k2
  · intro q hq4
    have c := gL q hq4
    have l7 := rowL 7 (by omega) q hq4
    have l8 := rowL 8 (by omega) q hq4
    have l9 := rowL 9 (by omega) q hq4
    have l10 := rowL 10 (by omega) q hq4
    rw [mi 26 (by decide), en, m16, m17]
    refine ⟨fun z => ?_, fun z => ?_⟩
    · by_cases e : q = nn (mI X 27)
      · rw [e, pk_us, pk_us, nI_toInt (by omega)]
        have := nn_int r26.1
        omega
      · rw [pk_un e, pk_un e]; exact c.1 (by omega)
    · rw [if_neg (by omega)] at l7 l8 l9 l10
      have c := c.2 (by omega)
      exact ⟨l7.trans c.1, l8.trans c.2.1, l9.trans c.2.2.1, l10.trans c.2.2.2⟩
  · unfold SmN
    rw [mi 25 (by decide), mi 26 (by decide), mi 24 (by decide), mi 28 (by decide), mi 29 (by decide), mi 47 (by decide), mi 30 (by decide), mi 31 (by decide), mi 32 (by decide), mi 33 (by decide), mi 34 (by decide), m27]
    have z : ∀ f a, a < 1000 → f ≠ fid 7 4 → f ≠ fid 0 6 → f ≠ fid 8 11 → sI S2 f a = sI S f a := fun f a ha q1 q2 q3 => i1 f a q1 q2 (by omega) (Or.inl q3)
    exact ⟨(z _ _ (by decide) (by decide) (by decide) (by decide)).trans n9, (z _ _ (by decide) (by decide) (by decide) (by decide)).trans n10, i4, (z _ _ (by decide) (by decide) (by decide) (by decide)).trans n12, (z _ _ (by decide) (by decide) (by decide) (by decide)).trans n13, (z _ _ (by decide) (by decide) (by decide) (by decide)).trans n14, (z _ _ (by decide) (by decide) (by decide) (by decide)).trans n15, (z _ _ (by decide) (by decide) (by decide) (by decide)).trans n16, (z _ _ (by decide) (by decide) (by decide) (by decide)).trans n17, (z _ _ (by decide) (by decide) (by decide) (by decide)).trans nw, (z _ _ (by decide) (by decide) (by decide) (by decide)).trans ng, (z _ _ (by decide) (by decide) (by decide) (by decide)).trans nz⟩
  · intro i hi hin k hk hk2
    rw [mi 25 (by decide)] at hin
    by_cases e : k = 6
    · subst e
      rw [i3 i hi, m6]
      by_cases eb : i = b
      · rw [if_pos eb, eb, pk_us]
      · rw [if_neg eb, pk_un eb]; exact hB i hi hin 6 hk hk2
    · rw [i1 _ _ (by unfold fid; omega) (by unfold fid; omega) (by omega) (Or.inl (by unfold fid; omega)), mk k (by omega) e (by omega)]
      exact hB i hi hin k hk hk2
  · intro q hq4 hqn k hk
    rw [rowL k hk q hq4]
    by_cases e : q = nn (mI X 27)
    · rw [if_pos e, e]; exact i5 k hk
    · rw [if_neg e, i1 _ _ (by unfold fid; omega) (by unfold fid; omega) (by omega) (Or.inl (by unfold fid; omega))]
      exact hL q hq4 (by omega) k hk
  · rw [mi 26 (by decide)] at hyn
    have c := hy y hyn
    rw [i2 y (by unfold nn at hyn; omega), m40]
    by_cases e : y = j
    · rw [if_pos e, e, pk_us, fb_subI (by omega) (by omega)]
      refine ⟨rfl, by omega, by omega⟩
    · rw [if_neg e, pk_un e]; exact c
  · rw [en] at hq2
    rw [m20, ← hm]
    by_cases e : q = nn (mI X 27)
    · rw [e, pk_us]; exact hm2
    · rw [pk_un e]; exact hq q hq1 (by omega)
