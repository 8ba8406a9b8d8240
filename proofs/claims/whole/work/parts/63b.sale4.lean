/-! ===== one sale, the relation ===== -/
set_option maxHeartbeats 2000000 in
theorem SR.sell {fr : Nat} {S X : HS} {b : Nat} {m x : Int32} (h : SR fr S X) (hb12 : b < 12) (hb : b < nn (mI X 25)) (hm : m = minF (mA X 3 b)) (hm2 : 30 ≤ m.toInt ∧ m.toInt ≤ 330) (hc : smC X x) : SR fr (slH S b m x) (smH b X x) ∧ slN S x = smN X x := by
  obtain ⟨j, hj4, hjn, ej, ebuy, eN, erl, ebid, eow, ecl, hr5, hN5⟩ := sl_f (m := m) h hb12 hb hc
  have hsh : ShC (slH S b m x) := slH_sh h.1.1 ((slC_iff h x).mpr hc)
  have msh : ShM (smH b X x) := sellS_sh h.1.m _ _ _
  obtain ⟨i1, i2, i3, i4, i5, i6, iA, iQ⟩ := sl_v (m := m) hb12 hj4 ebuy eN erl ebid eow ecl h.1.n.2.2.1 h.1.n.2.2.2.1
  obtain ⟨mi, m27, mm, m40, m6, m13, m14, m15, m16, m17, m20, m21⟩ := sm_v (x := x) hb12 hj4 ej
  refine ⟨?_, eN⟩
  have hl := hc.2.2
  generalize slH S b m x = S2 at *
  generalize smH b X x = X2 at *
  clear ebuy
  obtain ⟨hs, hy, hq⟩ := h
  obtain ⟨h1, h2, ⟨g0, gN, gC, gB, gP, gY, gL⟩, hN, hC, hB, hP, hY, hL, hT, hR⟩ := hs
  obtain ⟨n9, n10, n11, n12, n13, n14, n15, n16, n17, nw, ng, nz⟩ := hN
  obtain ⟨r25, r26, r27, r24, r28, r29, r47⟩ := id gN
  have hnl4 : nn (mI X 27) < 400 := by unfold nn; omega
  have one : (1 : Int32).toInt = 1 := rfl
  have e27 : (mI X 27 + 1).toInt = (mI X 27).toInt + 1 := by rw [fb_addI (by omega) (by omega)]; rfl
  have en : nn (mI X2 27) = nn (mI X 27) + 1 := by rw [m27]; unfold nn; omega
  have hbd := (gY j hj4).1
  have ho := (gB b hb12).2.2.1
  have hpr : 0 ≤ (smN X x * mA X 12 j).toInt ∧ (smN X x * mA X 12 j).toInt ≤ 50000 := by
    have p1 : (smN X x).toInt * (mA X 12 j).toInt ≤ 500 * 100 := Int.mul_le_mul hN5.2.1 hbd.2 hbd.1 (by decide)
    have p2 : 0 ≤ (smN X x).toInt * (mA X 12 j).toInt := Int.mul_nonneg (by omega) hbd.1
    rw [fb_mulI (by omega) (by omega)]; omega
  have e6 : (mA X 6 b + smN X x * mA X 12 j).toInt = (mA X 6 b).toInt + (smN X x * mA X 12 j).toInt := fb_addI (by omega) (by omega)
  have rowL : ∀ k, k < 11 → ∀ q, q < 400 → mA X2 (lr k) q = if q = nn (mI X 27) then [mI X 24, nI b, mA X 3 b, nI j, smN X x, m, mA X 12 j, 0, 0, 0, 0].getD k 0 else mA X (lr k) q := fun k hk q hq4 => by
    have hz := (gL q hq4).2
    have hkk : k = 0 ∨ k = 1 ∨ k = 2 ∨ k = 3 ∨ k = 4 ∨ k = 5 ∨ k = 6 ∨ k = 7 ∨ k = 8 ∨ k = 9 ∨ k = 10 := by omega
    rcases hkk with rfl | rfl | rfl | rfl | rfl | rfl | rfl | rfl | rfl | rfl | rfl
    · show mA X2 13 q = _; rw [m13]; rfl
    · show mA X2 14 q = _; rw [m14]; rfl
    · show mA X2 15 q = _; rw [m15]; rfl
    · show mA X2 16 q = _; rw [m16]; rfl
    · show mA X2 17 q = _; rw [m17]; rfl
    · show mA X2 20 q = _; rw [m20, ← hm]; rfl
    · show mA X2 21 q = _; rw [m21]; rfl
    · show mA X2 18 q = if q = nn (mI X 27) then 0 else mA X 18 q
      rw [mm 18 (by decide) (by decide) (by decide) (by decide) (by decide) (by decide) (by decide) (by decide) (by decide)]
      split
      · rename_i z; exact (hz (by omega)).1
      · rfl
    · show mA X2 19 q = if q = nn (mI X 27) then 0 else mA X 19 q
      rw [mm 19 (by decide) (by decide) (by decide) (by decide) (by decide) (by decide) (by decide) (by decide) (by decide)]
      split
      · rename_i z; exact (hz (by omega)).2.1
      · rfl
    · show mA X2 22 q = if q = nn (mI X 27) then 0 else mA X 22 q
      rw [mm 22 (by decide) (by decide) (by decide) (by decide) (by decide) (by decide) (by decide) (by decide) (by decide)]
      split
      · rename_i z; exact (hz (by omega)).2.2.1
      · rfl
    · show mA X2 23 q = if q = nn (mI X 27) then 0 else mA X 23 q
      rw [mm 23 (by decide) (by decide) (by decide) (by decide) (by decide) (by decide) (by decide) (by decide) (by decide)]
      split
      · rename_i z; exact (hz (by omega)).2.2.2
      · rfl
  have mk : ∀ k, k ≠ 40 → k ≠ 6 → (k < 13 ∨ 21 < k) → mA X2 k = mA X k := fun k q1 q2 q3 => mm k q1 q2 (by omega) (by omega) (by omega) (by omega) (by omega) (by omega) (by omega)
  refine ⟨⟨hsh, fun t => ?_, ⟨msh, ?_, gC.cg (fun k _ => mk k (by omega) (by omega) (by omega)), ?_, gP.cg (fun k _ _ => mk k (by omega) (by omega) (by omega)) (mi 25 (by decide)), gY.cg (fun k _ _ => mk k (by omega) (by omega) (by omega)) (mi 26 (by decide)), ?_⟩, ?_, hC.cg (fun _ _ => by rw [iA]; exact ⟨rfl, rfl⟩) (fun k _ => mk k (by omega) (by omega) (by omega)), ?_, hP.cg (fun b _ => by rw [iA]; exact ⟨rfl, rfl⟩) (fun k _ _ => mk k (by omega) (by omega) (by omega)) (mi 25 (by decide)), hY.cg (fun i _ k _ _ => i1 _ _ (by unfold fid; omega) (by unfold fid; omega) (by omega) (Or.inl (by unfold fid; omega))) (fun k _ _ => mk k (by omega) (by omega) (by omega)) (mi 26 (by decide)), ?_, hT.cg (by rw [iA]) (mk 43 (by omega) (by omega) (by omega)) (mi 47 (by decide)), hR.cg iQ (fun b _ => ⟨by rw [iA], i1 _ _ (by decide) (by decide) (by omega) (Or.inl (by decide))⟩) (mk 44 (by omega) (by omega) (by omega)) (mk 46 (by omega) (by omega) (by omega))⟩, fun y hyn => ?_, fun q hq1 hq2 => ?_⟩
  · by_cases e : t = 1000 + nn (mI X 27)
    · rw [e, i6]; exact ⟨Int.le_refl _, by decide⟩
    · rw [i1 _ _ (by decide) (by decide) e (Or.inl (by decide))]; exact h2 t
  · unfold RgN
    rw [mi 25 (by decide), mi 26 (by decide), mi 24 (by decide), mi 28 (by decide), mi 29 (by decide), mi 47 (by decide), m27]
    exact ⟨r25, r26, by omega, r24, r28, r29, r47⟩
  · intro i hi
    have c := gB i hi
    rw [mk 2 (by decide) (by decide) (by omega), mk 3 (by decide) (by decide) (by omega), m6, mi 25 (by decide), m27, e27]
    refine ⟨c.1, c.2.1, ?_, fun z k k1 k2 => ?_⟩
    · by_cases e : i = b
      · rw [e, pk_us, e6]; omega
      · rw [pk_un e]; omega
    · by_cases e : k = 6
      · rw [e, m6, pk_un (by omega)]; exact c.2.2.2 z 6 (by omega) (by omega)
      · rw [mk k (by omega) e (by omega)]; exact c.2.2.2 z k k1 k2
  · intro q hq4
    have c := gL q hq4
    have l7 := rowL 7 (by omega) q hq4
    have l8 := rowL 8 (by omega) q hq4
    have l9 := rowL 9 (by omega) q hq4
    have l10 := rowL 10 (by omega) q hq4
    rw [mi 26 (by decide), en, m16, m17]
    refine ⟨fun z => ?_, fun z => ?_⟩
    · by_cases e : q = nn (mI X 27)
      · rw [e, pk_us, pk_us, nI_toInt (by omega)]
        have := nn_int r26.1
        omega
      · rw [pk_un e, pk_un e]; exact c.1 (by omega)
    · rw [if_neg (by omega)] at l7 l8 l9 l10
      have c := c.2 (by omega)
      exact ⟨l7.trans c.1, l8.trans c.2.1, l9.trans c.2.2.1, l10.trans c.2.2.2⟩
  · unfold SmN
    rw [mi 25 (by decide), mi 26 (by decide), mi 24 (by decide), mi 28 (by decide), mi 29 (by decide), mi 47 (by decide), mi 30 (by decide), mi 31 (by decide), mi 32 (by decide), mi 33 (by decide), mi 34 (by decide), m27]
    have z : ∀ f a, a < 1000 → f ≠ fid 7 4 → f ≠ fid 0 6 → f ≠ fid 8 11 → sI S2 f a = sI S f a := fun f a ha q1 q2 q3 => i1 f a q1 q2 (by omega) (Or.inl q3)
    exact ⟨(z _ _ (by decide) (by decide) (by decide) (by decide)).trans n9, (z _ _ (by decide) (by decide) (by decide) (by decide)).trans n10, i4, (z _ _ (by decide) (by decide) (by decide) (by decide)).trans n12, (z _ _ (by decide) (by decide) (by decide) (by decide)).trans n13, (z _ _ (by decide) (by decide) (by decide) (by decide)).trans n14, (z _ _ (by decide) (by decide) (by decide) (by decide)).trans n15, (z _ _ (by decide) (by decide) (by decide) (by decide)).trans n16, (z _ _ (by decide) (by decide) (by decide) (by decide)).trans n17, (z _ _ (by decide) (by decide) (by decide) (by decide)).trans nw, (z _ _ (by decide) (by decide) (by decide) (by decide)).trans ng, (z _ _ (by decide) (by decide) (by decide) (by decide)).trans nz⟩
  · intro i hi hin k hk hk2
    rw [mi 25 (by decide)] at hin
    by_cases e : k = 6
    · subst e
      rw [i3 i hi, m6]
      by_cases eb : i = b
      · rw [if_pos eb, eb, pk_us]
      · rw [if_neg eb, pk_un eb]; exact hB i hi hin 6 hk hk2
    · rw [i1 _ _ (by unfold fid; omega) (by unfold fid; omega) (by omega) (Or.inl (by unfold fid; omega)), mk k (by omega) e (by omega)]
      exact hB i hi hin k hk hk2
  · intro q hq4 hqn k hk
    rw [rowL k hk q hq4]
    by_cases e : q = nn (mI X 27)
    · rw [if_pos e, e]; exact i5 k hk
    · rw [if_neg e, i1 _ _ (by unfold fid; omega) (by unfold fid; omega) (by omega) (Or.inl (by unfold fid; omega))]
      exact hL q hq4 (by omega) k hk
  · rw [mi 26 (by decide)] at hyn
    have c := hy y hyn
    rw [i2 y (by unfold nn at hyn; omega), m40]
    by_cases e : y = j
    · rw [if_pos e, e, pk_us, fb_subI (by omega) (by omega)]
      refine ⟨rfl, by omega, by omega⟩
    · rw [if_neg e, pk_un e]; exact c
  · rw [en] at hq2
    rw [m20, ← hm]
    by_cases e : q = nn (mI X 27)
    · rw [e, pk_us]; exact hm2
    · rw [pk_un e]; exact hq q hq1 (by omega)
