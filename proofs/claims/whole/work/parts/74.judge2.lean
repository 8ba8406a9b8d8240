/-! ===== judge, branded ===== -/
theorem vlM_p {T : HS} {q : Nat} {p : Nat → Int32} : vlM (setA T (ma 52) p) q = vlM T q := by
  funext w
  have e : ∀ k, k ≠ 52 → mA (setA T (ma 52) p) k = mA T k := fun k hk => sA_setn (by unfold ma; omega)
  unfold vlM
  rw [e 21 (by decide), e 18 (by decide), e 19 (by decide), e 22 (by decide), e 13 (by decide)]
  rfl
theorem hs_cd {T : HS} {q b : Nat} {p : Nat → Int32} {N : Nat} (h : ∀ i, i < N → cOk (msk (mA T 44) b) (cdI (msk (mA T 44) b) (vlM T q) p i)) : ∀ i, i ≤ N → hsI (setA T (ma 52) p) q b i = (420 * b + (cdI (msk (mA T 44) b) (vlM T q) p i).1, (cdI (msk (mA T 44) b) (vlM T q) p i).2)
  | 0, _ => by
    show (420 * b, 0, mA (setA T (ma 52) p) 52) = (420 * b + 0, 0, p)
    rw [show mA (setA T (ma 52) p) 52 = p from sA_set _ _ _]
    rfl
  | i + 1, hi => by
    have ih := hs_cd h i (by omega)
    have ho := h i (by omega)
    have e44 : mA (setA T (ma 52) p) 44 = mA T 44 := sA_setn (by decide)
    show hsN (setA T (ma 52) p) q (hsI (setA T (ma 52) p) q b i) = (420 * b + (cdN (msk (mA T 44) b) (vlM T q) (cdI (msk (mA T 44) b) (vlM T q) p i)).1, (cdN (msk (mA T 44) b) (vlM T q) (cdI (msk (mA T 44) b) (vlM T q) p i)).2)
    rw [ih]
    generalize cdI (msk (mA T 44) b) (vlM T q) p i = st at *
    have hk := ho.1
    have m0 : msk (mA T 44) b st.1 = mA T 44 (420 * b + st.1) := if_pos (by omega)
    have m1 : msk (mA T 44) b (st.1 + 1) = mA T 44 (420 * b + (st.1 + 1)) := if_pos (by omega)
    have m2 : msk (mA T 44) b (st.1 + 2) = mA T 44 (420 * b + (st.1 + 2)) := if_pos (by omega)
    have m3 : msk (mA T 44) b (st.1 + 3) = mA T 44 (420 * b + (st.1 + 3)) := if_pos (by omega)
    unfold hsN cdN
    dsimp only
    rw [vlM_p, e44, m0, m1, m2, m3]
    by_cases z : mA T 44 (420 * b + st.1) = 0
    · rw [if_pos z, if_pos z]
      rfl
    · rw [if_neg z, if_neg z]
      rfl
theorem cEn_h {T : HS} {q b : Nat} {p : Nat → Int32} {N : Nat} (hb : b < 4) (h : cEn (msk (mA T 44) b) (vlM T q) p N) : hEn (setA T (ma 52) p) q b N ∧ (hsI (setA T (ma 52) p) q b N).2.2 = (cdI (msk (mA T 44) b) (vlM T q) p N).2.2 := by
  obtain ⟨h1, h2, h3, h4⟩ := h
  have e := hs_cd h1
  have e44 : mA (setA T (ma 52) p) 44 = mA T 44 := sA_setn (by decide)
  refine ⟨⟨fun i hi => ?_, ?_, ?_, ?_⟩, by rw [e N (Nat.le_refl _)]⟩
  · have ho := h1 i hi
    rw [e i (by omega)]
    generalize cdI (msk (mA T 44) b) (vlM T q) p i = st at *
    obtain ⟨o1, o2, o3, o4⟩ := ho
    have m0 : msk (mA T 44) b st.1 = mA T 44 (420 * b + st.1) := if_pos (by omega)
    rw [m0] at o2 o3 o4
    unfold hOk
    rw [e44]
    exact ⟨by show 420 * b + st.1 + 3 < 1680; omega, o2, o3, o4⟩
  · rw [e N (Nat.le_refl _)]
    show 420 * b + _ < 1680
    omega
  · rw [e N (Nat.le_refl _), e44]
    have m0 : msk (mA T 44) b (cdI (msk (mA T 44) b) (vlM T q) p N).1 = mA T 44 (420 * b + (cdI (msk (mA T 44) b) (vlM T q) p N).1) := if_pos h2
    rw [m0] at h3
    exact h3
  · rw [e N (Nat.le_refl _)]
    exact h4
theorem hEn_one {X : HS} {q b N M : Nat} (h : hEn X q b N) (h2 : hEn X q b M) : N = M := by
  rcases Nat.lt_trichotomy N M with z | z | z
  · exact absurd h.2.2.1 (h2.1 N z).2.1
  · exact z
  · exact absurd h2.2.2.1 (h.1 M z).2.1
theorem meas {S T : HS} (h : Sim S T) {q : Nat} (hq : q < nn (mI T 27)) : mF S (1000 + q) (cI S 12) 99 = vlM T q 0 ∧ mF S (1000 + q) (cI S 12) 115 = vlM T q 1 ∧ mF S (1000 + q) (cI S 12) 119 = vlM T q 2 ∧ mF S (1000 + q) (cI S 12) 97 = vlM T q 3 ∧ mF S (1000 + q) (cI S 12) 112 = vlM T q 4 := by
  have hL := h.2.2.2.2.2.2.2.2.1
  have r27 := h.rn.2.2.1
  have hq4 : q < 400 := by unfold nn at hq; omega
  have e7 : sI S (fid 2 7) (1000 + q) = mA T 18 q := hL q hq4 hq 7 (by omega)
  have e8 : sI S (fid 2 8) (1000 + q) = mA T 19 q := hL q hq4 hq 8 (by omega)
  have e9 : sI S (fid 2 9) (1000 + q) = mA T 22 q := hL q hq4 hq 9 (by omega)
  have e0 : sI S (fid 2 0) (1000 + q) = mA T 13 q := hL q hq4 hq 0 (by omega)
  have e6 : sI S (fid 2 6) (1000 + q) = mA T 21 q := hL q hq4 hq 6 (by omega)
  refine ⟨?_, ?_, ?_, ?_, ?_⟩
  · unfold mF
    rw [if_neg (by decide), if_pos (by decide), e7]; rfl
  · unfold mF
    rw [if_neg (by decide), if_neg (by decide), if_neg (by decide), if_pos (by decide), e8]; rfl
  · unfold mF
    rw [if_neg (by decide), if_neg (by decide), if_neg (by decide), if_neg (by decide), if_pos (by decide), e9]; rfl
  · unfold mF
    rw [if_pos (by decide), e0, h.n.2.2.2.1]; rfl
  · unfold mF
    rw [if_neg (by decide), if_neg (by decide), if_pos (by decide), e6]; rfl
theorem Sim.allE {S T : HS} (h : Sim S T) : AllE T := fun b hb hh q hq p => by
  rcases h.2.2.2.2.2.2.2.2.2.2 b hb with ⟨-, z⟩ | ⟨-, -, ht⟩
  · exact absurd z hh
  · obtain ⟨N, hN, -⟩ := ht _ _ (meas h hq) 0 0 p
    exact ⟨N, (cEn_h hb hN).1⟩
/-- what a brand says of a lot, on both sides -/
theorem says_eq {S T : HS} (h : Sim S T) {b q : Nat} (hb : b < 4) (hq : q < nn (mI T 27)) : (hldR S b (1000 + q) → yesM T q b ∧ ¬ noM T q b) ∧ (nhdR S b (1000 + q) → noM T q b ∧ ¬ yesM T q b) := by
  rcases h.2.2.2.2.2.2.2.2.2.2 b hb with ⟨z1, z2⟩ | ⟨z1, z2, ht⟩
  · refine ⟨fun ⟨t, s, n, k, _⟩ => (by rw [z1] at k; cases k), fun _ => ⟨Or.inl z2, fun k => k.1 z2⟩⟩
  · have key : ∀ (s n : Int32) (p : Nat → Int32) (M : Nat), hEn (setA T (ma 52) p) q b M → ((vFin S s n (300 + 2 * b) (1000 + q) (cI S 12)).1 &&& 1 = 1 ↔ ¬ (hsI (setA T (ma 52) p) q b M).2.2 0 = 0) := fun s n p M hM => by
      obtain ⟨N, hN, hi⟩ := ht _ _ (meas h hq) s n p
      obtain ⟨k1, k2⟩ := cEn_h hb hN
      rw [hEn_one hM k1, k2]
      unfold vFin
      rw [show 300 + 2 * b + 1 = 301 + 2 * b by omega]
      exact hi
    obtain ⟨N0, hN0⟩ := h.allE b hb z2 q hq (fun _ => 0)
    refine ⟨fun ⟨t, s, n, k1, k2⟩ => ?_, fun k => ?_⟩
    · have et : 300 + 2 * b = t := Option.some.inj (z1.symm.trans k1)
      subst et
      refine ⟨⟨z2, fun _ => 0, N0, hN0, (key s n _ N0 hN0).mp k2⟩, fun w => ?_⟩
      rcases w with w | ⟨p, N, w1, w2⟩
      · exact z2 w
      · exact (key s n p N w1).mp k2 w2
    · rcases k with k | ⟨t, s, n, k1, k2⟩
      · rw [z1] at k; cases k
      · have et : 300 + 2 * b = t := Option.some.inj (z1.symm.trans k1)
        subst et
        refine ⟨Or.inr ⟨fun _ => 0, N0, hN0, ?_⟩, fun w => ?_⟩
        · exact Classical.byContradiction fun z => k2 ((key s n _ N0 hN0).mpr z)
        · obtain ⟨-, p, N, w1, w2⟩ := w
          exact k2 ((key s n p N w1).mpr w2)
theorem st_judge {S T S2 T2 : HS} {a z r1 r2 : Int32} (h : Sim S T) (ha : 0 ≤ a.toInt ∧ a.toInt ≤ 3) (hh : ¬ mA T 46 (nn a) = 0) (hz : 0 ≤ z.toInt ∧ z.toInt < (mI T 27).toInt) (h8 : r1 = (match txt S a with | none => (-1 : Int32) | some t => if 0 ≤ z.toInt ∧ z.toInt < (cI S 11).toInt then b2i ((vFin S (sI S (fid 6 3) 16) (sI S (fid 6 4) 16) t (1000 + nn z) (cI S 12)).1 &&& 1 = 1) else -1) ∧ ∃ v, S2 = setV S v) (h9 : ((r2 = 1 ∧ yesM T (nn z) (nn a)) ∨ (r2 = 0 ∧ noM T (nn z) (nn a))) ∧ ∃ p, T2 = setA T (ma 52) p) : r1 = r2 ∧ Sim S2 T2 := by
  obtain ⟨h8, v, rfl⟩ := h8
  obtain ⟨h9, p, rfl⟩ := h9
  refine ⟨?_, (h.sV v).row (Or.inr (Or.inr (by decide))) p⟩
  have ha4 : nn a < 4 := by unfold nn; omega
  have hq : nn z < nn (mI T 27) := by unfold nn; omega
  rcases h.2.2.2.2.2.2.2.2.2.2 (nn a) ha4 with ⟨-, w⟩ | ⟨w1, -, -⟩
  · exact absurd w hh
  · have et : txt S a = some (300 + 2 * nn a) := by
      unfold txt
      rw [if_pos ⟨ha.1, by omega⟩]; exact w1
    rw [et] at h8
    dsimp only at h8
    rw [h.n.2.2.1, if_pos hz] at h8
    have sy := says_eq h ha4 hq
    by_cases c : (vFin S (sI S (fid 6 3) 16) (sI S (fid 6 4) 16) (300 + 2 * nn a) (1000 + nn z) (cI S 12)).1 &&& 1 = 1
    · rw [b2i_t c] at h8
      have := sy.1 ⟨_, _, _, w1, c⟩
      rcases h9 with ⟨k, -⟩ | ⟨-, k⟩
      · rw [h8, k]
      · exact absurd k this.2
    · rw [b2i_f c] at h8
      have := sy.2 (Or.inr ⟨_, _, _, w1, c⟩)
      rcases h9 with ⟨-, k⟩ | ⟨k, -⟩
      · exact absurd k this.2
      · rw [h8, k]
theorem st_judgeN {S T S2 T2 : HS} {a z r1 r2 : Int32} (h : Sim S T) (hn : ¬ ((0 ≤ a.toInt ∧ a.toInt ≤ 3) ∧ ¬ mA T 46 a.toNatClampNeg = 0 ∧ 0 ≤ z.toInt ∧ z.toInt < (mI T 27).toInt)) (h8 : r1 = (match txt S a with | none => (-1 : Int32) | some t => if 0 ≤ z.toInt ∧ z.toInt < (cI S 11).toInt then b2i ((vFin S (sI S (fid 6 3) 16) (sI S (fid 6 4) 16) t (1000 + nn z) (cI S 12)).1 &&& 1 = 1) else -1) ∧ ∃ v, S2 = setV S v) (h9 : r2 = -1 ∧ T2 = T) : r1 = r2 ∧ Sim S2 T2 := by
  obtain ⟨h8, v, rfl⟩ := h8
  obtain ⟨h9, e9⟩ := h9
  rw [e9]
  refine ⟨?_, h.sV v⟩
  rw [h9]
  by_cases ha : 0 ≤ a.toInt ∧ a.toInt < 4
  · have ha4 : nn a < 4 := by unfold nn; omega
    have et : txt S a = sQ S 10 (nn a) := by
      unfold txt
      rw [if_pos ha]
    rcases h.2.2.2.2.2.2.2.2.2.2 (nn a) ha4 with ⟨w, -⟩ | ⟨w1, w2, -⟩
    · rw [et, w] at h8; exact h8
    · rw [et, w1] at h8
      dsimp only at h8
      rw [h.n.2.2.1, if_neg (fun q => hn ⟨⟨ha.1, by omega⟩, w2, q⟩)] at h8
      exact h8
  · have et : txt S a = none := by
      unfold txt
      rw [if_neg ha]
    rw [et] at h8; exact h8
theorem st_branded {S T S2 T2 : HS} {z r1 r2 : Int32} (h : Sim S T) (hz : 0 ≤ z.toInt ∧ z.toInt < (mI T 27).toInt) (h8 : (if 0 ≤ z.toInt ∧ z.toInt < (cI S 11).toInt then (∃ i, i < 4 ∧ (∀ j, j < i → nhdR S j (1000 + nn z)) ∧ hldR S i (1000 + nn z) ∧ r1 = nI i) ∨ ((∀ j, j < 4 → nhdR S j (1000 + nn z)) ∧ r1 = -1) else r1 = -1) ∧ ∃ v, S2 = setV S v) (h9 : ((∃ i, i < 4 ∧ (∀ j, j < i → noM T (nn z) j) ∧ yesM T (nn z) i ∧ r2 = nI i) ∨ ((∀ j, j < 4 → noM T (nn z) j) ∧ r2 = -1)) ∧ ∃ p, T2 = setA T (ma 52) p) : r1 = r2 ∧ Sim S2 T2 := by
  obtain ⟨h8, v, rfl⟩ := h8
  obtain ⟨h9, p, rfl⟩ := h9
  refine ⟨?_, (h.sV v).row (Or.inr (Or.inr (by decide))) p⟩
  have hq : nn z < nn (mI T 27) := by unfold nn; omega
  rw [h.n.2.2.1, if_pos hz] at h8
  have sy := fun j (hj : j < 4) => says_eq h hj hq
  rcases h8 with ⟨i, i1, i2, i3, i4⟩ | ⟨i1, i2⟩
  · rcases h9 with ⟨k, k1, k2, k3, k4⟩ | ⟨k1, k2⟩
    · have : i = k := by
        rcases Nat.lt_trichotomy i k with w | w | w
        · exact absurd (k2 i w) ((sy i i1).1 i3).2
        · exact w
        · exact absurd k3 ((sy k k1).2 (i2 k w)).2
      rw [i4, k4, this]
    · exact absurd (k1 i i1) ((sy i i1).1 i3).2
  · rcases h9 with ⟨k, k1, k2, k3, k4⟩ | ⟨k1, k2⟩
    · exact absurd k3 ((sy k k1).2 (i1 k k1)).2
    · rw [i2, k2]
theorem st_brandedN {S T S2 T2 : HS} {z r1 r2 : Int32} (h : Sim S T) (hz : ¬ (0 ≤ z.toInt ∧ z.toInt < (mI T 27).toInt)) (h8 : (if 0 ≤ z.toInt ∧ z.toInt < (cI S 11).toInt then (∃ i, i < 4 ∧ (∀ j, j < i → nhdR S j (1000 + nn z)) ∧ hldR S i (1000 + nn z) ∧ r1 = nI i) ∨ ((∀ j, j < 4 → nhdR S j (1000 + nn z)) ∧ r1 = -1) else r1 = -1) ∧ ∃ v, S2 = setV S v) (h9 : r2 = -1 ∧ T2 = T) : r1 = r2 ∧ Sim S2 T2 := by
  obtain ⟨h8, v, rfl⟩ := h8
  obtain ⟨h9, e9⟩ := h9
  rw [e9]
  refine ⟨?_, h.sV v⟩
  rw [h.n.2.2.1, if_neg hz] at h8
  rw [h8, h9]
theorem sim_start : Sim oC11 (mM1 13) := by
  have zI : ∀ f a, ¬ (f = fid 8 13 ∧ a = 0) → sI oC11 f a = 0 := fun f a q => by rw [oC11_I, if_neg q]
  have mi : ∀ k, k ≠ 29 → mI (mM1 13) k = 0 := fun k hk => by
    show sI (mM1 13) (fid 9 k) 2000 = 0
    rw [mM1_I, if_neg (fun z => hk (by have := z.1; unfold fid at this; omega))]
  have m29 : mI (mM1 13) 29 = 300 := by
    show sI (mM1 13) (fid 9 29) 2000 = 300
    rw [mM1_I, if_pos ⟨rfl, rfl⟩]
  have mA0 : ∀ k j, mA (mM1 13) k j = 0 := fun k j => by
    show sA (mM1 13) (ma k) j = _
    rw [mM1_A]
  have sA0 : ∀ t j, sA oC11 t j = 0 := fun t j => by
    have e : sA oC11 = sA oC10 := sA_setI oC10 (fid 8 13) 0 300
    rw [e, oC10_Z.2]
  have c13 : cI oC11 13 = 300 := by
    show sI oC11 (fid 8 13) 0 = 300
    rw [oC11_I, if_pos ⟨rfl, rfl⟩]
  have z0 : (0 : Int32).toInt = 0 := rfl
  have n0 : nn (0 : Int32) = 0 := rfl
  refine ⟨oC_sh, fun t => ?_, ⟨mM_sh, ?_, ?_, ?_, ?_, ?_, ?_⟩, ?_, ?_, ?_, ?_, ?_, ?_, ?_, ?_⟩
  · rw [zI _ _ (fun z => absurd z.1 (by decide))]; exact ⟨Int.le_refl _, by decide⟩
  · unfold RgN
    rw [mi 25 (by decide), mi 26 (by decide), mi 27 (by decide), mi 24 (by decide), mi 28 (by decide), m29, mi 47 (by decide)]
    decide
  · intro j _
    rw [mA0, mA0]
    exact ⟨by decide, Or.inl rfl⟩
  · intro i _
    rw [mA0, mA0, mA0, mi 27 (by decide)]
    exact ⟨by decide, by decide, by decide, fun _ k _ _ => by rw [mA0]⟩
  · intro i _ x _
    rw [mA0, mA0]
    exact ⟨by decide, fun _ => ⟨rfl, rfl⟩⟩
  · intro y _
    rw [mA0, mA0, mA0, mi 26 (by decide), n0]
    exact ⟨by decide, fun q => absurd q (Nat.not_lt_zero _), fun _ => rfl⟩
  · intro q _
    rw [mA0, mA0, mA0, mA0, mA0, mA0, mi 27 (by decide), n0]
    exact ⟨fun z => absurd z (Nat.not_lt_zero _), fun _ => ⟨rfl, rfl, rfl, rfl⟩⟩
  · unfold SmN
    rw [mi 25 (by decide), mi 26 (by decide), mi 27 (by decide), mi 24 (by decide), mi 28 (by decide), m29, mi 47 (by decide), mi 30 (by decide), mi 31 (by decide), mi 32 (by decide), mi 33 (by decide), mi 34 (by decide), c13]
    refine ⟨?_, ?_, ?_, ?_, rfl, ?_, ?_, ?_, ?_, ?_, ?_, ?_⟩ <;> exact zI _ _ (by decide)
  · intro j _
    rw [sA0, sA0, mA0, mA0]
    exact ⟨rfl, rfl⟩
  · intro i _ hn
    rw [mi 25 (by decide), n0] at hn
    exact absurd hn (Nat.not_lt_zero _)
  · intro i _ hn
    rw [mi 25 (by decide), n0] at hn
    exact absurd hn (Nat.not_lt_zero _)
  · intro i _ hn
    rw [mi 26 (by decide), n0] at hn
    exact absurd hn (Nat.not_lt_zero _)
  · intro i _ hn
    rw [mi 27 (by decide), n0] at hn
    exact absurd hn (Nat.not_lt_zero _)
  · intro j hj
    rw [mi 47 (by decide), n0] at hj
    exact absurd hj (Nat.not_lt_zero _)
  · intro b _
    left
    exact ⟨oC11_O.2 10 b, by rw [mA0]⟩
