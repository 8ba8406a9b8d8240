/-! ===== settle: the portions of the system are those of the reference ===== -/
theorem nI_subN {a b : Nat} (h : b ≤ a) : nI a - nI b = nI (a - b) := by
  have : nI a = nI (a - b) + nI b := by rw [nI_add]; congr 1; omega
  rw [this]
  exact Int32.add_sub_cancel _ _
theorem nn_nI {n : Nat} (h : n < 2 ^ 31) : nn (nI n) = n := by
  unfold nn; rw [nI_toInt h]; omega
theorem nn_leN {x : Int32} {n : Nat} (h : x.toInt ≤ n) : nn x ≤ n := by
  unfold nn; omega
theorem nn_lt (x : Int32) : nn x < 2 ^ 31 := by
  have := (fb_rng x).2
  unfold nn; omega
theorem l_sum_sm {f : Nat → Int32} : ∀ {n : Nat}, (∀ k, k < n → 0 ≤ (f k).toInt) → l_sum f n = nI (fb_sm (fun k => nn (f k)) n)
  | 0, _ => rfl
  | n + 1, h => by
    show l_sum f n + f n = _
    rw [l_sum_sm (fun k hk => h k (by omega)), fb_sm_succ, ← nI_add, nI_nn (h n (by omega))]
theorem fb_sm_pad {f : Nat → Nat} {n N : Nat} (hn : n ≤ N) (h : ∀ k, n ≤ k → k < N → f k = 0) : fb_sm f N = fb_sm f n := by
  obtain ⟨d, rfl⟩ := Nat.exists_eq_add_of_le hn
  rw [fb_sm_split]
  have : fb_sm (fun k => f (n + k)) d ≤ d * 0 := fb_sm_bound (fun k hk => by rw [h (n + k) (by omega) (by omega)]; exact Nat.le_refl _)
  omega
theorem pqr_nI {n m s : Nat} (hn : n < 2 ^ 31) (hm : m ≤ 100) (h0 : 0 < s) (hs : s < 2 ^ 31) : pq (nI n) (nI m) (nI s) = nI (n * m / s) ∧ pr (nI n) (nI m) (nI s) = nI (n * m % s) := by
  have hp : n * m < 2 ^ 63 := by
    have := Nat.mul_le_mul (Nat.le_of_lt hn) hm
    omega
  unfold pq pr
  rw [nI_l hn, nI_l (show m < 2 ^ 31 by omega), nI_l hs, lN_mul, pk_lRem hp h0 (by omega), pk_lDiv hp h0 (by omega), lN_i, lN_i]
  exact ⟨rfl, rfl⟩
theorem lfN_nI {n : Nat} {g : Nat → Nat} {G : Nat → Int32} : ∀ {i : Nat}, (∀ k, k < i → G k = nI (g k)) → fb_sm g i ≤ n → lfN (nI n) G i = nI (n - fb_sm g i)
  | 0, _, _ => rfl
  | i + 1, h, hle => by
    show lfN (nI n) G i - G i = _
    rw [fb_sm_succ] at hle
    rw [lfN_nI (fun k hk => h k (by omega)) (by omega), h i (by omega), fb_sm_succ, nI_subN (by omega)]
    congr 1; omega
/-- the system's parting among twelve is the reference's -/
theorem parP_prt {n s : Int32} {m b c : Nat → Int32} {M : Nat → Nat} (hn : 0 ≤ n.toInt) (hm : ∀ k, k < 12 → m k = nI (M k) ∧ M k ≤ 100) (hs : s = nI (fb_sm M 12)) (h0 : 0 < fb_sm M 12) {k : Nat} (hk : k < 12) : parP n s m b c k = nI (prt (nn n) M 12 k) := by
  have hS : fb_sm M 12 ≤ 12 * 100 := fb_sm_bound (fun k hk => (hm k hk).2)
  have hsi : s.toInt = fb_sm M 12 := by rw [hs, nI_toInt (by omega)]
  have hnn := nn_lt n
  have e : ∀ j, j < 12 → pq n (m j) s = nI (pQ (nn n) M 12 j) ∧ pr n (m j) s = nI (pT (nn n) M 12 j) := fun j hj => by
    have := pqr_nI hnn (hm j hj).2 h0 (show fb_sm M 12 < 2 ^ 31 by omega)
    rw [nI_nn hn, ← (hm j hj).1, ← hs] at this
    exact this
  have hle := pQ_le (n := nn n) h0 (Nat.le_refl 12)
  have hL := pL_lt (n := nn n) h0
  unfold parP
  rw [if_pos (by omega)]
  have eL : lfN n (fun j => pq n (m j) s) 12 = nI (pL (nn n) M 12) := by
    have := lfN_nI (n := nn n) (g := pQ (nn n) M 12) (G := fun j => pq n (m j) s) (i := 12) (fun k hk => (e k hk).1) hle
    rw [nI_nn hn] at this
    exact this
  rw [eL, nn_nI (by omega), Nat.min_eq_left (by omega)]
  exact ((itR_gv (s := nn n) h0 (by omega) (fun k hk => by rw [fillR_in hk]; exact (e k hk).1) (fun k hk => by rw [fillR_in hk]; exact (e k hk).2)) (Nat.le_refl _) k hk).1
theorem scr_I {S : HS} {x : Int32} {a b c : Nat → Int32} {f t : Nat} (h : f ≠ fid 3 3) : sI (scr S x a b c) f t = sI S f t := by
  show sI (setI S (fid 3 3) 11 x) f t = _
  rw [sI_setIn (Or.inl h)]
theorem scr_Ax {S : HS} {x : Int32} {a b c : Nat → Int32} {t : Nat} (h : t < 12 ∨ 14 < t) : sA (scr S x a b c) t = sA S t := by
  unfold scr
  rw [sA_setn (by omega), sA_setn (by omega), sA_setn (by omega), sA_setI]
theorem scr_sh2 {S : HS} {x : Int32} {a b c : Nat → Int32} (h : ShC S) : ShC (scr S x a b c) := (((h.setI (by decide)).setA).setA).setA
/-- scratch rows matter to nobody -/
theorem Sim.sC {S T : HS} (h : Sim S T) (x : Int32) (a b c : Nat → Int32) : Sim (scr S x a b c) T := by
  obtain ⟨h1, h2, g, hN, hC, hB, hP, hY, hL, hT, hR⟩ := h
  obtain ⟨n9, n10, n11, n12, n13, n14, n15, n16, n17, nw, ng, nz⟩ := hN
  refine ⟨scr_sh2 h1, fun t => by rw [scr_I (by decide)]; exact h2 t, g, ⟨(scr_I (by decide)).trans n9, (scr_I (by decide)).trans n10, (scr_I (by decide)).trans n11, (scr_I (by decide)).trans n12, (scr_I (by decide)).trans n13, (scr_I (by decide)).trans n14, (scr_I (by decide)).trans n15, (scr_I (by decide)).trans n16, (scr_I (by decide)).trans n17, (scr_I (by decide)).trans nw, (scr_I (by decide)).trans ng, (scr_I (by decide)).trans nz⟩, hC.cg (fun j _ => by rw [scr_Ax (by omega), scr_Ax (by omega)]; exact ⟨rfl, rfl⟩) (fun _ _ => rfl), hB.cg (fun i _ k _ _ => scr_I (by unfold fid; omega)) (fun _ _ _ => rfl) rfl, hP.cg (fun i _ => ⟨scr_Ax (by omega), scr_Ax (by omega)⟩) (fun _ _ _ => rfl) rfl, hY.cg (fun i _ k _ _ => scr_I (by unfold fid; omega)) (fun _ _ _ => rfl) rfl, hL.cg (fun i _ k _ => scr_I (by unfold fid; omega)) (fun _ _ _ => rfl) rfl, hT.cg (scr_Ax (by omega)) rfl rfl, hR.cg rfl (fun b _ => ⟨scr_Ax (by omega), scr_I (by decide)⟩) rfl rfl⟩
theorem Sim.sM {S T : HS} (h : Sim S T) (a b c d : Nat → Int32) : Sim S (scM T a b c d) := by
  obtain ⟨h1, h2, ⟨g0, gN, gC, gB, gP, gY, gL⟩, hN, hC, hB, hP, hY, hL, hT, hR⟩ := h
  have e : ∀ j, j < 35 ∨ 38 < j → mA (scM T a b c d) j = mA T j := fun j hj => scM_A hj
  exact ⟨h1, h2, ⟨g0.scM _ _ _ _, gN, gC.cg (fun k _ => e k (by omega)), gB.cg (fun k _ _ => e k (by omega)) rfl rfl, gP.cg (fun k _ _ => e k (by omega)) rfl, gY.cg (fun k _ _ => e k (by omega)) rfl, gL.cg (fun k _ _ => e k (by omega)) rfl rfl⟩, hN, hC.cg (fun _ _ => ⟨rfl, rfl⟩) (fun k _ => e k (by omega)), hB.cg (fun _ _ _ _ _ => rfl) (fun k _ _ => e k (by omega)) rfl, hP.cg (fun _ _ => ⟨rfl, rfl⟩) (fun k _ _ => e k (by omega)) rfl, hY.cg (fun _ _ _ _ _ => rfl) (fun k _ _ => e k (by omega)) rfl, hL.cg (fun _ _ _ _ => rfl) (fun k _ _ => e k (by omega)) rfl, hT.cg rfl (e 43 (by omega)) rfl, hR.cg rfl (fun _ _ => ⟨rfl, rfl⟩) (e 44 (by omega)) (e 46 (by omega))⟩
set_option maxHeartbeats 1000000 in
theorem Sim.paid {S T : HS} {bb : Nat} {P Q : Nat → Int32} (h : Sim S T) (hb12 : bb < 12) (hbb : bb < nn (mI T 25)) (hPQ : ∀ k, k < 8 → P k = Q k) : Sim (setI (setA S (102 + 3 * bb) (fillR P (sA S (102 + 3 * bb)) 8)) (fid 0 6) (100 + 3 * bb) 0) (setA (setA T (ma 9) (fb_put (mA T 9) Q (8 * bb) 8)) (ma 6) (upd (mA T 6) bb 0)) := by
  obtain ⟨h1, h2, ⟨g0, gN, gC, gB, gP, gY, gL⟩, hN, hC, hB, hP, hY, hL, hT, hR⟩ := id h
  obtain ⟨n9, n10, n11, n12, n13, n14, n15, n16, n17, nw, ng, nz⟩ := id hN
  obtain ⟨r25, r26, r27, r24, r28, r29, r47⟩ := id gN
  refine ⟨h1.setA.setI (by decide), fun t => by rw [sI_setIn (Or.inl (by decide)), sI_setA]; exact h2 t, ⟨(g0.setA _ _).setA _ _, gN, gC.cg (by intros; (try apply And.intro) <;> (try simp only [cI, mI, mA, sI_setI, sI_setA, sA_setI, sA_setA, sQ_setI, sQ_setA, up2, va_up, ma, fid]) <;> (first | rfl | ((repeat rw [if_neg (by omega)]) <;> rfl))), ?_, ?_, gY.cg (by intros; (try apply And.intro) <;> (try simp only [cI, mI, mA, sI_setI, sI_setA, sA_setI, sA_setA, sQ_setI, sQ_setA, up2, va_up, ma, fid]) <;> (first | rfl | ((repeat rw [if_neg (by omega)]) <;> rfl))) (by intros; (try apply And.intro) <;> (try simp only [cI, mI, mA, sI_setI, sI_setA, sA_setI, sA_setA, sQ_setI, sQ_setA, up2, va_up, ma, fid]) <;> (first | rfl | ((repeat rw [if_neg (by omega)]) <;> rfl))), gL.cg (by intros; (try apply And.intro) <;> (try simp only [cI, mI, mA, sI_setI, sI_setA, sA_setI, sA_setA, sQ_setI, sQ_setA, up2, va_up, ma, fid]) <;> (first | rfl | ((repeat rw [if_neg (by omega)]) <;> rfl))) (by intros; (try apply And.intro) <;> (try simp only [cI, mI, mA, sI_setI, sI_setA, sA_setI, sA_setA, sQ_setI, sQ_setA, up2, va_up, ma, fid]) <;> (first | rfl | ((repeat rw [if_neg (by omega)]) <;> rfl))) (by intros; (try apply And.intro) <;> (try simp only [cI, mI, mA, sI_setI, sI_setA, sA_setI, sA_setA, sQ_setI, sQ_setA, up2, va_up, ma, fid]) <;> (first | rfl | ((repeat rw [if_neg (by omega)]) <;> rfl)))⟩, ⟨(sI_setIn (Or.inl (by decide))).trans n9, (sI_setIn (Or.inl (by decide))).trans n10, (sI_setIn (Or.inl (by decide))).trans n11, (sI_setIn (Or.inl (by decide))).trans n12, (sI_setIn (Or.inl (by decide))).trans n13, (sI_setIn (Or.inl (by decide))).trans n14, (sI_setIn (Or.inl (by decide))).trans n15, (sI_setIn (Or.inl (by decide))).trans n16, (sI_setIn (Or.inl (by decide))).trans n17, (sI_setIn (Or.inl (by decide))).trans nw, (sI_setIn (Or.inl (by decide))).trans ng, (sI_setIn (Or.inl (by decide))).trans nz⟩, hC.cg (by intros; (try apply And.intro) <;> (try simp only [cI, mI, mA, sI_setI, sI_setA, sA_setI, sA_setA, sQ_setI, sQ_setA, up2, va_up, ma, fid]) <;> (first | rfl | ((repeat rw [if_neg (by omega)]) <;> rfl))) (by intros; (try apply And.intro) <;> (try simp only [cI, mI, mA, sI_setI, sI_setA, sA_setI, sA_setA, sQ_setI, sQ_setA, up2, va_up, ma, fid]) <;> (first | rfl | ((repeat rw [if_neg (by omega)]) <;> rfl))), ?_, ?_, hY.cg (by intros; (try apply And.intro) <;> (try simp only [cI, mI, mA, sI_setI, sI_setA, sA_setI, sA_setA, sQ_setI, sQ_setA, up2, va_up, ma, fid]) <;> (first | rfl | ((repeat rw [if_neg (by omega)]) <;> rfl))) (by intros; (try apply And.intro) <;> (try simp only [cI, mI, mA, sI_setI, sI_setA, sA_setI, sA_setA, sQ_setI, sQ_setA, up2, va_up, ma, fid]) <;> (first | rfl | ((repeat rw [if_neg (by omega)]) <;> rfl))) (by intros; (try apply And.intro) <;> (try simp only [cI, mI, mA, sI_setI, sI_setA, sA_setI, sA_setA, sQ_setI, sQ_setA, up2, va_up, ma, fid]) <;> (first | rfl | ((repeat rw [if_neg (by omega)]) <;> rfl))), hL.cg (by intros; (try apply And.intro) <;> (try simp only [cI, mI, mA, sI_setI, sI_setA, sA_setI, sA_setA, sQ_setI, sQ_setA, up2, va_up, ma, fid]) <;> (first | rfl | ((repeat rw [if_neg (by omega)]) <;> rfl))) (by intros; (try apply And.intro) <;> (try simp only [cI, mI, mA, sI_setI, sI_setA, sA_setI, sA_setA, sQ_setI, sQ_setA, up2, va_up, ma, fid]) <;> (first | rfl | ((repeat rw [if_neg (by omega)]) <;> rfl))) (by intros; (try apply And.intro) <;> (try simp only [cI, mI, mA, sI_setI, sI_setA, sA_setI, sA_setA, sQ_setI, sQ_setA, up2, va_up, ma, fid]) <;> (first | rfl | ((repeat rw [if_neg (by omega)]) <;> rfl))), hT.cg (by intros; (try apply And.intro) <;> (try simp only [cI, mI, mA, sI_setI, sI_setA, sA_setI, sA_setA, sQ_setI, sQ_setA, up2, va_up, ma, fid]) <;> (first | rfl | ((repeat rw [if_neg (by omega)]) <;> rfl))) (by intros; (try apply And.intro) <;> (try simp only [cI, mI, mA, sI_setI, sI_setA, sA_setI, sA_setA, sQ_setI, sQ_setA, up2, va_up, ma, fid]) <;> (first | rfl | ((repeat rw [if_neg (by omega)]) <;> rfl))) (by intros; (try apply And.intro) <;> (try simp only [cI, mI, mA, sI_setI, sI_setA, sA_setI, sA_setA, sQ_setI, sQ_setA, up2, va_up, ma, fid]) <;> (first | rfl | ((repeat rw [if_neg (by omega)]) <;> rfl))), hR.cg (by intros; (try apply And.intro) <;> (try simp only [cI, mI, mA, sI_setI, sI_setA, sA_setI, sA_setA, sQ_setI, sQ_setA, up2, va_up, ma, fid]) <;> (first | rfl | ((repeat rw [if_neg (by omega)]) <;> rfl))) (by intros; (try apply And.intro) <;> (try simp only [cI, mI, mA, sI_setI, sI_setA, sA_setI, sA_setA, sQ_setI, sQ_setA, up2, va_up, ma, fid]) <;> (first | rfl | ((repeat rw [if_neg (by omega)]) <;> rfl))) (by intros; (try apply And.intro) <;> (try simp only [cI, mI, mA, sI_setI, sI_setA, sA_setI, sA_setA, sQ_setI, sQ_setA, up2, va_up, ma, fid]) <;> (first | rfl | ((repeat rw [if_neg (by omega)]) <;> rfl))) (by intros; (try apply And.intro) <;> (try simp only [cI, mI, mA, sI_setI, sI_setA, sA_setI, sA_setA, sQ_setI, sQ_setA, up2, va_up, ma, fid]) <;> (first | rfl | ((repeat rw [if_neg (by omega)]) <;> rfl)))⟩
  · exact fun i hi => by
      have c := gB i hi
      have e : ∀ k, k ≤ 7 → k ≠ 6 → mA (setA (setA T (ma 9) (fb_put (mA T 9) Q (8 * bb) 8)) (ma 6) (upd (mA T 6) bb 0)) k = mA T k := fun k hk hk6 => by
        show sA _ (ma k) = _
        rw [sA_setn (by unfold ma; omega), sA_setn (by unfold ma; omega)]
      have e6 : mA (setA (setA T (ma 9) (fb_put (mA T 9) Q (8 * bb) 8)) (ma 6) (upd (mA T 6) bb 0)) 6 = upd (mA T 6) bb 0 := sA_set _ _ _
      refine ⟨by rw [e 2 (by omega) (by omega)]; exact c.1, by rw [e 3 (by omega) (by omega)]; exact c.2.1, ?_, fun z k k1 k2 => ?_⟩
      · rw [e6]
        by_cases q : i = bb
        · rw [q, pk_us]
          refine ⟨Int.le_refl _, ?_⟩
          show (0 : Int) ≤ 50000 * (mI T 27).toInt
          omega
        · rw [pk_un q]; exact c.2.2.1
      · have z : nn (mI T 25) ≤ i := z
        by_cases k6 : k = 6
        · rw [k6, e6, pk_un (by omega)]; exact c.2.2.2 z 6 (by omega) (by omega)
        · rw [e k k2 k6]; exact c.2.2.2 z k k1 k2
  · exact fun i hi x hx => by
      have c := gP i hi x hx
      have e8 : mA (setA (setA T (ma 9) (fb_put (mA T 9) Q (8 * bb) 8)) (ma 6) (upd (mA T 6) bb 0)) 8 = mA T 8 := by
        show sA _ (ma 8) = _
        rw [sA_setn (by decide), sA_setn (by decide)]
      have e9 : mA (setA (setA T (ma 9) (fb_put (mA T 9) Q (8 * bb) 8)) (ma 6) (upd (mA T 6) bb 0)) 9 = fb_put (mA T 9) Q (8 * bb) 8 := by
        show sA _ (ma 9) = _
        rw [sA_setn (by decide), sA_set]
      rw [e8, e9]
      refine ⟨c.1, fun z => ?_⟩
      have z : nn (mI T 25) ≤ i := z
      rw [fb_put_out (by omega)]; exact c.2 z
  · exact fun i hi hn k hk hk2 => by
      by_cases k6 : k = 6
      · subst k6
        rw [show mA (setA (setA T (ma 9) (fb_put (mA T 9) Q (8 * bb) 8)) (ma 6) (upd (mA T 6) bb 0)) 6 = upd (mA T 6) bb 0 from sA_set _ _ _]
        by_cases q : i = bb
        · rw [q, pk_us, sI_setIe]
        · rw [pk_un q, sI_setIn (Or.inr (by omega)), sI_setA]; exact hB i hi hn 6 hk hk2
      · rw [show mA (setA (setA T (ma 9) (fb_put (mA T 9) Q (8 * bb) 8)) (ma 6) (upd (mA T 6) bb 0)) k = mA T k from (sA_setn (by unfold ma; omega)).trans (sA_setn (by unfold ma; omega)), sI_setIn (Or.inl (by unfold fid; omega)), sI_setA]
        exact hB i hi hn k hk hk2
  · exact fun i hi hn x hx => by
      have c := hP i hi hn x hx
      rw [show mA (setA (setA T (ma 9) (fb_put (mA T 9) Q (8 * bb) 8)) (ma 6) (upd (mA T 6) bb 0)) 8 = mA T 8 from (sA_setn (by decide)).trans (sA_setn (by decide)), show mA (setA (setA T (ma 9) (fb_put (mA T 9) Q (8 * bb) 8)) (ma 6) (upd (mA T 6) bb 0)) 9 = fb_put (mA T 9) Q (8 * bb) 8 from (sA_setn (by decide)).trans (sA_set _ _ _), sA_setI, sA_setn (show 101 + 3 * i ≠ 102 + 3 * bb by omega)]
      refine ⟨c.1, ?_⟩
      by_cases q : i = bb
      · subst q
        rw [sA_set, fillR_in hx, hPQ x hx, fb_put_in (by omega) (by omega)]
        congr 1; omega
      · rw [sA_setn (by omega), fb_put_out (by omega)]; exact c.2
set_option maxHeartbeats 1000000 in
theorem st_settle {S T S2 T2 : HS} {bt r1 r2 : Int32} (h : Sim S T) (ho : 0 ≤ bt.toInt ∧ bt.toInt < (mI T 25).toInt) (h8 : (r1 = if (0 ≤ bt.toInt ∧ bt.toInt < (cI S 9).toInt ∧ ¬ sI S (fid 0 6) (100 + 3 * nn bt) = 0 ∧ ¬ l_sum (sA S (101 + 3 * nn bt)) 8 = 0) then sI S (fid 0 6) (100 + 3 * nn bt) else -1) ∧ ∃ x m b c, S2 = if (0 ≤ bt.toInt ∧ bt.toInt < (cI S 9).toInt ∧ ¬ sI S (fid 0 6) (100 + 3 * nn bt) = 0 ∧ ¬ l_sum (sA S (101 + 3 * nn bt)) 8 = 0) then setI (setA (scr S x m b c) (102 + 3 * nn bt) (fillR (fun j => (sA S (102 + 3 * nn bt)) j + (parP (sI S (fid 0 6) (100 + 3 * nn bt)) (l_sum (sA S (101 + 3 * nn bt)) 8) (fillR (sA S (101 + 3 * nn bt)) (fillR (fun _ => 0) (sA S 13) 12) 8) (fillR (fun _ => 0) (sA S 12) 12) (sA S 14)) j) (sA S (102 + 3 * nn bt)) 8)) (fid 0 6) (100 + 3 * nn bt) 0 else scr S x m b c) (h9 : (r2 = if (0 < fb_sm (fun k => nn (mA T 8 (8 * (nn bt) + k))) 8 ∧ ¬ (mA T 6 (nn bt)) = 0) then (mA T 6 (nn bt)) else -1) ∧ ∃ a b c, T2 = scM (if (0 < fb_sm (fun k => nn (mA T 8 (8 * (nn bt) + k))) 8 ∧ ¬ (mA T 6 (nn bt)) = 0) then setA (setA T (ma 9) (fb_put (mA T 9) (fun k => mA T 9 (8 * (nn bt) + k) + nI (prt (nn (mA T 6 (nn bt))) (fun k => nn (mA T 8 (8 * (nn bt) + k))) 8 k)) (8 * (nn bt)) 8)) (ma 6) (upd (mA T 6) (nn bt) 0) else T) a b c (mA T 38)) : r1 = r2 ∧ Sim S2 T2 := by
  obtain ⟨h1, h2, ⟨g0, gN, gC, gB, gP, gY, gL⟩, hN, hC, hB, hP, hY, hL, hT, hR⟩ := id h
  obtain ⟨n9, n10, n11, n12, n13, n14, n15, n16, n17, nw, ng, nz⟩ := id hN
  obtain ⟨r25, r26, r27, r24, r28, r29, r47⟩ := id gN
  have hlt : nn bt < nn (mI T 25) := by unfold nn; omega
  have h12 : nn bt < 12 := by unfold nn; omega
  obtain ⟨e8, x, ma, mb, mc, s8⟩ := h8
  obtain ⟨e9, ra, rb, rc, s9⟩ := h9
  have eo : sI S (fid 0 6) (100 + 3 * nn bt) = mA T 6 (nn bt) := hB _ h12 hlt 6 (by omega) (by omega)
  have ep : ∀ k, k < 8 → sA S (101 + 3 * nn bt) k = mA T 8 (8 * nn bt + k) := fun k hk => (hP _ h12 hlt k hk).1
  have gp : ∀ k, k < 8 → 0 ≤ (mA T 8 (8 * nn bt + k)).toInt ∧ (mA T 8 (8 * nn bt + k)).toInt ≤ 100 := fun k hk => (gP _ h12 k hk).1
  have go := (gB _ h12).2.2.1
  have esum : l_sum (sA S (101 + 3 * nn bt)) 8 = nI (fb_sm (fun k => nn (mA T 8 (8 * nn bt + k))) 8) := by
    rw [l_sum_cg (g := fun k => mA T 8 (8 * nn bt + k)) ep]
    exact l_sum_sm (f := fun k => mA T 8 (8 * nn bt + k)) (fun k hk => (gp k hk).1)
  have hsb : fb_sm (fun k => nn (mA T 8 (8 * nn bt + k))) 8 ≤ 8 * 100 := fb_sm_bound (fun k hk => nn_leN (gp k hk).2)
  have hz : (¬ l_sum (sA S (101 + 3 * nn bt)) 8 = 0) ↔ 0 < fb_sm (fun k => nn (mA T 8 (8 * nn bt + k))) 8 := by
    rw [esum, fa_eq, nI_toInt (by omega)]
    have z0 : (0 : Int32).toInt = 0 := rfl
    omega
  have hs : (0 ≤ bt.toInt ∧ bt.toInt < (cI S 9).toInt ∧ ¬ sI S (fid 0 6) (100 + 3 * nn bt) = 0 ∧ ¬ l_sum (sA S (101 + 3 * nn bt)) 8 = 0) ↔ (0 < fb_sm (fun k => nn (mA T 8 (8 * nn bt + k))) 8 ∧ ¬ (mA T 6 (nn bt)) = 0) := by
    rw [hz, eo, n9]
    exact ⟨fun q => ⟨q.2.2.2, q.2.2.1⟩, fun q => ⟨ho.1, ho.2, q.2, q.1⟩⟩
  by_cases q : (0 < fb_sm (fun k => nn (mA T 8 (8 * nn bt + k))) 8 ∧ ¬ (mA T 6 (nn bt)) = 0)
  · rw [if_pos (hs.mpr q)] at e8 s8
    rw [if_pos q] at e9 s9
    refine ⟨by rw [e8, e9, eo], ?_⟩
    rw [s8, s9]
    refine Sim.sM ?_ _ _ _ _
    have hrow : ∀ j, j < 8 → (sA S (102 + 3 * nn bt)) j + (parP (sI S (fid 0 6) (100 + 3 * nn bt)) (l_sum (sA S (101 + 3 * nn bt)) 8) (fillR (sA S (101 + 3 * nn bt)) (fillR (fun _ => 0) (sA S 13) 12) 8) (fillR (fun _ => 0) (sA S 12) 12) (sA S 14)) j = mA T 9 (8 * nn bt + j) + nI (prt (nn (mA T 6 (nn bt))) (fun k => nn (mA T 8 (8 * nn bt + k))) 8 j) := fun j hj => by
      have hcmp : Cmp (fun k => k) (fun k => nn (mA T 8 (8 * nn bt + k))) (fun k => if k < 8 then nn (mA T 8 (8 * nn bt + k)) else 0) 8 12 := by
        refine ⟨fun i j h _ => h, fun i hi => (show i < 12 by omega), fun b hb hne => ?_, fun i hi => by simp [hi]⟩
        by_cases b8 : b < 8
        · exact ⟨b, b8, rfl⟩
        · exact absurd (by simp [b8]) hne
      have hsm := hcmp.sm
      rw [(hP _ h12 hlt j hj).2, parP_prt (M := fun k => if k < 8 then nn (mA T 8 (8 * nn bt + k)) else 0) (by rw [eo]; exact go.1) (fun k hk => ?_) (by rw [esum, hsm]) (by rw [← hsm]; exact q.1) (show j < 12 by omega), eo]
      · rw [← hcmp.pt (by rw [← hsm]; exact q.1) hj]
      · by_cases k8 : k < 8
        · have := gp k k8
          rw [fillR_in k8, ep k k8, if_pos k8, nI_nn this.1]
          exact ⟨rfl, nn_leN this.2⟩
        · rw [if_neg k8]
          refine ⟨?_, by omega⟩
          rw [fillR_eq]
          simp only [k8, if_false]
          rw [fillR_in hk]; rfl
    have := Sim.paid (h.sC x ma mb mc) h12 hlt (P := fun j => (sA S (102 + 3 * nn bt)) j + (parP (sI S (fid 0 6) (100 + 3 * nn bt)) (l_sum (sA S (101 + 3 * nn bt)) 8) (fillR (sA S (101 + 3 * nn bt)) (fillR (fun _ => 0) (sA S 13) 12) 8) (fillR (fun _ => 0) (sA S 12) 12) (sA S 14)) j) (Q := fun k => mA T 9 (8 * nn bt + k) + nI (prt (nn (mA T 6 (nn bt))) (fun k => nn (mA T 8 (8 * nn bt + k))) 8 k)) hrow
    rw [scr_Ax (by omega)] at this
    exact this
  · rw [if_neg (fun z => q (hs.mp z))] at e8 s8
    rw [if_neg q] at e9 s9
    refine ⟨by rw [e8, e9], ?_⟩
    rw [s8, s9]
    exact (h.sC _ _ _ _).sM _ _ _ _
theorem st_settleN {S T S2 T2 : HS} {bt r1 r2 : Int32} (h : Sim S T) (ho : ¬ (0 ≤ bt.toInt ∧ bt.toInt < (mI T 25).toInt)) (h8 : (r1 = if (0 ≤ bt.toInt ∧ bt.toInt < (cI S 9).toInt ∧ ¬ sI S (fid 0 6) (100 + 3 * nn bt) = 0 ∧ ¬ l_sum (sA S (101 + 3 * nn bt)) 8 = 0) then sI S (fid 0 6) (100 + 3 * nn bt) else -1) ∧ ∃ x m b c, S2 = if (0 ≤ bt.toInt ∧ bt.toInt < (cI S 9).toInt ∧ ¬ sI S (fid 0 6) (100 + 3 * nn bt) = 0 ∧ ¬ l_sum (sA S (101 + 3 * nn bt)) 8 = 0) then setI (setA (scr S x m b c) (102 + 3 * nn bt) (fillR (fun j => (sA S (102 + 3 * nn bt)) j + (parP (sI S (fid 0 6) (100 + 3 * nn bt)) (l_sum (sA S (101 + 3 * nn bt)) 8) (fillR (sA S (101 + 3 * nn bt)) (fillR (fun _ => 0) (sA S 13) 12) 8) (fillR (fun _ => 0) (sA S 12) 12) (sA S 14)) j) (sA S (102 + 3 * nn bt)) 8)) (fid 0 6) (100 + 3 * nn bt) 0 else scr S x m b c) (h9 : r2 = -1 ∧ T2 = T) : r1 = r2 ∧ Sim S2 T2 := by
  obtain ⟨e8, x, ma, mb, mc, s8⟩ := h8
  obtain ⟨e9, s9⟩ := h9
  have hs : ¬ (0 ≤ bt.toInt ∧ bt.toInt < (cI S 9).toInt ∧ ¬ sI S (fid 0 6) (100 + 3 * nn bt) = 0 ∧ ¬ l_sum (sA S (101 + 3 * nn bt)) 8 = 0) := fun z => ho (by rw [← h.n.1]; exact ⟨z.1, z.2.1⟩)
  rw [if_neg hs] at e8 s8
  refine ⟨by rw [e8, e9], ?_⟩
  rw [s8, s9]
  exact h.sC _ _ _ _
