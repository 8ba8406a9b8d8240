/-! ===== gutting: cran by cran, lot by lot ===== -/
theorem gmn_min (f : Nat → Int32) : ∀ n j, j ≤ n → (f (gmn f n)).toInt ≤ (f j).toInt
  | 0, j, h => by
    have : j = 0 := by omega
    rw [this]; exact Int.le_refl _
  | n + 1, j, h => by
    have ih := gmn_min f n
    unfold gmn
    split
    · rename_i hlt
      by_cases hj : j = n + 1
      · rw [hj]; exact Int.le_refl _
      · have := ih j (by omega); omega
    · rename_i hlt
      by_cases hj : j = n + 1
      · rw [hj]; omega
      · exact ih j (by omega)
/-- two rows agree as far as the crews go -/
def Ag (cw : Nat) (f g : Nat → Int32) : Prop := ∀ j, j ≤ cw → f j = g j
theorem gmn_cg {f g : Nat → Int32} : ∀ {n : Nat}, Ag n f g → gmn f n = gmn g n
  | 0, _ => rfl
  | n + 1, h => by
    have ih := gmn_cg (f := f) (g := g) (n := n) (fun j hj => h j (by omega))
    have hl := gmn_le g n
    unfold gmn
    rw [ih, h (n + 1) (Nat.le_refl _), h (gmn g n) (by omega)]
theorem gBeg_cg {cw : Nat} {m : Int32} {s t : GS} (h : Ag cw s.1 t.1) : gBeg cw m s = gBeg cw m t := by
  unfold gBeg
  rw [gmn_cg h, h _ (gmn_le _ _)]
theorem gNext_cg {cw : Nat} {m : Int32} {s t : GS} (h : Ag cw s.1 t.1 ∧ s.2 = t.2) : Ag cw (gNext cw m s).1 (gNext cw m t).1 ∧ (gNext cw m s).2 = (gNext cw m t).2 := by
  unfold gNext
  rw [gBeg_cg h.1, gmn_cg h.1, h.2]
  refine ⟨fun j hj => ?_, rfl⟩
  show upd _ _ _ j = upd _ _ _ j
  unfold upd
  split
  · rfl
  · exact h.1 j hj
theorem run_cg {cw : Nat} {m w : Int32} {n : Nat} {s t : GS} (h : Ag cw s.1 t.1 ∧ s.2 = t.2) : Ag cw (runF (gB cw m w) (gNext cw m) n s).1 (runF (gB cw m w) (gNext cw m) n t).1 ∧ (runF (gB cw m w) (gNext cw m) n s).2 = (runF (gB cw m w) (gNext cw m) n t).2 :=
  runF_sim (R := fun s t : GS => Ag cw s.1 t.1 ∧ s.2 = t.2) (fun s t q => by unfold gB; rw [gBeg_cg q.1]) (fun s t q _ => gNext_cg q) n s t h
/-- free minutes in bounds -/
def Bf (cw : Nat) (f : Nat → Int32) : Prop := ∀ j, j ≤ cw → 0 ≤ (f j).toInt ∧ (f j).toInt ≤ 2400
theorem mx2_I (x z : Int32) : (mx2 x z).toInt = if x.toInt < z.toInt then z.toInt else x.toInt := by
  unfold mx2
  simp only [fa_lt]
  split <;> rfl
theorem beg_bd {cw : Nat} {m : Int32} {s : GS} (hf : Bf cw s.1) (hm : 30 ≤ m.toInt ∧ m.toInt ≤ 330) : m.toInt ≤ (gBeg cw m s).toInt ∧ (gBeg cw m s).toInt ≤ 2400 ∧ (s.1 (gmn s.1 cw)).toInt ≤ (gBeg cw m s).toInt ∧ (gBeg cw m s - m).toInt = (gBeg cw m s).toInt - m.toInt ∧ (gBeg cw m s + 12).toInt = (gBeg cw m s).toInt + 12 := by
  have h := hf _ (gmn_le s.1 cw)
  have e : (gBeg cw m s).toInt = if (s.1 (gmn s.1 cw)).toInt < m.toInt then m.toInt else (s.1 (gmn s.1 cw)).toInt := mx2_I _ _
  have h1 : m.toInt ≤ (gBeg cw m s).toInt := by rw [e]; split <;> omega
  have h2 : (gBeg cw m s).toInt ≤ 2400 := by rw [e]; split <;> omega
  have h3 : (s.1 (gmn s.1 cw)).toInt ≤ (gBeg cw m s).toInt := by rw [e]; split <;> omega
  have t : (12 : Int32).toInt = 12 := rfl
  exact ⟨h1, h2, h3, fb_subI (by omega) (by omega), by rw [fb_addI (by omega) (by omega), t]⟩
theorem next_bd {cw : Nat} {m w : Int32} {s : GS} (hf : Bf cw s.1) (hm : 30 ≤ m.toInt ∧ m.toInt ≤ 330) (hw : 0 ≤ w.toInt ∧ w.toInt ≤ 2000) (hg : (gBeg cw m s - m).toInt ≤ w.toInt) : Bf cw (gNext cw m s).1 ∧ (gBeg cw m s).toInt ≤ (gBeg cw m (gNext cw m s)).toInt := by
  obtain ⟨b1, b2, b3, b4, b5⟩ := beg_bd hf hm
  have hB : Bf cw (gNext cw m s).1 := fun j hj => by
    show 0 ≤ (upd _ _ _ j).toInt ∧ (upd _ _ _ j).toInt ≤ 2400
    unfold upd
    split
    · rw [b5]; omega
    · exact hf j hj
  refine ⟨hB, ?_⟩
  obtain ⟨c1, -, c3, -, -⟩ := beg_bd hB hm
  have e : (gBeg cw m s).toInt = if (s.1 (gmn s.1 cw)).toInt < m.toInt then m.toInt else (s.1 (gmn s.1 cw)).toInt := mx2_I _ _
  have key : (s.1 (gmn s.1 cw)).toInt ≤ ((gNext cw m s).1 (gmn (gNext cw m s).1 cw)).toInt := by
    have hl := gmn_le (gNext cw m s).1 cw
    generalize gmn (gNext cw m s).1 cw = k at *
    show _ ≤ (upd s.1 (gmn s.1 cw) (gBeg cw m s + 12) k).toInt
    unfold upd
    split
    · rw [b5]; omega
    · exact gmn_min s.1 cw k hl
  rw [e]
  split <;> omega
theorem wIt_front (cw : Nat) (m w : Int32) (s : WS) : ∀ N, wIt cw m w s (N + 1) = wIt cw m w (wNext cw m w s) N
  | 0 => rfl
  | N + 1 => by
    show wNext cw m w (wIt cw m w s (N + 1)) = wNext cw m w (wIt cw m w (wNext cw m w s) N)
    rw [wIt_front cw m w s N]
theorem wIt_soft {cw : Nat} {m w : Int32} {f : Nat → Int32} {c1 s1 wt dn c sp : Int32} (h : ¬ (wBeg cw m f - m).toInt ≤ w.toInt) : ∀ N, wIt cw m w (f, c1, s1, wt, dn, c, sp) N = (f, c1, s1 + nI N, wt, dn, c, sp + nI N)
  | 0 => by
    show (f, c1, s1, wt, dn, c, sp) = (f, c1, s1 + 0, wt, dn, c, sp + 0)
    simp
  | N + 1 => by
    show wNext cw m w (wIt cw m w (f, c1, s1, wt, dn, c, sp) N) = _
    rw [wIt_soft h N]
    unfold wNext
    dsimp only
    rw [if_neg h, Int32.add_assoc, Int32.add_assoc, nI_1]
/-- what the reference does with a lot's crans, by what the system does -/
theorem wIt_run {cw : Nat} {m w : Int32} (hm : 30 ≤ m.toInt ∧ m.toInt ≤ 330) (hw : 0 ≤ w.toInt ∧ w.toInt ≤ 2000) : ∀ (N : Nat) (f : Nat → Int32) (cu s1 wt dn c sp : Int32), Bf cw f → dn.toInt ≤ (gBeg cw m (f, cu, wt, dn)).toInt + 12 → Bf cw (runF (gB cw m w) (gNext cw m) N (f, cu, wt, dn)).1 ∧ ∃ K, K ≤ N ∧ (runF (gB cw m w) (gNext cw m) N (f, cu, wt, dn)).2.1 = cu + nI K ∧ wIt cw m w (f, cu, s1, wt, dn, c, sp) N = ((runF (gB cw m w) (gNext cw m) N (f, cu, wt, dn)).1, (runF (gB cw m w) (gNext cw m) N (f, cu, wt, dn)).2.1, s1 + nI (N - K), (runF (gB cw m w) (gNext cw m) N (f, cu, wt, dn)).2.2.1, (runF (gB cw m w) (gNext cw m) N (f, cu, wt, dn)).2.2.2, c + nI K, sp + nI (N - K))
  | 0, f, cu, s1, wt, dn, c, sp, hf, hd => by
    refine ⟨hf, 0, Nat.le_refl _, ?_, ?_⟩
    · show cu = cu + 0; simp
    · show (f, cu, s1, wt, dn, c, sp) = (f, cu, s1 + 0, wt, dn, c + 0, sp + 0); simp
  | N + 1, f, cu, s1, wt, dn, c, sp, hf, hd => by
    obtain ⟨b1, b2, b3, b4, b5⟩ := beg_bd (s := (f, cu, wt, dn)) hf hm
    have ew : wBeg cw m f = gBeg cw m (f, cu, wt, dn) := rfl
    by_cases q : (gBeg cw m (f, cu, wt, dn) - m).toInt ≤ w.toInt
    · have hq : gB cw m w (f, cu, wt, dn) = true := decide_eq_true q
      obtain ⟨n1, n2⟩ := next_bd (s := (f, cu, wt, dn)) hf hm hw q
      have eg : gNext cw m (f, cu, wt, dn) = (upd f (gmn f cw) (gBeg cw m (f, cu, wt, dn) + 12), cu + 1, mx2 wt (gBeg cw m (f, cu, wt, dn) - m), gBeg cw m (f, cu, wt, dn) + 12) := by
        unfold gNext
        dsimp only
        have : mx2 dn (gBeg cw m (f, cu, wt, dn) + 12) = gBeg cw m (f, cu, wt, dn) + 12 := by
          rw [fa_eq, mx2_I, b5]
          split <;> omega
        rw [this]
      have er : runF (gB cw m w) (gNext cw m) (N + 1) (f, cu, wt, dn) = runF (gB cw m w) (gNext cw m) N (gNext cw m (f, cu, wt, dn)) := if_pos hq
      have en : wNext cw m w (f, cu, s1, wt, dn, c, sp) = (upd f (gmn f cw) (gBeg cw m (f, cu, wt, dn) + 12), cu + 1, s1, mx2 wt (gBeg cw m (f, cu, wt, dn) - m), gBeg cw m (f, cu, wt, dn) + 12, c + 1, sp) := by
        unfold wNext
        rw [ew]
        exact if_pos q
      rw [eg] at n1 n2
      rw [er, wIt_front, en, eg]
      have ih := wIt_run hm hw N (upd f (gmn f cw) (gBeg cw m (f, cu, wt, dn) + 12)) (cu + 1) s1 (mx2 wt (gBeg cw m (f, cu, wt, dn) - m)) (gBeg cw m (f, cu, wt, dn) + 12) (c + 1) sp n1 (by rw [b5]; omega)
      generalize runF (gB cw m w) (gNext cw m) N (upd f (gmn f cw) (gBeg cw m (f, cu, wt, dn) + 12), cu + 1, mx2 wt (gBeg cw m (f, cu, wt, dn) - m), gBeg cw m (f, cu, wt, dn) + 12) = P at *
      obtain ⟨i1, K, i2, i3, i4⟩ := ih
      have e1 : ∀ x : Int32, x + 1 + nI K = x + nI (K + 1) := fun x => by
        rw [Int32.add_assoc, show (1 : Int32) = nI 1 from rfl, nI_add, Nat.add_comm]
      refine ⟨i1, K + 1, by omega, by rw [i3, e1], ?_⟩
      rw [i4, e1, show N + 1 - (K + 1) = N - K by omega]
    · have hq : ¬ gB cw m w (f, cu, wt, dn) = true := fun z => q (of_decide_eq_true z)
      have er : runF (gB cw m w) (gNext cw m) (N + 1) (f, cu, wt, dn) = (f, cu, wt, dn) := if_neg hq
      rw [er, wIt_soft (by rw [ew]; exact q)]
      refine ⟨hf, 0, Nat.zero_le _, ?_, ?_⟩
      · show cu = cu + 0; simp
      · show (f, cu, s1 + nI (N + 1), wt, dn, c, sp + nI (N + 1)) = (f, cu, s1 + nI (N + 1), wt, dn, c + 0, sp + nI (N + 1)); simp
/-! a yard's day, over the rows of a heap X -/
def cwX (X : HS) (y : Nat) : Nat := nn (mA X 10 y) - 1
def pg (X : HS) (y q : Nat) (f : Nat → Int32) : GS := runF (gB (cwX X y) (mA X 20 q) (mI X 29)) (gNext (cwX X y) (mA X 20 q)) (nn (mA X 17 q)) (f, 0, 0, 0)
def pfy (X : HS) (fr y : Nat) : Nat → Nat → Int32
  | 0 => fun _ => 0
  | k + 1 => if mA X 16 (fr + k) = nI y then (pg X y (fr + k) (pfy X fr y k)).1 else pfy X fr y k
def pres (X : HS) (fr k : Nat) : GS := pg X (nn (mA X 16 (fr + k))) (fr + k) (pfy X fr (nn (mA X 16 (fr + k))) k)
/-- what the gutting wants of the heap X -/
def GH (X : HS) (fr : Nat) : Prop := (0 ≤ (mI X 29).toInt ∧ (mI X 29).toInt ≤ 2000) ∧ ∀ q, fr ≤ q → q < nn (mI X 27) → (30 ≤ (mA X 20 q).toInt ∧ (mA X 20 q).toInt ≤ 330) ∧ 0 ≤ (mA X 17 q).toInt ∧ (0 ≤ (mA X 16 q).toInt ∧ (mA X 16 q).toInt < (mI X 26).toInt)
theorem pg_run {X : HS} {fr y q : Nat} (h : GH X fr) (h1 : fr ≤ q) (h2 : q < nn (mI X 27)) {f : Nat → Int32} (hf : Bf (cwX X y) f) (c sp : Int32) : Bf (cwX X y) (pg X y q f).1 ∧ ∃ K, K ≤ nn (mA X 17 q) ∧ (pg X y q f).2.1 = nI K ∧ wIt (cwX X y) (mA X 20 q) (mI X 29) (f, 0, 0, 0, 0, c, sp) (nn (mA X 17 q)) = ((pg X y q f).1, (pg X y q f).2.1, mA X 17 q - (pg X y q f).2.1, (pg X y q f).2.2.1, (pg X y q f).2.2.2, c + (pg X y q f).2.1, sp + (mA X 17 q - (pg X y q f).2.1)) := by
  obtain ⟨hw, hq⟩ := h
  obtain ⟨hm, hc, -⟩ := hq q h1 h2
  have z0 : (0 : Int32).toInt = 0 := rfl
  have hb := beg_bd (s := (f, 0, 0, 0)) hf hm
  obtain ⟨r1, K, r2, r3, r4⟩ := wIt_run hm hw (nn (mA X 17 q)) f 0 0 0 0 c sp hf (by omega)
  have r3 : (pg X y q f).2.1 = 0 + nI K := r3
  rw [Int32.zero_add] at r3
  refine ⟨r1, K, r2, r3, ?_⟩
  have e : mA X 17 q - (pg X y q f).2.1 = nI (nn (mA X 17 q) - K) := by
    rw [r3, ← nI_subN r2, nI_nn hc]
  have r4 : wIt (cwX X y) (mA X 20 q) (mI X 29) (f, 0, 0, 0, 0, c, sp) (nn (mA X 17 q)) = ((pg X y q f).1, (pg X y q f).2.1, 0 + nI (nn (mA X 17 q) - K), (pg X y q f).2.2.1, (pg X y q f).2.2.2, c + nI K, sp + nI (nn (mA X 17 q) - K)) := r4
  rw [r4, e, Int32.zero_add, r3]
theorem pfy_bd {X : HS} {fr : Nat} (h : GH X fr) {y : Nat} : ∀ k, fr + k ≤ nn (mI X 27) → Bf (cwX X y) (pfy X fr y k)
  | 0, _ => fun j _ => (show 0 ≤ (0 : Int32).toInt ∧ (0 : Int32).toInt ≤ 2400 by decide)
  | k + 1, hk => by
    unfold pfy
    split
    · exact (pg_run h (by omega) (by omega) (pfy_bd h k (by omega)) 0 0).1
    · exact pfy_bd h k (by omega)
theorem pg_cg {X : HS} {y q : Nat} {f g : Nat → Int32} (h : Ag (cwX X y) f g) : Ag (cwX X y) (pg X y q f).1 (pg X y q g).1 ∧ (pg X y q f).2 = (pg X y q g).2 := run_cg (s := (f, 0, 0, 0)) (t := (g, 0, 0, 0)) ⟨h, rfl⟩
