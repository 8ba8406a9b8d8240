/-! ===== parting in numbers: left out ones, rests set to naught ===== -/
theorem sm_ct {r : Nat → Nat} {us : Nat → Bool} {a : Nat} : ∀ {n : Nat}, (∀ k, k < n → us k = false → r k = 0) → (∀ k, k < n → r k ≤ a) → fb_sm r n ≤ fb_ct us n * a
  | 0, _, _ => by simp [fb_sm]
  | n + 1, h1, h2 => by
    have ih := sm_ct (n := n) (fun k hk => h1 k (by omega)) (fun k hk => h2 k (by omega))
    rw [fb_sm_succ, fb_ct_succ, Nat.add_mul]
    have h4 := h2 n (by omega)
    cases hu : us n with
    | false =>
      have h3 := h1 n (by omega) hu
      omega
    | true => simp; omega
theorem ex_pos {n : Nat} {m : Nat → Nat} {many t : Nat} (h0 : 0 < fb_sm m many) (ht : t < pL n m many) : ∃ k, k < many ∧ gvP (pT n m many) many t k = false ∧ 0 < pT n m many k := by
  apply Classical.byContradiction
  intro hn
  have h1 : ∀ k, k < many → gvP (pT n m many) many t k = false → pT n m many k = 0 := fun k hk hf => by
    apply Classical.byContradiction
    intro h
    exact hn ⟨k, hk, hf, by omega⟩
  have h2 := sm_ct h1 (fun k _ => Nat.le_of_lt (pT_lt (n := n) h0 k))
  have h3 := Nat.mul_le_mul_right (fb_sm m many) (gvP_ct (pT n m many) many t)
  have h4 := pL_all (n := n) h0
  have h5 : t * fb_sm m many < pL n m many * fb_sm m many := Nat.mul_lt_mul_of_pos_right ht h0
  omega
theorem pick_pos {n : Nat} {m : Nat → Nat} {many t b : Nat} (h0 : 0 < fb_sm m many) (ht : t < pL n m many) (hb : pkB (gvP (pT n m many) many t) (pT n m many) many = some b) : 0 < pT n m many b := by
  obtain ⟨k, h1, h2, h3⟩ := ex_pos h0 ht
  have := (pkB_some hb).2.2.1 k h1 h2
  omega
theorem sm_comp : ∀ {N n : Nat} {w f : Nat → Nat}, (∀ i j, i < j → j < n → w i < w j) → (∀ i, i < n → w i < N) → (∀ b, b < N → f b ≠ 0 → ∃ i, i < n ∧ w i = b) → fb_sm (fun i => f (w i)) n = fb_sm f N
  | 0, n, w, f, h1, h2, h3 => by
    cases n with
    | zero => rfl
    | succ j => exact absurd (h2 0 (by omega)) (Nat.not_lt_zero _)
  | N + 1, n, w, f, h1, h2, h3 => by
    by_cases hN : ∃ i, i < n ∧ w i = N
    · obtain ⟨i, hi, hwi⟩ := hN
      have e : n = i + 1 := by
        apply Classical.byContradiction
        intro hne
        have q1 := h1 i (i + 1) (by omega) (by omega)
        have q2 := h2 (i + 1) (by omega)
        omega
      subst e
      have ih := sm_comp (N := N) (n := i) (w := w) (f := f) (fun a b hab hb => h1 a b hab (by omega)) (fun j hj => by have := h1 j i hj (by omega); omega) (fun b hb hf => by
        obtain ⟨j, hj, hwj⟩ := h3 b (by omega) hf
        refine ⟨j, ?_, hwj⟩
        rcases Nat.lt_succ_iff_lt_or_eq.mp hj with q | q
        · exact q
        · rw [q] at hwj; omega)
      rw [fb_sm_succ, fb_sm_succ, ih, hwi]
    · have hf0 : f N = 0 := by
        apply Classical.byContradiction
        intro h
        exact hN (h3 N (by omega) h)
      rw [fb_sm_succ, hf0, Nat.add_zero]
      refine sm_comp h1 (fun i hi => ?_) (fun b hb hf => h3 b (by omega) hf)
      have q1 := h2 i hi
      have q2 : w i ≠ N := fun q => hN ⟨i, hi, q⟩
      omega
/-- w takes the places of a shorter row to those of a longer one that has more, all of measure 0 -/
def Cmp (w : Nat → Nat) (mc mf : Nat → Nat) (n N : Nat) : Prop := (∀ i j, i < j → j < n → w i < w j) ∧ (∀ i, i < n → w i < N) ∧ (∀ b, b < N → mf b ≠ 0 → ∃ i, i < n ∧ w i = b) ∧ ∀ i, i < n → mc i = mf (w i)
theorem Cmp.sm {w mc mf : Nat → Nat} {n N : Nat} (h : Cmp w mc mf n N) : fb_sm mc n = fb_sm mf N := by
  rw [← sm_comp h.1 h.2.1 h.2.2.1]
  exact fb_sm_cong h.2.2.2
theorem Cmp.q {w mc mf : Nat → Nat} {n N s i : Nat} (h : Cmp w mc mf n N) (hi : i < n) : pQ s mc n i = pQ s mf N (w i) := by
  unfold pQ
  rw [h.sm, h.2.2.2 i hi]
theorem Cmp.t {w mc mf : Nat → Nat} {n N s i : Nat} (h : Cmp w mc mf n N) (hi : i < n) : pT s mc n i = pT s mf N (w i) := by
  unfold pT
  rw [h.sm, h.2.2.2 i hi]
theorem Cmp.l {w mc mf : Nat → Nat} {n N s : Nat} (h : Cmp w mc mf n N) : pL s mc n = pL s mf N := by
  unfold pL
  rw [← sm_comp (f := pQ s mf N) h.1 h.2.1 (fun b hb hf => h.2.2.1 b hb (fun q => hf (by unfold pQ; rw [q]; simp)))]
  rw [fb_sm_cong (fun i hi => h.q (s := s) hi)]
theorem Cmp.inj {w mc mf : Nat → Nat} {n N i j : Nat} (h : Cmp w mc mf n N) (hi : i < n) (hj : j < n) (e : w i = w j) : i = j := by
  rcases Nat.lt_trichotomy i j with q | q | q
  · have := h.1 i j q hj; omega
  · exact q
  · have := h.1 j i q hi; omega
theorem Cmp.gv {w mc mf : Nat → Nat} {n N s : Nat} (h : Cmp w mc mf n N) (h0 : 0 < fb_sm mf N) : ∀ {t : Nat}, t ≤ pL s mf N → (∀ i, i < n → gvP (pT s mc n) n t i = gvP (pT s mf N) N t (w i)) ∧ ∀ b, b < N → (¬ ∃ i, i < n ∧ w i = b) → gvP (pT s mf N) N t b = false
  | 0, _ => ⟨fun _ _ => rfl, fun _ _ _ => rfl⟩
  | t + 1, ht => by
    obtain ⟨ih1, ih2⟩ := Cmp.gv (s := s) h h0 (t := t) (by omega)
    have hc0 : 0 < fb_sm mc n := by rw [h.sm]; exact h0
    have hLc := pL_lt (n := s) hc0
    have hLf := pL_lt (n := s) h0
    rw [h.l] at hLc
    obtain ⟨i0, hp⟩ := gvP_pick (r := pT s mc n) (many := n) (t := t) (by omega)
    obtain ⟨b0, hq⟩ := gvP_pick (r := pT s mf N) (many := N) (t := t) (by omega)
    obtain ⟨a1, a2, a3, a4⟩ := pkB_some hp
    have hpos := pick_pos (n := s) (m := mc) hc0 (by rw [h.l]; omega) hp
    rw [h.t a1] at hpos
    have hz : ∀ b, b < N → (¬ ∃ i, i < n ∧ w i = b) → pT s mf N b = 0 := fun b hb hn => by
      have : mf b = 0 := by
        apply Classical.byContradiction
        intro q
        exact hn (h.2.2.1 b hb q)
      unfold pT
      rw [this]; simp
    have e : w i0 = b0 := by
      refine pk_one ⟨h.2.1 i0 a1, by rw [← ih1 i0 a1]; exact a2, fun b hb hu => ?_, fun b hb hu => ?_⟩ (pkB_some hq)
      · by_cases him : ∃ i, i < n ∧ w i = b
        · obtain ⟨i, hi, rfl⟩ := him
          rw [← h.t hi, ← h.t a1]
          exact a3 i hi (by rw [ih1 i hi]; exact hu)
        · rw [hz b hb him]; omega
      · have hbN : b < N := Nat.lt_trans hb (h.2.1 i0 a1)
        by_cases him : ∃ i, i < n ∧ w i = b
        · obtain ⟨i, hi, rfl⟩ := him
          rw [← h.t hi, ← h.t a1]
          refine a4 i ?_ (by rw [ih1 i hi]; exact hu)
          rcases Nat.lt_trichotomy i i0 with q | q | q
          · exact q
          · rw [q] at hb; omega
          · have := h.1 i0 i q hi; omega
        · rw [hz b hbN him]; exact hpos
    rw [← e] at hq
    refine ⟨fun i hi => ?_, fun b hb hn => ?_⟩
    · rw [gvP_step hp, gvP_step hq]
      show (if i = i0 then true else gvP (pT s mc n) n t i) = if w i = w i0 then true else gvP (pT s mf N) N t (w i)
      by_cases hii : i = i0
      · rw [if_pos hii, if_pos (by rw [hii])]
      · rw [if_neg hii, if_neg (fun q => hii (h.inj hi a1 q)), ih1 i hi]
    · rw [gvP_step hq]
      show (if b = w i0 then true else gvP (pT s mf N) N t b) = false
      rw [if_neg (fun q => hn ⟨i0, a1, q.symm⟩), ih2 b hb hn]
/-- a part: the whole part, and one more for those whose turn comes -/
def prt (s : Nat) (m : Nat → Nat) (N k : Nat) : Nat := pQ s m N k + (if gvP (pT s m N) N (pL s m N) k = true then 1 else 0)
theorem Cmp.pt {w mc mf : Nat → Nat} {n N s i : Nat} (h : Cmp w mc mf n N) (h0 : 0 < fb_sm mf N) (hi : i < n) : prt s mc n i = prt s mf N (w i) := by
  unfold prt
  rw [h.q hi, h.l, (h.gv (s := s) h0 (Nat.le_refl _)).1 i hi]
theorem Cmp.p0 {w mc mf : Nat → Nat} {n N s b : Nat} (h : Cmp w mc mf n N) (h0 : 0 < fb_sm mf N) (hb : b < N) (hn : ¬ ∃ i, i < n ∧ w i = b) : prt s mf N b = 0 := by
  unfold prt
  rw [(h.gv (s := s) h0 (Nat.le_refl _)).2 b hb hn]
  have : mf b = 0 := by
    apply Classical.byContradiction
    intro q
    exact hn (h.2.2.1 b hb q)
  unfold pQ
  rw [this]; simp
theorem prt_le {s : Nat} {m : Nat → Nat} {N k : Nat} (h0 : 0 < fb_sm m N) (hk : k < N) : prt s m N k ≤ s := by
  have h1 := pQ_le (n := s) h0 (Nat.le_refl N)
  have h2 := fb_sm_part (pQ s m N) hk
  unfold prt
  by_cases hL : pL s m N = 0
  · rw [hL]
    have : gvP (pT s m N) N 0 k = false := rfl
    rw [this]; simp; omega
  · unfold pL at hL
    split <;> omega
/-! the greatest of a row, the lowest of several -/
theorem gmx_ge (f : Nat → Int32) : ∀ n j, j ≤ n → (f j).toInt ≤ (f (gmx f n)).toInt
  | 0, j, h => by
    have : j = 0 := by omega
    rw [this]; exact Int.le_refl _
  | n + 1, j, h => by
    have ih := gmx_ge f n
    unfold gmx
    split
    · rename_i hlt
      by_cases hj : j = n + 1
      · rw [hj]; exact Int.le_refl _
      · have := ih j (by omega); omega
    · rename_i hlt
      by_cases hj : j = n + 1
      · rw [hj]; omega
      · exact ih j (by omega)
theorem gmx_first (f : Nat → Int32) : ∀ n j, j < gmx f n → (f j).toInt < (f (gmx f n)).toInt
  | 0, j, h => absurd h (Nat.not_lt_zero j)
  | n + 1, j, h => by
    have ih := gmx_first f n
    unfold gmx at h ⊢
    split
    · rename_i hlt
      rw [if_pos hlt] at h
      have := gmx_ge f n j (by omega); omega
    · rename_i hlt
      rw [if_neg hlt] at h
      exact ih j h
/-- rests and portions of the system when t ones are given -/
theorem itR_gv {s : Nat} {m : Nat → Nat} {P T : Nat → Int32} (h0 : 0 < fb_sm m 12) (hA : fb_sm m 12 < 2 ^ 31) (hP : ∀ k, k < 12 → P k = nI (pQ s m 12 k)) (hT : ∀ k, k < 12 → T k = nI (pT s m 12 k)) : ∀ {t : Nat}, t ≤ pL s m 12 → ∀ k, k < 12 → (itR (P, T) t).1 k = nI (pQ s m 12 k + (if gvP (pT s m 12) 12 t k = true then 1 else 0)) ∧ (itR (P, T) t).2 k = if gvP (pT s m 12) 12 t k = true then 0 else nI (pT s m 12 k)
  | 0, _, k, hk => by
    have e : gvP (pT s m 12) 12 0 k = false := rfl
    rw [e]
    exact ⟨hP k hk, hT k hk⟩
  | t + 1, ht, k, hk => by
    have ih := itR_gv h0 hA hP hT (t := t) (by omega)
    have hLf := pL_lt (n := s) h0
    obtain ⟨b0, hq⟩ := gvP_pick (r := pT s m 12) (many := 12) (t := t) (by omega)
    have hpos := pick_pos h0 (by omega) hq
    obtain ⟨a1, a2, a3, a4⟩ := pkB_some hq
    have hti : ∀ j, (nI (pT s m 12 j)).toInt = pT s m 12 j := fun j => nI_toInt (by have := pT_lt (n := s) h0 j; omega)
    have hval : ∀ j, j < 12 → ((itR (P, T) t).2 j).toInt = if gvP (pT s m 12) 12 t j = true then 0 else (pT s m 12 j : Int) := fun j hj => by
      rw [(ih j hj).2]
      split
      · rfl
      · exact hti j
    have hg := gmx_le (itR (P, T) t).2 11
    have hge := gmx_ge (itR (P, T) t).2 11
    have hfi := gmx_first (itR (P, T) t).2 11
    generalize hG : gmx (itR (P, T) t).2 11 = g at hg hge hfi
    have v0 := hval b0 a1
    rw [a2, if_neg (by simp)] at v0
    have vg := hval g (by omega)
    have h1 := hge b0 (by omega)
    have hgu : gvP (pT s m 12) 12 t g = false := by
      cases hu : gvP (pT s m 12) 12 t g with
      | false => rfl
      | true => rw [hu, if_pos rfl] at vg; omega
    rw [hgu, if_neg (by simp)] at vg
    have e : g = b0 := by
      refine pk_one ⟨by omega, hgu, fun j hj hu => ?_, fun j hj hu => ?_⟩ ⟨a1, a2, a3, a4⟩
      · have q1 := hge j (by omega)
        have q2 := hval j hj
        rw [hu, if_neg (by simp)] at q2
        omega
      · have q1 := hfi j hj
        have q2 := hval j (by omega)
        rw [hu, if_neg (by simp)] at q2
        omega
    have e1 : (itR (P, T) (t + 1)) = (upd (itR (P, T) t).1 g ((itR (P, T) t).1 g + 1), upd (itR (P, T) t).2 g 0) := by rw [← hG]; rfl
    rw [e1, gvP_step hq, e]
    dsimp only
    by_cases hkb : k = b0
    · subst hkb
      rw [pk_us, pk_us, (ih k hk).1]
      simp [a2, nI_1]
    · rw [pk_un hkb, pk_un hkb]
      simp only [hkb, if_false]
      exact ih k hk
