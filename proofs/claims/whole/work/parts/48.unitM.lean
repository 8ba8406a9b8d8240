/-! ===== the reference: a unit ===== -/
theorem atM_rel {S : HS} {t : TX} (h : Bd S t) (hw : t.2.1 = -1) : (atM S t).2.2.2.1 + 2 * t.1 ≤ t.2.2.2.1 + 2 * (atM S t).1 := by
  obtain ⟨h1, h2, h3, h4⟩ := h
  have h5 := h1 hw
  obtain ⟨k1, k2⟩ := lkP_le h5
  unfold atM
  by_cases q : ltM (lkC S (lkP S t.1)) = -1
  · rw [if_pos q]
    show t.2.2.2.1 + 2 * t.1 ≤ t.2.2.2.1 + 2 * lkP S t.1
    omega
  · rw [if_neg q]
    have hp : lkP S t.1 < szM S := lkC_in (fun z => q (by rw [z]; rfl))
    obtain ⟨j1, j2⟩ := lkP_le (S := S) (a := lkP S t.1 + 1) (by omega)
    by_cases q2 : lkC S (lkP S (lkP S t.1 + 1)) = 61 ∨ lkC S (lkP S (lkP S t.1 + 1)) = 60 ∨ lkC S (lkP S (lkP S t.1 + 1)) = 62
    · rw [if_pos q2]
      have hp2 : lkP S (lkP S t.1 + 1) < szM S := lkC_in (fun z => by rw [z] at q2; exact absurd q2 (by decide))
      have b := nuM_bd (S := S) (t := (lkP S (lkP S t.1 + 1) + 1, t.2.1, t.2.2.1, t.2.2.2.1 + 3, upd (upd (upd t.2.2.2.2 t.2.2.2.1 0) (t.2.2.2.1 + 1) (ltM (lkC S (lkP S t.1)))) (t.2.2.2.1 + 2) (lkC S (lkP S (lkP S t.1 + 1))))) (by show lkP S (lkP S t.1 + 1) + 1 ≤ szM S; omega)
      generalize nuM S (lkP S (lkP S t.1 + 1) + 1, t.2.1, t.2.2.1, t.2.2.2.1 + 3, upd (upd (upd t.2.2.2.2 t.2.2.2.1 0) (t.2.2.2.1 + 1) (ltM (lkC S (lkP S t.1)))) (t.2.2.2.1 + 2) (lkC S (lkP S (lkP S t.1 + 1)))) = u at b ⊢
      dsimp only at b
      obtain ⟨b1, b2, b3, b4⟩ := b
      omega
    · rw [if_neg q2]
      show t.2.2.2.1 + 2 * t.1 ≤ t.2.2.2.1 + 2 * lkP S (lkP S t.1 + 1)
      omega
theorem clM_sd {S : HS} {v : TX} : (clM S v).2.2.2 = v.2.2.2 := by
  unfold clM
  split
  · split <;> rfl
  · rfl
theorem prM_bd {S : HS} (hs : szM S ≤ 200) : ∀ {n k : Nat} {t u : TX}, Bd S t → (k < 3 → t.2.1 = -1) → prM S n k t = some u → Bd S u ∧ u.2.2.1 = t.2.2.1 ∧ t.1 ≤ u.1 ∧ u.2.2.2.1 + 2 * t.1 ≤ t.2.2.2.1 + 2 * u.1
  | 0, _, _, _, _, _, h => by cases h
  | n + 1, 0, t, u, hb, hw, h => by
    by_cases q : lkC S (lkP S t.1) = 40 ∧ t.2.2.1 < 8
    · obtain ⟨v, z, z2⟩ := (prM_0b q).mp h
      obtain ⟨h1, h2, h3, h4⟩ := id hb
      obtain ⟨k1, k2⟩ := lkP_le (h1 (hw (by omega)))
      have hp : lkP S t.1 < szM S := lkC_in (fun w => by rw [w] at q; exact absurd q.1 (by decide))
      have b1 : Bd S (lkP S t.1 + 1, t.2.1, t.2.2.1 + 1, t.2.2.2) := ⟨fun _ => by show lkP S t.1 + 1 ≤ szM S; omega, by show lkP S t.1 + 1 + (t.2.2.1 + 1) ≤ 208; omega, by show t.2.2.2.1 ≤ 2 * (lkP S t.1 + 1); omega, by show t.2.2.1 + 1 ≤ 8; omega⟩
      obtain ⟨c1, c2, c3, c4⟩ := prM_bd hs b1 (fun _ => hw (by omega)) z
      dsimp only at c2 c3 c4
      obtain ⟨d1, d2, d3⟩ := clM_bd hs c1 (by omega)
      have d4 : (clM S v).2.2.2.1 = v.2.2.2.1 := by rw [clM_sd]
      rw [z2]
      exact ⟨d1, by omega, by omega, by omega⟩
    · rw [prM_0a q] at h
      have e := Option.some.inj h
      obtain ⟨c1, c2, c3⟩ := atM_bd hs hb (hw (by omega))
      have c4 := atM_rel hb (hw (by omega))
      rw [← e]
      exact ⟨c1, c2, c3, c4⟩
  | n + 1, 1, t, u, hb, hw, h => by
    obtain ⟨v, z, z2⟩ := prM_1.mp h
    obtain ⟨c1, c2, c3, c4⟩ := prM_bd hs hb (fun _ => hw (by omega)) z
    obtain ⟨d1, d2, d3, d4⟩ := prM_bd hs c1 (fun w => absurd w (by omega)) z2
    exact ⟨d1, by omega, by omega, by omega⟩
  | n + 1, 2, t, u, hb, hw, h => by
    obtain ⟨v, z, z2⟩ := prM_2.mp h
    obtain ⟨c1, c2, c3, c4⟩ := prM_bd hs hb (fun _ => hw (by omega)) z
    obtain ⟨d1, d2, d3, d4⟩ := prM_bd hs c1 (fun w => absurd w (by omega)) z2
    exact ⟨d1, by omega, by omega, by omega⟩
  | n + 1, 3, t, u, hb, hw, h => by
    obtain ⟨h1, h2, h3, h4⟩ := id hb
    by_cases q : t.2.1 = -1
    · obtain ⟨k1, k2⟩ := lkP_le (h1 q)
      by_cases q2 : lkC S (lkP S t.1) = 38
      · obtain ⟨v, z, z2⟩ := (prM_3b q q2).mp h
        have hp : lkP S t.1 < szM S := lkC_in (fun w => by rw [w] at q2; exact absurd q2 (by decide))
        have b1 : Bd S (lkP S t.1 + 1, t.2) := ⟨fun _ => by show lkP S t.1 + 1 ≤ szM S; omega, by show lkP S t.1 + 1 + t.2.2.1 ≤ 208; omega, by show t.2.2.2.1 ≤ 2 * (lkP S t.1 + 1); omega, h4⟩
        obtain ⟨c1, c2, c3, c4⟩ := prM_bd hs b1 (fun _ => q) z
        dsimp only at c2 c3 c4
        have b2 : Bd S (syM v 1) := ⟨c1.1, c1.2.1, by show v.2.2.2.1 + 1 ≤ 2 * v.1; omega, c1.2.2.2⟩
        obtain ⟨d1, d2, d3, d4⟩ := prM_bd hs b2 (fun w => absurd w (by omega)) z2
        have e1 : (syM v 1).1 = v.1 := rfl
        have e2 : (syM v 1).2.2.1 = v.2.2.1 := rfl
        have e3 : (syM v 1).2.2.2.1 = v.2.2.2.1 + 1 := rfl
        exact ⟨d1, by omega, by omega, by omega⟩
      · rw [prM_3n q q2] at h
        have e := Option.some.inj h
        rw [← e]
        exact ⟨⟨fun _ => k2, by show lkP S t.1 + t.2.2.1 ≤ 208; omega, by show t.2.2.2.1 ≤ 2 * lkP S t.1; omega, h4⟩, rfl, k1, by show t.2.2.2.1 + 2 * t.1 ≤ t.2.2.2.1 + 2 * lkP S t.1; omega⟩
    · rw [prM_3w q] at h
      have e := Option.some.inj h
      rw [← e]
      exact ⟨hb, rfl, Nat.le_refl _, Nat.le_refl _⟩
  | n + 1, 4, t, u, hb, hw, h => by
    obtain ⟨h1, h2, h3, h4⟩ := id hb
    by_cases q : t.2.1 = -1
    · obtain ⟨k1, k2⟩ := lkP_le (h1 q)
      by_cases q2 : lkC S (lkP S t.1) = 124
      · obtain ⟨v, z, z2⟩ := (prM_4b q q2).mp h
        have hp : lkP S t.1 < szM S := lkC_in (fun w => by rw [w] at q2; exact absurd q2 (by decide))
        have b1 : Bd S (lkP S t.1 + 1, t.2) := ⟨fun _ => by show lkP S t.1 + 1 ≤ szM S; omega, by show lkP S t.1 + 1 + t.2.2.1 ≤ 208; omega, by show t.2.2.2.1 ≤ 2 * (lkP S t.1 + 1); omega, h4⟩
        obtain ⟨c1, c2, c3, c4⟩ := prM_bd hs b1 (fun _ => q) z
        dsimp only at c2 c3 c4
        have b2 : Bd S (syM v 2) := ⟨c1.1, c1.2.1, by show v.2.2.2.1 + 1 ≤ 2 * v.1; omega, c1.2.2.2⟩
        obtain ⟨d1, d2, d3, d4⟩ := prM_bd hs b2 (fun w => absurd w (by omega)) z2
        have e1 : (syM v 2).1 = v.1 := rfl
        have e2 : (syM v 2).2.2.1 = v.2.2.1 := rfl
        have e3 : (syM v 2).2.2.2.1 = v.2.2.2.1 + 1 := rfl
        exact ⟨d1, by omega, by omega, by omega⟩
      · rw [prM_4n q q2] at h
        have e := Option.some.inj h
        rw [← e]
        exact ⟨⟨fun _ => k2, by show lkP S t.1 + t.2.2.1 ≤ 208; omega, by show t.2.2.2.1 ≤ 2 * lkP S t.1; omega, h4⟩, rfl, k1, by show t.2.2.2.1 + 2 * t.1 ≤ t.2.2.2.1 + 2 * lkP S t.1; omega⟩
    · rw [prM_4w q] at h
      have e := Option.some.inj h
      rw [← e]
      exact ⟨hb, rfl, Nat.le_refl _, Nat.le_refl _⟩
  | _ + 1, _ + 5, _, _, _, _, h => by cases h
