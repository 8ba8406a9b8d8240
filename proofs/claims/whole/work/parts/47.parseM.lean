/-! ===== the reference's reading of a text, as a function ===== -/
def ltM (c : Int32) : Int32 := if c = 99 then 0 else if c = 115 then 1 else if c = 119 then 2 else if c = 97 then 3 else if c = 112 then 4 else -1
/-- a comparison read -/
def atM (S : HS) (t : TX) : TX := if ltM (lkC S (lkP S t.1)) = -1 then (lkP S t.1, nI (lkP S t.1), t.2.2) else if lkC S (lkP S (lkP S t.1 + 1)) = 61 ∨ lkC S (lkP S (lkP S t.1 + 1)) = 60 ∨ lkC S (lkP S (lkP S t.1 + 1)) = 62 then nuM S (lkP S (lkP S t.1 + 1) + 1, t.2.1, t.2.2.1, t.2.2.2.1 + 3, upd (upd (upd t.2.2.2.2 t.2.2.2.1 0) (t.2.2.2.1 + 1) (ltM (lkC S (lkP S t.1)))) (t.2.2.2.1 + 2) (lkC S (lkP S (lkP S t.1 + 1)))) else (lkP S (lkP S t.1 + 1), nI (lkP S (lkP S t.1 + 1)), t.2.2)
/-- a bracket's end -/
def clM (S : HS) (t : TX) : TX := if t.2.1 = -1 then (if lkC S (lkP S t.1) = 41 then (lkP S t.1 + 1, t.2.1, t.2.2.1 - 1, t.2.2.2) else (lkP S t.1 + 1, nI (lkP S t.1), t.2.2.1 - 1, t.2.2.2)) else (t.1 + 1, t.2.1, t.2.2.1 - 1, t.2.2.2)
def syM (t : TX) (v : Int32) : TX := (t.1, t.2.1, t.2.2.1, t.2.2.2.1 + 1, upd t.2.2.2.2 t.2.2.2.1 v)
/-- 0 a unit, 1 a part, 2 a whole, 3 more units of a part, 4 more parts of a whole; with fuel -/
def prM (S : HS) : Nat → Nat → TX → Option TX
  | 0, _, _ => none
  | n + 1, 0, t => if lkC S (lkP S t.1) = 40 ∧ t.2.2.1 < 8 then (match prM S n 2 (lkP S t.1 + 1, t.2.1, t.2.2.1 + 1, t.2.2.2) with | none => none | some u => some (clM S u)) else some (atM S t)
  | n + 1, 1, t => match prM S n 0 t with | none => none | some u => prM S n 3 u
  | n + 1, 2, t => match prM S n 1 t with | none => none | some u => prM S n 4 u
  | n + 1, 3, t => if t.2.1 = -1 then (if lkC S (lkP S t.1) = 38 then (match prM S n 0 (lkP S t.1 + 1, t.2) with | none => none | some u => prM S n 3 (syM u 1)) else some (lkP S t.1, t.2)) else some t
  | n + 1, 4, t => if t.2.1 = -1 then (if lkC S (lkP S t.1) = 124 then (match prM S n 1 (lkP S t.1 + 1, t.2) with | none => none | some u => prM S n 4 (syM u 2)) else some (lkP S t.1, t.2)) else some t
  | _ + 1, _ + 5, _ => none
theorem prM_1 {S : HS} {n : Nat} {t u : TX} : prM S (n + 1) 1 t = some u ↔ ∃ v, prM S n 0 t = some v ∧ prM S n 3 v = some u := by
  show (match prM S n 0 t with | none => none | some u => prM S n 3 u) = some u ↔ _
  cases e : prM S n 0 t with
  | none => exact ⟨fun z => (by cases z), fun ⟨v, z, _⟩ => (by cases z)⟩
  | some w => exact ⟨fun z => ⟨w, rfl, z⟩, fun ⟨v, z, z2⟩ => by cases z; exact z2⟩
theorem prM_2 {S : HS} {n : Nat} {t u : TX} : prM S (n + 1) 2 t = some u ↔ ∃ v, prM S n 1 t = some v ∧ prM S n 4 v = some u := by
  show (match prM S n 1 t with | none => none | some u => prM S n 4 u) = some u ↔ _
  cases e : prM S n 1 t with
  | none => exact ⟨fun z => (by cases z), fun ⟨v, z, _⟩ => (by cases z)⟩
  | some w => exact ⟨fun z => ⟨w, rfl, z⟩, fun ⟨v, z, z2⟩ => by cases z; exact z2⟩
theorem prM_0b {S : HS} {n : Nat} {t u : TX} (h : lkC S (lkP S t.1) = 40 ∧ t.2.2.1 < 8) : prM S (n + 1) 0 t = some u ↔ ∃ v, prM S n 2 (lkP S t.1 + 1, t.2.1, t.2.2.1 + 1, t.2.2.2) = some v ∧ u = clM S v := by
  show (if _ then (match prM S n 2 (lkP S t.1 + 1, t.2.1, t.2.2.1 + 1, t.2.2.2) with | none => none | some u => some (clM S u)) else _) = some u ↔ _
  rw [if_pos h]
  cases e : prM S n 2 (lkP S t.1 + 1, t.2.1, t.2.2.1 + 1, t.2.2.2) with
  | none => exact ⟨fun z => (by cases z), fun ⟨v, z, _⟩ => (by cases z)⟩
  | some w => exact ⟨fun z => ⟨w, rfl, (Option.some.inj z).symm⟩, fun ⟨v, z, z2⟩ => by cases z; rw [z2]⟩
theorem prM_0a {S : HS} {n : Nat} {t : TX} (h : ¬ (lkC S (lkP S t.1) = 40 ∧ t.2.2.1 < 8)) : prM S (n + 1) 0 t = some (atM S t) := if_neg h
theorem prM_3b {S : HS} {n : Nat} {t u : TX} (h : t.2.1 = -1) (h2 : lkC S (lkP S t.1) = 38) : prM S (n + 1) 3 t = some u ↔ ∃ v, prM S n 0 (lkP S t.1 + 1, t.2) = some v ∧ prM S n 3 (syM v 1) = some u := by
  show (if _ then (if _ then (match prM S n 0 (lkP S t.1 + 1, t.2) with | none => none | some u => prM S n 3 (syM u 1)) else _) else _) = some u ↔ _
  rw [if_pos h, if_pos h2]
  cases e : prM S n 0 (lkP S t.1 + 1, t.2) with
  | none => exact ⟨fun z => (by cases z), fun ⟨v, z, _⟩ => (by cases z)⟩
  | some w => exact ⟨fun z => ⟨w, rfl, z⟩, fun ⟨v, z, z2⟩ => by cases z; exact z2⟩
theorem prM_4b {S : HS} {n : Nat} {t u : TX} (h : t.2.1 = -1) (h2 : lkC S (lkP S t.1) = 124) : prM S (n + 1) 4 t = some u ↔ ∃ v, prM S n 1 (lkP S t.1 + 1, t.2) = some v ∧ prM S n 4 (syM v 2) = some u := by
  show (if _ then (if _ then (match prM S n 1 (lkP S t.1 + 1, t.2) with | none => none | some u => prM S n 4 (syM u 2)) else _) else _) = some u ↔ _
  rw [if_pos h, if_pos h2]
  cases e : prM S n 1 (lkP S t.1 + 1, t.2) with
  | none => exact ⟨fun z => (by cases z), fun ⟨v, z, _⟩ => (by cases z)⟩
  | some w => exact ⟨fun z => ⟨w, rfl, z⟩, fun ⟨v, z, z2⟩ => by cases z; exact z2⟩
theorem prM_3n {S : HS} {n : Nat} {t : TX} (h : t.2.1 = -1) (h2 : ¬ lkC S (lkP S t.1) = 38) : prM S (n + 1) 3 t = some (lkP S t.1, t.2) := by
  show (if _ then (if _ then _ else _) else _) = _
  rw [if_pos h, if_neg h2]
theorem prM_4n {S : HS} {n : Nat} {t : TX} (h : t.2.1 = -1) (h2 : ¬ lkC S (lkP S t.1) = 124) : prM S (n + 1) 4 t = some (lkP S t.1, t.2) := by
  show (if _ then (if _ then _ else _) else _) = _
  rw [if_pos h, if_neg h2]
theorem prM_3w {S : HS} {n : Nat} {t : TX} (h : ¬ t.2.1 = -1) : prM S (n + 1) 3 t = some t := if_neg h
theorem prM_4w {S : HS} {n : Nat} {t : TX} (h : ¬ t.2.1 = -1) : prM S (n + 1) 4 t = some t := if_neg h
theorem prM_up {S : HS} : ∀ {n k : Nat} {t u : TX}, prM S n k t = some u → prM S (n + 1) k t = some u
  | 0, _, _, _, h => by cases h
  | n + 1, 0, t, u, h => by
    by_cases q : lkC S (lkP S t.1) = 40 ∧ t.2.2.1 < 8
    · obtain ⟨v, z, z2⟩ := (prM_0b q).mp h
      exact (prM_0b q).mpr ⟨v, prM_up z, z2⟩
    · rw [prM_0a q] at h ⊢; exact h
  | n + 1, 1, t, u, h => by
    obtain ⟨v, z, z2⟩ := prM_1.mp h
    exact prM_1.mpr ⟨v, prM_up z, prM_up z2⟩
  | n + 1, 2, t, u, h => by
    obtain ⟨v, z, z2⟩ := prM_2.mp h
    exact prM_2.mpr ⟨v, prM_up z, prM_up z2⟩
  | n + 1, 3, t, u, h => by
    by_cases q : t.2.1 = -1
    · by_cases q2 : lkC S (lkP S t.1) = 38
      · obtain ⟨v, z, z2⟩ := (prM_3b q q2).mp h
        exact (prM_3b q q2).mpr ⟨v, prM_up z, prM_up z2⟩
      · rw [prM_3n q q2] at h ⊢; exact h
    · rw [prM_3w q] at h ⊢; exact h
  | n + 1, 4, t, u, h => by
    by_cases q : t.2.1 = -1
    · by_cases q2 : lkC S (lkP S t.1) = 124
      · obtain ⟨v, z, z2⟩ := (prM_4b q q2).mp h
        exact (prM_4b q q2).mpr ⟨v, prM_up z, prM_up z2⟩
      · rw [prM_4n q q2] at h ⊢; exact h
    · rw [prM_4w q] at h ⊢; exact h
  | _ + 1, _ + 5, _, _, h => by cases h
theorem prM_le {S : HS} {n m k : Nat} {t u : TX} (h : prM S n k t = some u) (hm : n ≤ m) : prM S m k t = some u := by
  obtain ⟨d, rfl⟩ := Nat.exists_eq_add_of_le hm
  induction d with
  | zero => exact h
  | succ d ih => exact prM_up (ih (by omega))
theorem nuL_bd {S : HS} : ∀ (n a : Nat) (v : Int32), a ≤ (nuL S n a v).1 ∧ (a ≤ szM S → (nuL S n a v).1 ≤ szM S)
  | 0, a, v => by
    unfold nuL
    split <;> exact ⟨Nat.le_refl _, fun z => z⟩
  | n + 1, a, v => by
    unfold nuL
    split
    · rename_i q
      have := nuL_bd (S := S) n (a + 1) (10 * v + mA S 43 a - 48)
      have hd := (dgB_iff.mp q).1
      exact ⟨by omega, fun _ => this.2 (by omega)⟩
    · exact ⟨Nat.le_refl _, fun z => z⟩
theorem nuL_1 {S : HS} {n a : Nat} {v : Int32} (h : dgB S a = true) : a + 1 ≤ (nuL S (n + 1) a v).1 := by
  rw [nuL_step h]
  exact (nuL_bd n (a + 1) _).1
theorem lkP_le {S : HS} {a : Nat} (h : a ≤ szM S) : a ≤ lkP S a ∧ lkP S a ≤ szM S := by
  obtain ⟨k1, k2, _, _⟩ := lkP_sp S a
  exact ⟨k1, by omega⟩
theorem lkC_in {S : HS} {a : Nat} (h : ¬ lkC S a = -1) : a < szM S := by
  unfold lkC at h
  by_cases q : a < szM S
  · exact q
  · rw [if_neg q] at h; exact absurd rfl h
theorem nI_nm {p : Nat} (h : p < 2 ^ 31) : ¬ nI p = -1 := fun z => by
  have := congrArg Int32.toInt z
  rw [nI_toInt h] at this
  have m1 : (-1 : Int32).toInt = -1 := rfl
  omega
theorem nuM_bd {S : HS} {t : TX} (h : t.1 ≤ szM S) : t.1 ≤ (nuM S t).1 ∧ (nuM S t).1 ≤ szM S ∧ (nuM S t).2.2.1 = t.2.2.1 ∧ ((nuM S t).2.2.2.1 = t.2.2.2.1 ∨ ((nuM S t).2.2.2.1 = t.2.2.2.1 + 1 ∧ t.1 + 1 ≤ (nuM S t).1)) := by
  obtain ⟨k1, k2⟩ := lkP_le h
  unfold nuM
  by_cases q : dgB S (lkP S t.1) = true
  · rw [if_pos q]
    have b1 := nuL_bd (S := S) 5 (lkP S t.1) 0
    have b2 := nuL_1 (S := S) (n := 4) (v := 0) q
    have b3 := b1.2 k2
    have b4 := b1.1
    rw [show 4 + 1 = 5 from rfl] at b2
    generalize nuL S 5 (lkP S t.1) 0 = x at b2 b3 b4 ⊢
    obtain ⟨x1, x2⟩ := x
    dsimp only at b2 b3 b4
    cases x2 with
    | none => exact ⟨by show t.1 ≤ x1; omega, b3, rfl, Or.inl rfl⟩
    | some v => exact ⟨by show t.1 ≤ x1; omega, b3, rfl, Or.inr ⟨rfl, by show t.1 + 1 ≤ x1; omega⟩⟩
  · rw [if_neg q]
    exact ⟨k1, k2, rfl, Or.inl rfl⟩
def Bd (S : HS) (t : TX) : Prop := (t.2.1 = -1 → t.1 ≤ szM S) ∧ t.1 + t.2.2.1 ≤ 208 ∧ t.2.2.2.1 ≤ 2 * t.1 ∧ t.2.2.1 ≤ 8
theorem atM_bd {S : HS} {t : TX} (hs : szM S ≤ 200) (h : Bd S t) (hw : t.2.1 = -1) : Bd S (atM S t) ∧ (atM S t).2.2.1 = t.2.2.1 ∧ t.1 ≤ (atM S t).1 := by
  obtain ⟨h1, h2, h3, h4⟩ := h
  have h5 := h1 hw
  obtain ⟨k1, k2⟩ := lkP_le h5
  unfold atM
  by_cases q : ltM (lkC S (lkP S t.1)) = -1
  · rw [if_pos q]
    exact ⟨⟨fun _ => k2, by show lkP S t.1 + t.2.2.1 ≤ 208; omega, by show t.2.2.2.1 ≤ 2 * lkP S t.1; omega, h4⟩, rfl, k1⟩
  · rw [if_neg q]
    have hp : lkP S t.1 < szM S := lkC_in (fun z => q (by rw [z]; rfl))
    obtain ⟨j1, j2⟩ := lkP_le (S := S) (a := lkP S t.1 + 1) (by omega)
    by_cases q2 : lkC S (lkP S (lkP S t.1 + 1)) = 61 ∨ lkC S (lkP S (lkP S t.1 + 1)) = 60 ∨ lkC S (lkP S (lkP S t.1 + 1)) = 62
    · rw [if_pos q2]
      have hp2 : lkP S (lkP S t.1 + 1) < szM S := lkC_in (fun z => by rw [z] at q2; exact absurd q2 (by decide))
      have b := nuM_bd (S := S) (t := (lkP S (lkP S t.1 + 1) + 1, t.2.1, t.2.2.1, t.2.2.2.1 + 3, upd (upd (upd t.2.2.2.2 t.2.2.2.1 0) (t.2.2.2.1 + 1) (ltM (lkC S (lkP S t.1)))) (t.2.2.2.1 + 2) (lkC S (lkP S (lkP S t.1 + 1))))) (by show lkP S (lkP S t.1 + 1) + 1 ≤ szM S; omega)
      generalize nuM S (lkP S (lkP S t.1 + 1) + 1, t.2.1, t.2.2.1, t.2.2.2.1 + 3, upd (upd (upd t.2.2.2.2 t.2.2.2.1 0) (t.2.2.2.1 + 1) (ltM (lkC S (lkP S t.1)))) (t.2.2.2.1 + 2) (lkC S (lkP S (lkP S t.1 + 1)))) = u at b ⊢
      dsimp only at b
      obtain ⟨b1, b2, b3, b4⟩ := b
      exact ⟨⟨fun _ => b2, by omega, by omega, by omega⟩, b3, by omega⟩
    · rw [if_neg q2]
      exact ⟨⟨fun _ => j2, by show lkP S (lkP S t.1 + 1) + t.2.2.1 ≤ 208; omega, by show t.2.2.2.1 ≤ 2 * lkP S (lkP S t.1 + 1); omega, h4⟩, rfl, by show t.1 ≤ lkP S (lkP S t.1 + 1); omega⟩
theorem clM_bd {S : HS} {v : TX} (hs : szM S ≤ 200) (h : Bd S v) (hd : 0 < v.2.2.1) : Bd S (clM S v) ∧ (clM S v).2.2.1 = v.2.2.1 - 1 ∧ v.1 ≤ (clM S v).1 := by
  obtain ⟨h1, h2, h3, h4⟩ := h
  unfold clM
  by_cases q : v.2.1 = -1
  · rw [if_pos q]
    obtain ⟨k1, k2⟩ := lkP_le (h1 q)
    by_cases q2 : lkC S (lkP S v.1) = 41
    · rw [if_pos q2]
      have hp : lkP S v.1 < szM S := lkC_in (fun z => by rw [z] at q2; exact absurd q2 (by decide))
      exact ⟨⟨fun _ => by show lkP S v.1 + 1 ≤ szM S; omega, by show lkP S v.1 + 1 + (v.2.2.1 - 1) ≤ 208; omega, by show v.2.2.2.1 ≤ 2 * (lkP S v.1 + 1); omega, by show v.2.2.1 - 1 ≤ 8; omega⟩, rfl, by show v.1 ≤ lkP S v.1 + 1; omega⟩
    · rw [if_neg q2]
      exact ⟨⟨fun z => absurd z (nI_nm (by omega)), by show lkP S v.1 + 1 + (v.2.2.1 - 1) ≤ 208; omega, by show v.2.2.2.1 ≤ 2 * (lkP S v.1 + 1); omega, by show v.2.2.1 - 1 ≤ 8; omega⟩, rfl, by show v.1 ≤ lkP S v.1 + 1; omega⟩
  · rw [if_neg q]
    exact ⟨⟨fun z => absurd z q, by show v.1 + 1 + (v.2.2.1 - 1) ≤ 208; omega, by show v.2.2.2.1 ≤ 2 * (v.1 + 1); omega, by show v.2.2.1 - 1 ≤ 8; omega⟩, rfl, by show v.1 ≤ v.1 + 1; omega⟩
