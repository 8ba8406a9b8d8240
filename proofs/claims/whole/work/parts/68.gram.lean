/-! ===== the grammar byte by byte ===== -/
/-- behind p bytes, all taken: what is due, how deep -/
def Sd (T : HS) (d : Int) (p D : Nat) : Prop := p ≤ szM T ∧ (∀ k, k < p → gOk (mA T 43) k) ∧ (gRun (mA T 43) p).1.toInt = d ∧ (gRun (mA T 43) p).2.1 = nI D
/-- a unit stands, and no digit can follow at once -/
def Sq (T : HS) (p D : Nat) : Prop := Sd T 3 p D ∧ (dgB T p = true → (gRun (mA T 43) p).2.2 = 0)
def Flt (T : HS) (p : Nat) : Prop := p ≤ szM T ∧ (∀ k, k < p → gOk (mA T 43) k) ∧ (p < szM T → ¬ gOk (mA T 43) p) ∧ (p = szM T → ¬ ((gRun (mA T 43) p).1.toInt = 3 ∧ (gRun (mA T 43) p).2.1.toInt = 0))
theorem Sd.step {T : HS} {d : Int} {p D : Nat} (h : Sd T d p D) (hp : p < szM T) {g : GT} (e : tTakes (mA T 43 p) (gRun (mA T 43) p) = (1, g)) : p + 1 ≤ szM T ∧ (∀ k, k < p + 1 → gOk (mA T 43) k) ∧ gRun (mA T 43) (p + 1) = g := by
  refine ⟨hp, fun k hk => ?_, ?_⟩
  · rcases Nat.lt_succ_iff_lt_or_eq.mp hk with z | z
    · exact h.2.1 k z
    · unfold gOk
      rw [z, e]
      exact (by decide : ¬ (1 : Int32) = 0)
  · show (tTakes (mA T 43 p) (gRun (mA T 43) p)).2 = g
    rw [e]
theorem Sd.to {T : HS} {d d2 : Int} {p D D2 : Nat} {x l : Int32} (h : Sd T d p D) (hp : p < szM T) (e : tTakes (mA T 43 p) (gRun (mA T 43) p) = (1, (x, nI D2, l))) (hx : x.toInt = d2) : Sd T d2 (p + 1) D2 ∧ (gRun (mA T 43) (p + 1)).2.2 = l := by
  obtain ⟨a, b, c⟩ := h.step hp e
  refine ⟨⟨a, b, ?_, ?_⟩, ?_⟩
  · rw [c]; exact hx
  · rw [c]
  · rw [c]
theorem Sd.no {T : HS} {d : Int} {p D : Nat} (h : Sd T d p D) (hp : p < szM T) (e : (tTakes (mA T 43 p) (gRun (mA T 43) p)).1 = 0) : Flt T p := ⟨h.1, h.2.1, fun _ z => z e, fun z => absurd hp (by omega)⟩
theorem Sd.end_ {T : HS} {d : Int} {p D : Nat} (h : Sd T d p D) (hp : p = szM T) (hD : d ≠ 3 ∨ (D ≠ 0 ∧ D ≤ 8)) : Flt T p := ⟨h.1, h.2.1, fun z => absurd z (by omega), fun _ z => by
  rw [h.2.2.1, h.2.2.2] at z
  rcases hD with q | q
  · exact q z.1
  · have := z.2
    rw [nI_toInt (by omega)] at this
    omega⟩
theorem Sd.skip {T : HS} {d : Int} {p D : Nat} (h : Sd T d p D) : ∀ j, p + j ≤ lkP T p → Sd T d (p + j) D ∧ (0 < j → (gRun (mA T 43) (p + j)).2.2 = 0)
  | 0, _ => ⟨h, fun z => absurd z (Nat.lt_irrefl _)⟩
  | j + 1, hj => by
    obtain ⟨k1, -⟩ := Sd.skip h j (by omega)
    obtain ⟨b1, b2⟩ := (lkP_sp T p).2.2.1 (p + j) (by omega) (by omega)
    have e : tTakes (mA T 43 (p + j)) (gRun (mA T 43) (p + j)) = (1, ((gRun (mA T 43) (p + j)).1, nI D, 0)) := by
      unfold tTakes
      rw [b2, if_pos (show (32 : Int32).toInt = 32 from rfl), k1.2.2.2]
    obtain ⟨r1, r2⟩ := k1.to b1 e k1.2.2.1
    exact ⟨r1, fun _ => r2⟩
theorem Sd.look {T : HS} {d : Int} {p D : Nat} (h : Sd T d p D) : Sd T d (lkP T p) D ∧ (p < lkP T p → (gRun (mA T 43) (lkP T p)).2.2 = 0) ∧ p ≤ lkP T p ∧ lkP T p ≤ szM T ∧ (lkP T p < szM T → ¬ mA T 43 (lkP T p) = 32) := by
  obtain ⟨k1, k2⟩ := lkP_le h.1
  have := h.skip (lkP T p - p) (by omega)
  rw [show p + (lkP T p - p) = lkP T p by omega] at this
  exact ⟨this.1, fun z => this.2 (by omega), k1, k2, fun z w => (lkP_sp T p).2.2.2 ⟨z, w⟩⟩
theorem Sq.look {T : HS} {p D : Nat} (h : Sq T p D) : Sq T (lkP T p) D := by
  obtain ⟨a, b, c, -, -⟩ := h.1.look
  refine ⟨a, fun z => ?_⟩
  rcases Nat.lt_or_ge p (lkP T p) with w | w
  · exact b w
  · have e : lkP T p = p := by omega
    rw [e] at z ⊢
    exact h.2 z
theorem ne_I {x : Int32} {k : Int32} (h : ¬ x = k) : ¬ x.toInt = k.toInt := fun z => h ((fa_eq _ _).mpr z)
theorem lkP_id {T : HS} {p : Nat} (hp : p ≤ szM T) (h : p < szM T → ¬ mA T 43 p = 32) : lkP T p = p := by
  obtain ⟨k1, k2⟩ := lkP_le hp
  rcases Nat.lt_or_ge p (lkP T p) with w | w
  · have := (lkP_sp T p).2.2.1 p (Nat.le_refl _) w
    exact absurd this.2 (h this.1)
  · omega
theorem lkP_lkP {T : HS} {p : Nat} (hp : p ≤ szM T) : lkP T (lkP T p) = lkP T p := lkP_id (lkP_le hp).2 (fun z w => (lkP_sp T p).2.2.2 ⟨z, w⟩)
theorem tk_d {c : Int32} {g : GT} (h : ¬ c = 32) : tTakes c g = if g.1.toInt = 0 then tUnit c g else if g.1.toInt = 1 then tSign c g else if g.1.toInt = 2 then tFirst c g else tBehind c g := if_neg (ne_I h)
/-! what may come where a unit is due -/
theorem u_open {T : HS} {q D : Nat} (h : Sd T 0 q D) (hq : q < szM T) (hc : mA T 43 q = 40) (hD : D < 8) : Sd T 0 (q + 1) (D + 1) := by
  refine (h.to (x := (gRun (mA T 43) q).1) (l := (gRun (mA T 43) q).2.2) hq ?_ h.2.2.1).1
  rw [hc, tk_d (by decide), if_pos h.2.2.1]
  unfold tUnit
  rw [if_pos (by decide), h.2.2.2, nI_1, b2i_t (by rw [nI_toInt (by omega)]; omega)]
theorem u_deep {T : HS} {q D : Nat} (h : Sd T 0 q D) (hq : q < szM T) (hc : mA T 43 q = 40) (hD : D = 8) : Flt T q := by
  refine h.no hq ?_
  rw [hc, tk_d (by decide), if_pos h.2.2.1]
  unfold tUnit
  rw [if_pos (by decide), h.2.2.2, nI_1, b2i_f (by rw [nI_toInt (by omega)]; omega)]
theorem ltM_iff (c : Int32) : ¬ ltM c = -1 ↔ (c = 99 ∨ c = 115 ∨ c = 119 ∨ c = 97 ∨ c = 112) := by
  unfold ltM
  constructor
  · intro h
    by_cases a : c = 99
    · exact Or.inl a
    · rw [if_neg a] at h
      by_cases b : c = 115
      · exact Or.inr (Or.inl b)
      · rw [if_neg b] at h
        by_cases d : c = 119
        · exact Or.inr (Or.inr (Or.inl d))
        · rw [if_neg d] at h
          by_cases e : c = 97
          · exact Or.inr (Or.inr (Or.inr (Or.inl e)))
          · rw [if_neg e] at h
            by_cases f : c = 112
            · exact Or.inr (Or.inr (Or.inr (Or.inr f)))
            · rw [if_neg f] at h; exact absurd rfl h
  · rintro (rfl | rfl | rfl | rfl | rfl) <;> decide
theorem ltr_I (c : Int32) : (c.toInt = 99 ∨ c.toInt = 115 ∨ c.toInt = 119 ∨ c.toInt = 97 ∨ c.toInt = 112) ↔ (c = 99 ∨ c = 115 ∨ c = 119 ∨ c = 97 ∨ c = 112) := by
  rw [fa_eq c 99, fa_eq c 115, fa_eq c 119, fa_eq c 97, fa_eq c 112]
  exact Iff.rfl
theorem u_letter {T : HS} {q D : Nat} (h : Sd T 0 q D) (hq : q < szM T) (hc : ¬ ltM (mA T 43 q) = -1) : Sd T 1 (q + 1) D := by
  have hl := (ltM_iff _).mp hc
  refine (h.to (x := 1) (l := (gRun (mA T 43) q).2.2) hq ?_ rfl).1
  rw [tk_d (fun z => by rw [z] at hl; exact absurd hl (by decide)), if_pos h.2.2.1]
  unfold tUnit
  rw [if_neg (fun z => by rw [show mA T 43 q = 40 from (fa_eq _ _).mpr z] at hl; exact absurd hl (by decide)), h.2.2.2, b2i_t ((ltr_I _).mpr hl)]
theorem u_no {T : HS} {q D : Nat} (h : Sd T 0 q D) (hq : q < szM T) (h32 : ¬ mA T 43 q = 32) (h40 : ¬ mA T 43 q = 40) (hc : ltM (mA T 43 q) = -1) : Flt T q := by
  refine h.no hq ?_
  rw [tk_d h32, if_pos h.2.2.1]
  unfold tUnit
  rw [if_neg (show ¬ (mA T 43 q).toInt = 40 from ne_I h40), b2i_f (fun z => (ltM_iff _).mpr ((ltr_I _).mp z) hc)]
theorem sg_I (c : Int32) : (c.toInt = 61 ∨ c.toInt = 60 ∨ c.toInt = 62) ↔ (c = 61 ∨ c = 60 ∨ c = 62) := by
  rw [fa_eq c 61, fa_eq c 60, fa_eq c 62]
  exact Iff.rfl
theorem s_sign {T : HS} {q D : Nat} (h : Sd T 1 q D) (hq : q < szM T) (hc : mA T 43 q = 61 ∨ mA T 43 q = 60 ∨ mA T 43 q = 62) : Sd T 2 (q + 1) D := by
  refine (h.to (x := 2) (l := (gRun (mA T 43) q).2.2) hq ?_ rfl).1
  rw [tk_d (fun z => by rw [z] at hc; exact absurd hc (by decide)), h.2.2.1, if_neg (by decide), if_pos rfl]
  unfold tSign
  rw [h.2.2.2, b2i_t ((sg_I _).mpr hc)]
theorem s_no {T : HS} {q D : Nat} (h : Sd T 1 q D) (hq : q < szM T) (h32 : ¬ mA T 43 q = 32) (hc : ¬ (mA T 43 q = 61 ∨ mA T 43 q = 60 ∨ mA T 43 q = 62)) : Flt T q := by
  refine h.no hq ?_
  rw [tk_d h32, h.2.2.1, if_neg (by decide), if_pos rfl]
  unfold tSign
  rw [b2i_f (fun z => hc ((sg_I _).mp z))]
theorem dg_32 {c : Int32} (h : 48 ≤ c.toInt ∧ c.toInt ≤ 57) : ¬ c = 32 := fun z => by
  rw [z] at h
  exact absurd h (by decide)
theorem f_digit {T : HS} {q D : Nat} (h : Sd T 2 q D) (hd : dgB T q = true) : Sd T 3 (q + 1) D ∧ (gRun (mA T 43) (q + 1)).2.2 = 4 := by
  obtain ⟨hq, hc⟩ := dgB_iff.mp hd
  refine h.to (x := 3) (l := 4) hq ?_ rfl
  rw [tk_d (dg_32 hc), h.2.2.1, if_neg (by decide), if_neg (by decide), if_pos rfl]
  unfold tFirst
  rw [h.2.2.2, b2i_t (by rw [fa_le, fa_le]; exact hc)]
theorem f_no {T : HS} {q D : Nat} (h : Sd T 2 q D) (hq : q < szM T) (h32 : ¬ mA T 43 q = 32) (hd : ¬ dgB T q = true) : Flt T q := by
  refine h.no hq ?_
  rw [tk_d h32, h.2.2.1, if_neg (by decide), if_neg (by decide), if_pos rfl]
  unfold tFirst
  rw [b2i_f (fun z => hd (dgB_iff.mpr ⟨hq, by rw [fa_le, fa_le] at z; exact z⟩))]
theorem d_more {T : HS} {q D k : Nat} (h : Sd T 3 q D) (hl : (gRun (mA T 43) q).2.2 = nI (k + 1)) (hk : k < 5) (hd : dgB T q = true) : Sd T 3 (q + 1) D ∧ (gRun (mA T 43) (q + 1)).2.2 = nI k := by
  obtain ⟨hq, hc⟩ := dgB_iff.mp hd
  refine h.to (x := (gRun (mA T 43) q).1) (l := nI k) hq ?_ h.2.2.1
  rw [tk_d (dg_32 hc), h.2.2.1, if_neg (by decide), if_neg (by decide), if_neg (by decide)]
  unfold tBehind
  have e : nI (k + 1) - 1 = nI k := by
    rw [show (1 : Int32) = nI 1 from rfl, nI_subN (by omega)]; rfl
  rw [if_pos hc, h.2.2.2, hl, e, b2i_t (by rw [nI_toInt (by omega)]; omega)]
theorem d_no {T : HS} {q D : Nat} (h : Sd T 3 q D) (hl : (gRun (mA T 43) q).2.2 = 0) (hd : dgB T q = true) : Flt T q := by
  obtain ⟨hq, hc⟩ := dgB_iff.mp hd
  refine h.no hq ?_
  rw [tk_d (dg_32 hc), h.2.2.1, if_neg (by decide), if_neg (by decide), if_neg (by decide)]
  unfold tBehind
  rw [if_pos hc, hl]
  rfl
theorem nd_of {T : HS} {q : Nat} (hq : q < szM T) (h : ¬ dgB T q = true) : ¬ (48 ≤ (mA T 43 q).toInt ∧ (mA T 43 q).toInt ≤ 57) := fun z => h (dgB_iff.mpr ⟨hq, z⟩)
theorem b_op {T : HS} {q D : Nat} (h : Sd T 3 q D) (hq : q < szM T) (hc : mA T 43 q = 38 ∨ mA T 43 q = 124) : Sd T 0 (q + 1) D := by
  refine (h.to (x := 0) (l := 0) hq ?_ rfl).1
  have hI : (mA T 43 q).toInt = 38 ∨ (mA T 43 q).toInt = 124 := by
    rcases hc with e | e <;> rw [e]
    · exact Or.inl rfl
    · exact Or.inr rfl
  rw [tk_d (fun z => by rw [z] at hc; exact absurd hc (by decide)), h.2.2.1, if_neg (by decide), if_neg (by decide), if_neg (by decide)]
  unfold tBehind
  rw [if_neg (by omega), if_neg (by omega), h.2.2.2, b2i_t hI]
theorem b_close {T : HS} {q D : Nat} (h : Sd T 3 q (D + 1)) (hD : D < 8) (hq : q < szM T) (hc : mA T 43 q = 41) : Sq T (q + 1) D := by
  have := h.to (x := (gRun (mA T 43) q).1) (l := 0) (D2 := D) hq (by
    rw [hc, tk_d (by decide), h.2.2.1, if_neg (by decide), if_neg (by decide), if_neg (by decide)]
    unfold tBehind
    have e : nI (D + 1) - 1 = nI D := by
      rw [show (1 : Int32) = nI 1 from rfl, nI_subN (by omega)]; rfl
    rw [if_neg (by decide), if_pos (by decide), h.2.2.2, e, b2i_t (by rw [nI_toInt (by omega)]; omega)]) h.2.2.1
  exact ⟨this.1, fun _ => this.2⟩
/-- nothing but & | and, in brackets, ) goes on behind a unit -/
theorem b_no {T : HS} {q D : Nat} (h : Sq T q D) (hq : q < szM T) (h32 : ¬ mA T 43 q = 32) (h38 : ¬ mA T 43 q = 38) (h124 : ¬ mA T 43 q = 124) (h41 : mA T 43 q = 41 → D = 0) : Flt T q := by
  by_cases hd : dgB T q = true
  · exact d_no h.1 (h.2 hd) hd
  · refine h.1.no hq ?_
    rw [tk_d h32, h.1.2.2.1, if_neg (by decide), if_neg (by decide), if_neg (by decide)]
    unfold tBehind
    rw [if_neg (nd_of hq hd)]
    by_cases e : (mA T 43 q).toInt = 41
    · rw [if_pos e, h.1.2.2.2, h41 ((fa_eq _ _).mpr e)]
      rfl
    · rw [if_neg e, b2i_f (fun z => by
        rcases z with z | z
        · exact h38 ((fa_eq _ _).mpr z)
        · exact h124 ((fa_eq _ _).mpr z))]
