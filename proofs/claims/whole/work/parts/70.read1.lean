/-! ===== a text read: the grammar, the verdict and the reference's reading alike ===== -/
def Cd (t u : TX) (K : (Nat → Int32) → Prop) : Prop := (t.2.2.2.1 ≤ u.2.2.2.1 ∧ ∀ j, j < t.2.2.2.1 → u.2.2.2.2 j = t.2.2.2.2 j) ∧ ∀ C, (∀ j, t.2.2.2.1 ≤ j → j < u.2.2.2.1 → C j = u.2.2.2.2 j) → K C
def Ad (t u : TX) : Prop := u.2.2.1 = t.2.2.1 ∧ t.1 ≤ u.1 ∧ u.2.2.2.1 + 2 * t.1 ≤ t.2.2.2.1 + 2 * u.1
def Bad (T : HS) (u : TX) : Prop := ∃ p, u.2.1 = nI p ∧ Flt T p
/-- where a unit begins -/
def Pr0 (T : HS) (m : Int32 → Int32) (V0 : VT) (t : TX) (a b D : Nat) : Prop := (t.2.1 = -1 ∧ t.2.2.1 = D ∧ D ≤ 8 ∧ Sd T 0 t.1 D) ∧ ((vRun m (mA T 43) V0 t.1).2.2.1 = 0 ∧ (vRun m (mA T 43) V0 t.1).1 = nI a ∧ (vRun m (mA T 43) V0 t.1).2.1 = nI b) ∧ a < 2 ^ (D + 1) ∧ b < 2 ^ (D + 1) ∧ t.2.2.2.1 ≤ 2 * t.1
def G0 (T : HS) (m v : Int32 → Int32) (V0 : VT) (t u : TX) (a b D : Nat) : Prop := (u.2.1 = -1 ∧ Sq T u.1 D ∧ Ad t u ∧ t.2.2.2.1 < u.2.2.2.1) ∧ ∃ f, PE m (vRun m (mA T 43) V0 u.1) a (cl f b) ∧ Cd t u (fun C => Ev C v t.2.2.2.1 u.2.2.2.1 f)
def G2 (T : HS) (m v : Int32 → Int32) (V0 : VT) (t u : TX) (a b D : Nat) : Prop := (u.2.1 = -1 ∧ Sq T u.1 D ∧ Ad t u ∧ t.2.2.2.1 < u.2.2.2.1) ∧ (lkP T u.1 = u.1 ∧ ¬ lkC T u.1 = 38 ∧ ¬ lkC T u.1 = 124) ∧ ∃ f, WE m (vRun m (mA T 43) V0 u.1) a b f ∧ Cd t u (fun C => Ev C v t.2.2.2.1 u.2.2.2.1 f)
theorem pw8 {D : Nat} (h : D ≤ 8) : 2 ^ (D + 1) ≤ 512 := Nat.pow_le_pow_right (by decide) (show D + 1 ≤ 9 by omega)
theorem pw7 {D : Nat} (h : D < 8) : 2 ^ (D + 1) ≤ 256 ∧ 2 ^ (D + 1 + 1) = 2 * 2 ^ (D + 1) := ⟨Nat.pow_le_pow_right (by decide) (show D + 1 ≤ 8 by omega), by rw [Nat.pow_succ, Nat.mul_comm]⟩
theorem lkC_at {T : HS} {q : Nat} (h : ¬ lkC T q = -1) : q < szM T ∧ mA T 43 q = lkC T q := by
  have hq := lkC_in h
  refine ⟨hq, ?_⟩
  unfold lkC
  rw [if_pos hq]
theorem comp_eq {m v : Int32 → Int32} (hmv : m 99 = v 0 ∧ m 115 = v 1 ∧ m 119 = v 2 ∧ m 97 = v 3 ∧ m 112 = v 4) {c sg w x y : Int32} (hc : ¬ ltM c = -1) (hsg : sg = 61 ∨ sg = 60 ∨ sg = 62) : vComp (m c) (x, y, c, sg, w) = cmM sg (v (ltM c)) w := by
  have e : m c = v (ltM c) := by
    rcases (ltM_iff c).mp hc with rfl | rfl | rfl | rfl | rfl
    · exact hmv.1
    · exact hmv.2.1
    · exact hmv.2.2.1
    · exact hmv.2.2.2.1
    · exact hmv.2.2.2.2
  rw [e]
  unfold vComp cmM
  dsimp only
  rcases hsg with rfl | rfl | rfl
  · rw [if_neg (by decide), if_pos (by decide), if_pos rfl]
    exact b2i_cg (fa_eq _ _).symm
  · rw [if_pos (by decide), if_neg (by decide), if_pos rfl]
  · rw [if_neg (by decide), if_neg (by decide), if_neg (by decide), if_neg (by decide)]
set_option maxHeartbeats 1000000 in
/-- a comparison -/
theorem rd_cmp {T : HS} {m v : Int32 → Int32} {V0 : VT} (hs : szM T ≤ 200) (hby : ∀ j, j < szM T → ¬ mA T 43 j = -1) (hmv : m 99 = v 0 ∧ m 115 = v 1 ∧ m 119 = v 2 ∧ m 97 = v 3 ∧ m 112 = v 4) {t : TX} {a b D : Nat} (h : Pr0 T m V0 t a b D) (hq : ¬ (lkC T (lkP T t.1) = 40 ∧ t.2.2.1 < 8)) : G0 T m v V0 t (atM T t) a b D ∨ Bad T (atM T t) := by
  obtain ⟨⟨hw, hd, hD8, hS⟩, ⟨hv1, hv2, hv3⟩, ha, hb, hsd⟩ := h
  have hp8 := pw8 hD8
  obtain ⟨s1, -, l1, l2, n32⟩ := hS.look
  have hV1 := vRun_look (m := m) (V0 := V0) hS.1
  unfold atM
  generalize lkP T t.1 = q1 at *
  by_cases hl : ltM (lkC T q1) = -1
  · rw [if_pos hl]
    refine Or.inr ⟨q1, rfl, ?_⟩
    rcases Nat.lt_or_ge q1 (szM T) with w | w
    · have ec : lkC T q1 = mA T 43 q1 := if_pos w
      rw [ec] at hl hq
      by_cases c40 : mA T 43 q1 = 40
      · exact u_deep s1 w c40 (by have : ¬ t.2.2.1 < 8 := fun z => hq ⟨c40, z⟩
                                  omega)
      · exact u_no s1 w (n32 w) c40 hl
    · exact s1.end_ (by omega) (Or.inl (by decide))
  · rw [if_neg hl]
    obtain ⟨w1, ec1⟩ := lkC_at (T := T) (q := q1) (fun z => hl (by rw [z]; rfl))
    rw [← ec1] at hl ⊢
    have t1 := u_letter s1 w1 hl
    have hV2 : vRun m (mA T 43) V0 (q1 + 1) = (nI a, nI b, mA T 43 q1, (vRun m (mA T 43) V0 t.1).2.2.2.1, (vRun m (mA T 43) V0 t.1).2.2.2.2) := by
      show vRead m (mA T 43 q1) (vRun m (mA T 43) V0 q1) = _
      rw [vR_letter m _ ((ltM_iff _).mp hl), hV1, hv2, hv3]
    obtain ⟨s2, -, l3, l4, n32b⟩ := t1.look
    have hV3 := vRun_look (m := m) (V0 := V0) t1.1
    generalize lkP T (q1 + 1) = q2 at *
    by_cases hg : lkC T q2 = 61 ∨ lkC T q2 = 60 ∨ lkC T q2 = 62
    · rw [if_pos hg]
      obtain ⟨w2, ec2⟩ := lkC_at (T := T) (q := q2) (fun z => by rw [z] at hg; exact absurd hg (by decide))
      rw [← ec2] at hg ⊢
      have t2 := s_sign s2 w2 hg
      have hV4 : vRun m (mA T 43) V0 (q2 + 1) = (nI a, nI b, mA T 43 q1, mA T 43 q2, 0) := by
        show vRead m (mA T 43 q2) (vRun m (mA T 43) V0 q2) = _
        rw [vR_sign m _ hg, hV3, hV2]
      obtain ⟨s3, -, l5, l6, n32c⟩ := t2.look
      have hV5 := vRun_look (m := m) (V0 := V0) t2.1
      unfold nuM
      dsimp only
      generalize lkP T (q2 + 1) = q3 at *
      by_cases hdg : dgB T q3 = true
      · rw [if_pos hdg, nuL_step hdg]
        obtain ⟨k1, k2⟩ := f_digit s3 hdg
        have hV6 : vRun m (mA T 43) V0 (q3 + 1) = (nI a, nI b, mA T 43 q1, mA T 43 q2, 10 * 0 + mA T 43 q3 - 48) := by
          show vRead m (mA T 43 q3) (vRun m (mA T 43) V0 q3) = _
          rw [vR_digit m _ (dgB_iff.mp hdg).2, hV5, hV4]
        have hnu := nu_v (m := m) (V0 := V0) 4 (q3 + 1) (10 * 0 + mA T 43 q3 - 48) (Nat.le_refl _) k1 k2 (by rw [hV6])
        generalize nuL T 4 (q3 + 1) (10 * 0 + mA T 43 q3 - 48) = R at *
        rcases hnu with ⟨w, r1, r2, r3, r4⟩ | ⟨r1, r2⟩
        · left
          have eE : nuE (q2 + 1, t.2.1, t.2.2.1, t.2.2.2.1 + 3, upd (upd (upd t.2.2.2.2 t.2.2.2.1 0) (t.2.2.2.1 + 1) (ltM (mA T 43 q1))) (t.2.2.2.1 + 2) (mA T 43 q2)) R = (R.1, t.2.1, t.2.2.1, t.2.2.2.1 + 3 + 1, upd (upd (upd (upd t.2.2.2.2 t.2.2.2.1 0) (t.2.2.2.1 + 1) (ltM (mA T 43 q1))) (t.2.2.2.1 + 2) (mA T 43 q2)) (t.2.2.2.1 + 3) w) := by
            unfold nuE
            rw [r1]
          rw [eE]
          rw [hV6] at r4
          refine ⟨⟨hw, r2, ⟨rfl, ?_, ?_⟩, ?_⟩, decide (¬ cmM (mA T 43 q2) (v (ltM (mA T 43 q1))) w = 0), ?_, ⟨?_, ?_⟩, ?_⟩
          · show t.1 ≤ R.1; omega
          · show t.2.2.2.1 + 3 + 1 + 2 * t.1 ≤ t.2.2.2.1 + 2 * R.1; omega
          · show t.2.2.2.1 < t.2.2.2.1 + 3 + 1; omega
          · show PE m (vRun m (mA T 43) V0 R.1) a _
            rw [r4]
            have hne : ¬ mA T 43 q1 = 0 := fun z => by rw [z] at hl; exact hl (by decide)
            obtain ⟨e1, e2⟩ := vEnd_c (m := m) (V := (nI a, nI b, mA T 43 q1, mA T 43 q2, w)) hne
            refine ⟨e1, ?_⟩
            rw [e2]
            dsimp only
            rw [comp_eq hmv hl hg]
            obtain ⟨⟨-, g2⟩, -⟩ := bits_all b (by omega)
            by_cases z : cmM (mA T 43 q2) (v (ltM (mA T 43 q1))) w = 0
            · rw [if_pos z, g2, z]; rfl
            · rw [if_neg z]
              unfold cl
              rw [if_pos (decide_eq_true z)]
          · show t.2.2.2.1 ≤ t.2.2.2.1 + 3 + 1; omega
          · intro j hj
            show upd _ _ _ j = _
            rw [pk_un (by omega), pk_un (by omega), pk_un (by omega), pk_un (by omega)]
          · intro C hC
            have hC : ∀ j, t.2.2.2.1 ≤ j → j < t.2.2.2.1 + 3 + 1 → C j = upd (upd (upd (upd t.2.2.2.2 t.2.2.2.1 0) (t.2.2.2.1 + 1) (ltM (mA T 43 q1))) (t.2.2.2.1 + 2) (mA T 43 q2)) (t.2.2.2.1 + 3) w j := hC
            have c0 := hC t.2.2.2.1 (by omega) (by omega)
            have c1 := hC (t.2.2.2.1 + 1) (by omega) (by omega)
            have c2 := hC (t.2.2.2.1 + 2) (by omega) (by omega)
            have c3 := hC (t.2.2.2.1 + 3) (by omega) (by omega)
            rw [pk_un (by omega), pk_un (by omega), pk_un (by omega), pk_us] at c0
            rw [pk_un (by omega), pk_un (by omega), pk_us] at c1
            rw [pk_un (by omega), pk_us] at c2
            rw [pk_us] at c3
            have := Ev.push (v := v) c0 (by omega)
            rw [c1, c2, c3] at this
            exact this
        · right
          have eE : (nuE (q2 + 1, t.2.1, t.2.2.1, t.2.2.2.1 + 3, upd (upd (upd t.2.2.2.2 t.2.2.2.1 0) (t.2.2.2.1 + 1) (ltM (mA T 43 q1))) (t.2.2.2.1 + 2) (mA T 43 q2)) R).2.1 = nI R.1 := by
            unfold nuE
            rw [r1]
          exact ⟨R.1, eE, r2⟩
      · rw [if_neg hdg]
        refine Or.inr ⟨q3, rfl, ?_⟩
        rcases Nat.lt_or_ge q3 (szM T) with w | w
        · exact f_no s3 w (n32c w) hdg
        · exact s3.end_ (by omega) (Or.inl (by decide))
    · rw [if_neg hg]
      refine Or.inr ⟨q2, rfl, ?_⟩
      rcases Nat.lt_or_ge q2 (szM T) with w | w
      · have ec : lkC T q2 = mA T 43 q2 := if_pos w
        rw [ec] at hg
        exact s_no s2 w (n32b w) hg
      · exact s2.end_ (by omega) (Or.inl (by decide))
set_option maxHeartbeats 1000000 in
/-- a bracket around what a whole reads -/
theorem rd_br {T : HS} {m v : Int32 → Int32} {V0 : VT} (hs : szM T ≤ 200) {t u : TX} {a b D : Nat} (h : Pr0 T m V0 t a b D) (hq : lkC T (lkP T t.1) = 40 ∧ t.2.2.1 < 8) (hI : Pr0 T m V0 (lkP T t.1 + 1, t.2.1, t.2.2.1 + 1, t.2.2.2) (2 * a) (2 * b + 1) (D + 1) → G2 T m v V0 (lkP T t.1 + 1, t.2.1, t.2.2.1 + 1, t.2.2.2) u (2 * a) (2 * b + 1) (D + 1) ∨ Bad T u) : G0 T m v V0 t (clM T u) a b D ∨ Bad T (clM T u) := by
  obtain ⟨⟨hw, hd, hD8, hS⟩, ⟨hv1, hv2, hv3⟩, ha, hb, hsd⟩ := h
  obtain ⟨s1, -, l1, l2, n32⟩ := hS.look
  have hV1 := vRun_look (m := m) (V0 := V0) hS.1
  generalize lkP T t.1 = q1 at *
  obtain ⟨w1, ec1⟩ := lkC_at (T := T) (q := q1) (fun z => by rw [z] at hq; exact absurd hq.1 (by decide))
  rw [hq.1] at ec1
  have hD : D < 8 := by omega
  obtain ⟨p1, p2⟩ := pw7 hD
  have t1 := u_open s1 w1 ec1 hD
  obtain ⟨-, -, -, ba⟩ := bits_all a (by omega)
  obtain ⟨-, -, -, bb⟩ := bits_all b (by omega)
  obtain ⟨-, ⟨bo, -⟩, -⟩ := bits_all (2 * b) (by omega)
  have hV2 : vRun m (mA T 43) V0 (q1 + 1) = (nI (2 * a), nI (2 * b + 1), 0, (vRun m (mA T 43) V0 t.1).2.2.2.1, (vRun m (mA T 43) V0 t.1).2.2.2.2) := by
    show vRead m (mA T 43 q1) (vRun m (mA T 43) V0 q1) = _
    rw [ec1, vR_open, hV1, hv2, hv3, hv1, ba, bb, bo, show 2 * b + 1 - 2 * b % 2 = 2 * b + 1 by omega]
  rcases hI ⟨⟨hw, by show t.2.2.1 + 1 = D + 1; omega, by omega, t1⟩, ⟨by rw [hV2], by rw [hV2], by rw [hV2]⟩, by omega, by omega, by show t.2.2.2.1 ≤ 2 * (q1 + 1); omega⟩ with ⟨⟨u1, u2, ⟨u3, u4, u5⟩, u6⟩, ⟨u7, u8, u9⟩, F, u10, u11⟩ | ⟨p, u1, u2⟩
  · unfold clM
    rw [if_pos u1, u7]
    have u4 : q1 + 1 ≤ u.1 := u4
    have u5 : u.2.2.2.1 + 2 * (q1 + 1) ≤ t.2.2.2.1 + 2 * u.1 := u5
    have u3 : u.2.2.1 = t.2.2.1 + 1 := u3
    by_cases c41 : lkC T u.1 = 41
    · left
      rw [if_pos c41]
      obtain ⟨w2, ec2⟩ := lkC_at (T := T) (q := u.1) (fun z => by rw [z] at c41; exact absurd c41 (by decide))
      rw [c41] at ec2
      have t2 := b_close u2.1 hD w2 ec2
      obtain ⟨e1, e2, e3⟩ := u10.close (by omega) (by omega)
      refine ⟨⟨u1, t2, ⟨?_, ?_, ?_⟩, u6⟩, F, ?_, u11⟩
      · show u.2.2.1 - 1 = t.2.2.1; omega
      · show t.1 ≤ u.1 + 1; omega
      · show u.2.2.2.1 + 2 * t.1 ≤ t.2.2.2.1 + 2 * (u.1 + 1); omega
      · have eV : vRun m (mA T 43) V0 (u.1 + 1) = vBr (vEnd m (vRun m (mA T 43) V0 u.1)) := by
          show vRead m (mA T 43 u.1) (vRun m (mA T 43) V0 u.1) = _
          rw [ec2, vR_close]
        show PE m (vRun m (mA T 43) V0 (u.1 + 1)) a (cl F b)
        unfold PE
        rw [eV, vEnd_0 e3]
        exact ⟨e1, e2⟩
    · right
      rw [if_neg c41]
      refine ⟨u.1, rfl, ?_⟩
      rcases Nat.lt_or_ge u.1 (szM T) with w | w
      · have ec : lkC T u.1 = mA T 43 u.1 := if_pos w
        rw [ec] at c41 u8 u9
        refine b_no u2 w ?_ u8 u9 (fun z => absurd z c41)
        have := (lkP_sp T u.1).2.2.2
        rw [u7] at this
        exact fun z => this ⟨w, z⟩
      · exact u2.1.end_ (by have := u2.1.1; omega) (Or.inr ⟨by omega, by omega⟩)
  · right
    have hne : ¬ u.2.1 = -1 := by rw [u1]; exact nI_nm (by have := u2.1; omega)
    unfold clM
    rw [if_neg hne]
    exact ⟨p, u1, u2⟩
