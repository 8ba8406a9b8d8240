/-! ===== the verdict's bits, the codes' pile ===== -/
def cl (f : Bool) (b : Nat) : Nat := if f = true then b else b - b % 2
def bN (f : Bool) : Nat := if f = true then 1 else 0
def bv (f : Bool) : Int32 := if f = true then 1 else 0
theorem bits_all : ∀ a, a < 512 → (nI a &&& 1 = nI (a % 2) ∧ nI a &&& (-2) = nI (a - a % 2)) ∧ (nI a ||| 1 = nI (a + 1 - a % 2) ∧ nI a ||| 0 = nI a) ∧ ush1 (nI a) = nI (a / 2) ∧ nI a <<< ((1 : Int32) &&& 31) = nI (2 * a) := by decide +kernel
theorem vEnd_l (m : Int32 → Int32) (V : VT) : (vEnd m V).2.2.1 = 0 := by
  unfold vEnd
  split
  · assumption
  · rfl
theorem vEnd_0 {m : Int32 → Int32} {V : VT} (h : V.2.2.1 = 0) : vEnd m V = V := if_pos h
theorem vEnd_c {m : Int32 → Int32} {V : VT} (h : ¬ V.2.2.1 = 0) : (vEnd m V).1 = V.1 ∧ (vEnd m V).2.1 = if vComp (m V.2.2.1) V = 0 then V.2.1 &&& (-2) else V.2.1 := by
  unfold vEnd
  rw [if_neg h]
  unfold vAdd
  split <;> exact ⟨rfl, rfl⟩
/-- once the comparison at hand is ended the bits are a and b -/
def PE (m : Int32 → Int32) (V : VT) (a b : Nat) : Prop := (vEnd m V).1 = nI a ∧ (vEnd m V).2.1 = nI b
def WE (m : Int32 → Int32) (V : VT) (a b : Nat) (e : Bool) : Prop := (vPart (vEnd m V)).1 = nI (a + bN e) ∧ (vPart (vEnd m V)).2.1 = nI b
theorem cl_cl (f g : Bool) (b : Nat) : cl g (cl f b) = cl (f && g) b := by
  unfold cl
  cases f <;> cases g <;> simp
  omega
theorem cl_le (f : Bool) (b : Nat) : cl f b ≤ b := by
  unfold cl
  split <;> omega
theorem bN_le (f : Bool) : bN f ≤ 1 := by
  unfold bN
  split <;> omega
theorem PE.we {m : Int32 → Int32} {V : VT} {a b : Nat} {e f : Bool} (ha : a % 2 = 0) (hb : b % 2 = 1) (ha5 : a + 1 < 512) (hb5 : b < 512) (h : PE m V (a + bN e) (cl f b)) : WE m V a b (e || f) := by
  obtain ⟨h1, h2⟩ := h
  have he := bN_le e
  have hc := cl_le f b
  obtain ⟨⟨c1, -⟩, ⟨c3, -⟩, -⟩ := bits_all (cl f b) (by omega)
  obtain ⟨-, ⟨d3, d4⟩, -⟩ := bits_all (a + bN e) (by omega)
  refine ⟨?_, ?_⟩
  · show (vEnd m V).1 ||| ((vEnd m V).2.1 &&& 1) = _
    rw [h1, h2, c1]
    cases f with
    | true =>
      rw [show cl true b % 2 = 1 from hb, show nI 1 = 1 from rfl, d3]
      congr 1
      cases e with
      | true =>
        show a + 1 + 1 - (a + 1) % 2 = a + 1
        omega
      | false =>
        show a + 0 + 1 - (a + 0) % 2 = a + 1
        omega
    | false =>
      rw [show cl false b % 2 = 0 from (show (b - b % 2) % 2 = 0 by omega), show nI 0 = 0 from rfl, d4, Bool.or_false]
  · show (vEnd m V).2.1 ||| 1 = _
    rw [h2, c3]
    congr 1
    cases f with
    | true =>
      show b + 1 - b % 2 = b
      omega
    | false =>
      show b - b % 2 + 1 - (b - b % 2) % 2 = b
      omega
/-- a bracket closed -/
theorem WE.close {m : Int32 → Int32} {V : VT} {a b : Nat} {F : Bool} (ha : a < 256) (hb : b < 256) (h : WE m V (2 * a) (2 * b + 1) F) : (vBr (vEnd m V)).1 = nI a ∧ (vBr (vEnd m V)).2.1 = nI (cl F b) ∧ (vBr (vEnd m V)).2.2.1 = 0 := by
  obtain ⟨h1, h2⟩ := h
  have hF := bN_le F
  obtain ⟨⟨c1, -⟩, -, c5, -⟩ := bits_all (2 * a + bN F) (by omega)
  obtain ⟨-, -, e5, -⟩ := bits_all (2 * b + 1) (by omega)
  obtain ⟨⟨-, g2⟩, -, -, -⟩ := bits_all b (by omega)
  have hl := vEnd_l m V
  unfold vBr
  rw [h1, h2, c1, c5, e5, show (2 * a + bN F) / 2 = a by omega, show (2 * b + 1) / 2 = b by omega, show (2 * a + bN F) % 2 = bN F by omega]
  cases F with
  | true =>
    have : b2i (nI (bN true) = 1) = 1 := b2i_t rfl
    rw [this]
    exact ⟨rfl, rfl, hl⟩
  | false =>
    have : b2i (nI (bN false) = 1) = 0 := b2i_f (by decide)
    rw [this]
    exact ⟨rfl, g2, hl⟩
theorem vR_open (m : Int32 → Int32) (V : VT) : vRead m 40 V = (V.1 <<< ((1 : Int32) &&& 31), V.2.1 <<< ((1 : Int32) &&& 31) ||| 1, V.2.2.1, V.2.2.2.1, V.2.2.2.2) := by
  unfold vRead
  rw [if_neg (by decide), if_neg (by decide), if_neg (by decide), if_pos (by decide)]
theorem vR_close (m : Int32 → Int32) (V : VT) : vRead m 41 V = vBr (vEnd m V) := by
  unfold vRead
  rw [if_neg (by decide), if_neg (by decide), if_neg (by decide), if_neg (by decide), if_pos (by decide)]
theorem vR_and (m : Int32 → Int32) (V : VT) : vRead m 38 V = vEnd m V := by
  unfold vRead
  rw [if_neg (by decide), if_neg (by decide), if_pos (by decide)]
theorem vR_or (m : Int32 → Int32) (V : VT) : vRead m 124 V = vPart (vEnd m V) := by
  unfold vRead
  rw [if_neg (by decide), if_neg (by decide), if_neg (by decide), if_neg (by decide), if_neg (by decide), if_neg (by decide), if_pos (by decide)]
theorem vR_blank (m : Int32 → Int32) (V : VT) : vRead m 32 V = V := by
  unfold vRead
  rw [if_neg (by decide), if_pos (by decide)]
theorem vR_sign (m : Int32 → Int32) (V : VT) {c : Int32} (h : c = 61 ∨ c = 60 ∨ c = 62) : vRead m c V = (V.1, V.2.1, V.2.2.1, c, 0) := by
  rcases h with rfl | rfl | rfl
  all_goals
    unfold vRead
    rw [if_neg (by decide), if_neg (by decide), if_neg (by decide), if_neg (by decide), if_neg (by decide), if_pos (by decide)]
theorem vR_letter (m : Int32 → Int32) (V : VT) {c : Int32} (h : c = 99 ∨ c = 115 ∨ c = 119 ∨ c = 97 ∨ c = 112) : vRead m c V = (V.1, V.2.1, c, V.2.2.2.1, V.2.2.2.2) := by
  rcases h with rfl | rfl | rfl | rfl | rfl
  all_goals
    unfold vRead
    rw [if_neg (by decide), if_neg (by decide), if_neg (by decide), if_neg (by decide), if_neg (by decide), if_neg (by decide), if_neg (by decide)]
theorem vR_digit (m : Int32 → Int32) (V : VT) {c : Int32} (h : 48 ≤ c.toInt ∧ c.toInt ≤ 57) : vRead m c V = (V.1, V.2.1, V.2.2.1, V.2.2.2.1, 10 * V.2.2.2.2 + c - 48) := by
  unfold vRead
  rw [if_pos h, Int32.mul_comm, Int32.sub_eq_add_neg, Int32.sub_eq_add_neg, Int32.add_assoc]
theorem vRun_skip {T : HS} {m : Int32 → Int32} {V0 : VT} {p : Nat} : ∀ j, p + j ≤ lkP T p → vRun m (mA T 43) V0 (p + j) = vRun m (mA T 43) V0 p
  | 0, _ => rfl
  | j + 1, hj => by
    have b2 := ((lkP_sp T p).2.2.1 (p + j) (by omega) (by omega)).2
    show vRead m (mA T 43 (p + j)) (vRun m (mA T 43) V0 (p + j)) = _
    rw [b2, vR_blank]
    exact vRun_skip j (by omega)
theorem vRun_look {T : HS} {m : Int32 → Int32} {V0 : VT} {p : Nat} (hp : p ≤ szM T) : vRun m (mA T 43) V0 (lkP T p) = vRun m (mA T 43) V0 p := by
  obtain ⟨k1, k2⟩ := lkP_le hp
  have := vRun_skip (T := T) (m := m) (V0 := V0) (p := p) (lkP T p - p) (by omega)
  rw [show p + (lkP T p - p) = lkP T p by omega] at this
  exact this
/-- digits: the grammar, the verdict and the reference alike -/
theorem nu_v {T : HS} {m : Int32 → Int32} {V0 : VT} {D : Nat} : ∀ (n a : Nat) (v : Int32), n ≤ 4 → Sd T 3 a D → (gRun (mA T 43) a).2.2 = nI n → (vRun m (mA T 43) V0 a).2.2.2.2 = v → (∃ w, (nuL T n a v).2 = some w ∧ Sq T (nuL T n a v).1 D ∧ a ≤ (nuL T n a v).1 ∧ vRun m (mA T 43) V0 (nuL T n a v).1 = ((vRun m (mA T 43) V0 a).1, (vRun m (mA T 43) V0 a).2.1, (vRun m (mA T 43) V0 a).2.2.1, (vRun m (mA T 43) V0 a).2.2.2.1, w)) ∨ ((nuL T n a v).2 = none ∧ Flt T (nuL T n a v).1)
  | 0, a, v, hn, h, hl, hv => by
    by_cases q : dgB T a = true
    · rw [nuL_out q]
      exact Or.inr ⟨rfl, d_no h hl q⟩
    · rw [nuL_end q]
      exact Or.inl ⟨v, rfl, ⟨h, fun z => absurd z q⟩, Nat.le_refl _, by rw [← hv]⟩
  | n + 1, a, v, hn, h, hl, hv => by
    by_cases q : dgB T a = true
    · rw [nuL_step q]
      obtain ⟨k1, k2⟩ := d_more h hl (by omega) q
      have ev : vRun m (mA T 43) V0 (a + 1) = ((vRun m (mA T 43) V0 a).1, (vRun m (mA T 43) V0 a).2.1, (vRun m (mA T 43) V0 a).2.2.1, (vRun m (mA T 43) V0 a).2.2.2.1, 10 * v + mA T 43 a - 48) := by
        show vRead m (mA T 43 a) (vRun m (mA T 43) V0 a) = _
        rw [vR_digit m _ (dgB_iff.mp q).2, hv]
      rcases nu_v (m := m) (V0 := V0) n (a + 1) (10 * v + mA T 43 a - 48) (by omega) k1 k2 (by rw [ev]) with ⟨w, w1, w2, w3, w4⟩ | w
      · refine Or.inl ⟨w, w1, w2, by omega, ?_⟩
        rw [w4, ev]
      · exact Or.inr w
    · rw [nuL_end q]
      exact Or.inl ⟨v, rfl, ⟨h, fun z => absurd z q⟩, Nat.le_refl _, by rw [← hv]⟩
/-! the codes -/
def cdS (C : Nat → Int32) (v : Int32 → Int32) (st : HT) : Nat → HT
  | 0 => st
  | i + 1 => cdN C v (cdS C v st i)
theorem cdS_add (C : Nat → Int32) (v : Int32 → Int32) (st : HT) (N : Nat) : ∀ M, cdS C v st (N + M) = cdS C v (cdS C v st N) M
  | 0 => rfl
  | M + 1 => congrArg (cdN C v) (cdS_add C v st N M)
def Rn (C : Nat → Int32) (v : Int32 → Int32) (s t : HT) : Prop := ∃ N, cdS C v s N = t ∧ ∀ i, i < N → cOk C (cdS C v s i)
theorem Rn.refl {C : Nat → Int32} {v : Int32 → Int32} (s : HT) : Rn C v s s := ⟨0, rfl, fun i hi => absurd hi (Nat.not_lt_zero _)⟩
theorem Rn.one {C : Nat → Int32} {v : Int32 → Int32} {s : HT} (h : cOk C s) : Rn C v s (cdN C v s) := ⟨1, rfl, fun i hi => by
  have e : i = 0 := by omega
  rw [e]; exact h⟩
theorem Rn.trans {C : Nat → Int32} {v : Int32 → Int32} {s t u : HT} (h : Rn C v s t) (h2 : Rn C v t u) : Rn C v s u := by
  obtain ⟨N, e, o⟩ := h
  obtain ⟨M, e2, o2⟩ := h2
  refine ⟨N + M, by rw [cdS_add, e, e2], fun i hi => ?_⟩
  by_cases q : i < N
  · exact o i q
  · have := o2 (i - N) (by omega)
    rw [← e, ← cdS_add, show N + (i - N) = i by omega] at this
    exact this
/-- codes from s0 to s1 push f -/
def Ev (C : Nat → Int32) (v : Int32 → Int32) (s0 s1 : Nat) (f : Bool) : Prop := ∀ n p, n ≤ s0 → ∃ p2, Rn C v (s0, n, p) (s1, n + 1, p2) ∧ (∀ j, j < n → p2 j = p j) ∧ p2 n = bv f
/-- codes from s0 to s1 join g to what is uppermost -/
def Ew (C : Nat → Int32) (v : Int32 → Int32) (s0 s1 : Nat) (op : Bool → Bool → Bool) (g : Bool) : Prop := ∀ n p f0, n + 1 ≤ s0 → p n = bv f0 → ∃ p2, Rn C v (s0, n + 1, p) (s1, n + 1, p2) ∧ (∀ j, j < n → p2 j = p j) ∧ p2 n = bv (op f0 g)
theorem Ew.nil {C : Nat → Int32} {v : Int32 → Int32} {s : Nat} {op : Bool → Bool → Bool} {g : Bool} (h : ∀ f, op f g = f) : Ew C v s s op g := fun n p f0 _ hp => ⟨p, Rn.refl _, fun _ _ => rfl, by rw [h, hp]⟩
theorem Ev.join {C : Nat → Int32} {v : Int32 → Int32} {s0 s1 s2 : Nat} {op : Bool → Bool → Bool} {f g : Bool} (h : Ev C v s0 s1 f) (h2 : Ew C v s1 s2 op g) (hs : s0 < s1) : Ev C v s0 s2 (op f g) := fun n p hn => by
  obtain ⟨p1, r1, b1, e1⟩ := h n p hn
  obtain ⟨p2, r2, b2, e2⟩ := h2 n p1 f (by omega) e1
  exact ⟨p2, r1.trans r2, fun j hj => (b2 j hj).trans (b1 j hj), e2⟩
theorem cmM_01 (g v x : Int32) : cmM g v x = 0 ∨ cmM g v x = 1 := by
  unfold cmM
  split
  · exact b2i_01
  · split <;> exact b2i_01
theorem bv_of {x : Int32} (h : x = 0 ∨ x = 1) : bv (decide (¬ x = 0)) = x := by
  rcases h with rfl | rfl <;> rfl
theorem Ev.push {C : Nat → Int32} {v : Int32 → Int32} {s : Nat} (h0 : C s = 0) (hs : s + 3 < 420) : Ev C v s (s + 4) (decide (¬ cmM (C (s + 2)) (v (C (s + 1))) (C (s + 3)) = 0)) := fun n p hn => by
  have e : cdN C v (s, n, p) = (s + 4, n + 1, upd p n (cmM (C (s + 2)) (v (C (s + 1))) (C (s + 3)))) := if_pos h0
  refine ⟨upd p n (cmM (C (s + 2)) (v (C (s + 1))) (C (s + 3))), ?_, fun j hj => pk_un (by omega), ?_⟩
  · rw [← e]
    exact Rn.one ⟨hs, by rw [h0]; decide, fun _ => (show n < 420 by omega), fun z => absurd h0 z⟩
  · rw [pk_us, bv_of (cmM_01 _ _ _)]
theorem bv_ne (f : Bool) : (¬ bv f = 0) ↔ f = true := by cases f <;> decide
theorem Ew.more {C : Nat → Int32} {v : Int32 → Int32} {s0 s1 s2 : Nat} {op : Bool → Bool → Bool} {f g : Bool} (h : Ev C v s0 s1 f) (hs : s0 ≤ s1) (h1 : s1 + 3 < 420) (hop : (C s1 = 1 ∧ op = and) ∨ (C s1 = 2 ∧ op = or)) (h2 : Ew C v (s1 + 1) s2 op g) : Ew C v s0 s2 op (op f g) := fun n p f0 hn hp => by
  obtain ⟨p1, r1, b1, e1⟩ := h (n + 1) p hn
  have hne : ¬ C s1 = 0 ∧ ¬ C s1 = 3 := by rcases hop with ⟨q, -⟩ | ⟨q, -⟩ <;> rw [q] <;> decide
  have en : p1 n = bv f0 := (b1 n (by omega)).trans hp
  have es : cdN C v (s1, n + 2, p1) = (s1 + 1, n + 1, upd p1 n (bv (op f0 f))) := by
    unfold cdN
    dsimp only
    rw [if_neg hne.1]
    show (s1 + 1, n + 1, upd p1 n _) = _
    congr 3
    have ha : (¬ p1 (n + 2 - 2) = 0) ↔ f0 = true := by
      rw [show n + 2 - 2 = n by omega, en]; exact bv_ne f0
    have hb : (¬ p1 (n + 2 - 1) = 0) ↔ f = true := by
      rw [show n + 2 - 1 = n + 1 by omega, e1]; exact bv_ne f
    rcases hop with ⟨q, rfl⟩ | ⟨q, rfl⟩
    · rw [q, if_pos rfl]
      exact (b2i_cg (and_congr ha hb)).trans (by cases f0 <;> cases f <;> rfl)
    · rw [q, if_neg (by decide)]
      exact (b2i_cg (or_congr ha hb)).trans (by cases f0 <;> cases f <;> rfl)
  have r2 : Rn C v (s1, n + 2, p1) (s1 + 1, n + 1, upd p1 n (bv (op f0 f))) := by
    rw [← es]
    exact Rn.one ⟨h1, hne.2, fun z => absurd z hne.1, fun _ => (show 2 ≤ n + 2 ∧ n + 2 ≤ 420 by omega)⟩
  obtain ⟨p2, r3, b3, e3⟩ := h2 n (upd p1 n (bv (op f0 f))) (op f0 f) (by omega) pk_us
  refine ⟨p2, (r1.trans r2).trans r3, fun j hj => ?_, ?_⟩
  · rw [b3 j hj, pk_un (by omega), b1 j (by omega)]
  · rw [e3]
    rcases hop with ⟨q, rfl⟩ | ⟨q, rfl⟩
    · cases f0 <;> cases f <;> cases g <;> rfl
    · cases f0 <;> cases f <;> cases g <;> rfl
