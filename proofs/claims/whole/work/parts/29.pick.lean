/-! ===== parting, in numbers ===== -/
/-- who of the first n is next: not yet given, the greatest rest, the lowest of several -/
def pkB (us : Nat → Bool) (r : Nat → Nat) : Nat → Option Nat
  | 0 => none
  | k + 1 => if us k = true then pkB us r k else match pkB us r k with
    | none => some k
    | some b => if r b < r k then some k else some b
theorem pkB_none {us : Nat → Bool} {r : Nat → Nat} : ∀ {n : Nat}, pkB us r n = none → ∀ k, k < n → us k = true
  | 0, _, k, hk => absurd hk (Nat.not_lt_zero k)
  | n + 1, h, k, hk => by
    unfold pkB at h
    split at h
    · rename_i hu
      rcases Nat.lt_succ_iff_lt_or_eq.mp hk with q | q
      · exact pkB_none h k q
      · rw [q]; exact hu
    · split at h
      · exact absurd h (by simp)
      · split at h <;> exact absurd h (by simp)
theorem pkB_some {us : Nat → Bool} {r : Nat → Nat} : ∀ {n b : Nat}, pkB us r n = some b → b < n ∧ us b = false ∧ (∀ k, k < n → us k = false → r k ≤ r b) ∧ ∀ k, k < b → us k = false → r k < r b
  | 0, b, h => absurd h (by simp [pkB])
  | n + 1, b, h => by
    unfold pkB at h
    split at h
    · rename_i hu
      obtain ⟨h1, h2, h3, h4⟩ := pkB_some h
      refine ⟨by omega, h2, fun k hk hf => ?_, h4⟩
      rcases Nat.lt_succ_iff_lt_or_eq.mp hk with q | q
      · exact h3 k q hf
      · rw [q, hu] at hf; exact absurd hf (by simp)
    · rename_i hu
      have hu2 : us n = false := by simpa using hu
      split at h
      · rename_i hn
        have e : n = b := by simpa using h
        subst e
        refine ⟨by omega, hu2, fun k hk hf => ?_, fun k hk hf => ?_⟩
        · rcases Nat.lt_succ_iff_lt_or_eq.mp hk with q | q
          · rw [pkB_none hn k q] at hf; exact absurd hf (by simp)
          · rw [q]; exact Nat.le_refl _
        · rw [pkB_none hn k hk] at hf; exact absurd hf (by simp)
      · rename_i c hc
        obtain ⟨h1, h2, h3, h4⟩ := pkB_some hc
        split at h
        · rename_i hlt
          have e : n = b := by simpa using h
          subst e
          refine ⟨by omega, hu2, fun k hk hf => ?_, fun k hk hf => ?_⟩
          · rcases Nat.lt_succ_iff_lt_or_eq.mp hk with q | q
            · exact Nat.le_trans (h3 k q hf) (Nat.le_of_lt hlt)
            · rw [q]; exact Nat.le_refl _
          · exact Nat.lt_of_le_of_lt (h3 k hk hf) hlt
        · rename_i hlt
          have e : c = b := by simpa using h
          subst e
          refine ⟨by omega, h2, fun k hk hf => ?_, h4⟩
          rcases Nat.lt_succ_iff_lt_or_eq.mp hk with q | q
          · exact h3 k q hf
          · rw [q]; omega
/-- the place that these four facts name is one only -/
theorem pk_one {us : Nat → Bool} {r : Nat → Nat} {n b c : Nat} (hb : b < n ∧ us b = false ∧ (∀ k, k < n → us k = false → r k ≤ r b) ∧ ∀ k, k < b → us k = false → r k < r b) (hc : c < n ∧ us c = false ∧ (∀ k, k < n → us k = false → r k ≤ r c) ∧ ∀ k, k < c → us k = false → r k < r c) : b = c := by
  have h1 := hb.2.2.1 c hc.1 hc.2.1
  have h2 := hc.2.2.1 b hb.1 hb.2.1
  rcases Nat.lt_trichotomy b c with q | q | q
  · have := hc.2.2.2 b q hb.2.1; omega
  · exact q
  · have := hb.2.2.2 c q hc.2.1; omega
/-- who has been given when t have -/
def gvP (r : Nat → Nat) (many : Nat) : Nat → Nat → Bool
  | 0 => fun _ => false
  | t + 1 => fun k => if pkB (gvP r many t) r many = some k then true else gvP r many t k
theorem gvP_ct (r : Nat → Nat) (many : Nat) : ∀ t, fb_ct (gvP r many t) many ≤ t
  | 0 => by
    have : fb_ct (fun _ => false) many = 0 := fb_ct_zero.mpr (fun _ _ => rfl)
    show fb_ct (fun _ => false) many ≤ 0
    omega
  | t + 1 => by
    have ih := gvP_ct r many t
    cases hp : pkB (gvP r many t) r many with
    | none =>
      have e : gvP r many (t + 1) = gvP r many t := by
        funext k
        show (if pkB (gvP r many t) r many = some k then true else gvP r many t k) = _
        rw [hp]; simp
      rw [e]; omega
    | some b =>
      have e : gvP r many (t + 1) = fun k => if k = b then true else gvP r many t k := by
        funext k
        show (if pkB (gvP r many t) r many = some k then true else gvP r many t k) = _
        rw [hp]
        by_cases hk : k = b
        · simp [hk]
        · have hk2 : ¬ b = k := fun q => hk q.symm
          simp [hk, hk2]
      obtain ⟨h1, h2, -, -⟩ := pkB_some hp
      have h3 := fb_ct_upd (gvP r many t) true h1
      rw [e]
      rw [h2, if_neg (by simp), if_pos rfl] at h3
      omega
theorem gvP_pick {r : Nat → Nat} {many t : Nat} (h : t < many) : ∃ b, pkB (gvP r many t) r many = some b := by
  cases hp : pkB (gvP r many t) r many with
  | none =>
    have h1 := fb_ct_all.mpr (pkB_none hp)
    have h2 := gvP_ct r many t
    omega
  | some b => exact ⟨b, rfl⟩
theorem gvP_step {r : Nat → Nat} {many t b : Nat} (h : pkB (gvP r many t) r many = some b) : gvP r many (t + 1) = fun k => if k = b then true else gvP r many t k := by
  funext k
  show (if pkB (gvP r many t) r many = some k then true else gvP r many t k) = _
  rw [h]
  by_cases hk : k = b
  · simp [hk]
  · have hk2 : ¬ b = k := fun q => hk q.symm
    simp [hk, hk2]
def pQ (n : Nat) (m : Nat → Nat) (many k : Nat) : Nat := n * m k / fb_sm m many
def pT (n : Nat) (m : Nat → Nat) (many k : Nat) : Nat := n * m k % fb_sm m many
/-- what is left when each has its whole part -/
def pL (n : Nat) (m : Nat → Nat) (many : Nat) : Nat := n - fb_sm (pQ n m many) many
theorem pQT {n : Nat} {m : Nat → Nat} {many : Nat} : ∀ i, fb_sm (pQ n m many) i * fb_sm m many + fb_sm (pT n m many) i = n * fb_sm m i
  | 0 => by simp [fb_sm]
  | i + 1 => by
    have ih := pQT (n := n) (m := m) (many := many) i
    have h := Nat.div_add_mod (n * m i) (fb_sm m many)
    rw [Nat.mul_comm] at h
    rw [fb_sm_succ, fb_sm_succ, fb_sm_succ, Nat.add_mul, Nat.mul_add]
    unfold pQ pT at *
    omega
theorem pQ_le {n : Nat} {m : Nat → Nat} {many : Nat} (h0 : 0 < fb_sm m many) {i : Nat} (hi : i ≤ many) : fb_sm (pQ n m many) i ≤ n := by
  have h1 := pQT (n := n) (m := m) (many := many) i
  have h2 : fb_sm m i ≤ fb_sm m many := by
    have := fb_sm_mono m i (many - i)
    rwa [show i + (many - i) = many by omega] at this
  have h3 : n * fb_sm m i ≤ n * fb_sm m many := Nat.mul_le_mul_left n h2
  exact Nat.le_of_mul_le_mul_right (by omega : fb_sm (pQ n m many) i * fb_sm m many ≤ n * fb_sm m many) h0
theorem pL_all {n : Nat} {m : Nat → Nat} {many : Nat} (h0 : 0 < fb_sm m many) : pL n m many * fb_sm m many = fb_sm (pT n m many) many := by
  have h1 := pQT (n := n) (m := m) (many := many) many
  have h2 := pQ_le (n := n) h0 (Nat.le_refl many)
  unfold pL
  rw [Nat.sub_mul]
  omega
theorem pT_lt {n : Nat} {m : Nat → Nat} {many : Nat} (h0 : 0 < fb_sm m many) (k : Nat) : pT n m many k < fb_sm m many := Nat.mod_lt _ h0
theorem pL_lt {n : Nat} {m : Nat → Nat} {many : Nat} (h0 : 0 < fb_sm m many) : pL n m many < many := by
  have h1 := pL_all (n := n) h0
  have h2 : fb_sm (pT n m many) many ≤ many * (fb_sm m many - 1) := fb_sm_bound (fun k _ => by have := pT_lt (n := n) h0 k; omega)
  have hm : 0 < many := by
    cases many with
    | zero => exact absurd h0 (by simp [fb_sm])
    | succ j => omega
  have h3 : many * (fb_sm m many - 1) < many * fb_sm m many := Nat.mul_lt_mul_of_pos_left (by omega) hm
  exact Nat.lt_of_mul_lt_mul_right (a := fb_sm m many) (by omega)
