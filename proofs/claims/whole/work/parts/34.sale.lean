/-! ===== the system: lots made; sales ===== -/
theorem refsC_lo : ∀ p ∈ refsC, p.2.1 < 17 := by decide
theorem ShC.addL {S S2 : HS} (h : ShC S) (hlt : nn (cI S 11) < 400) (hL : sL S2 = sL S ++ [1000 + nn (cI S 11)]) (hR : ∀ f a, a ≠ 1000 + nn (cI S 11) → sR S2 f a = sR S f a) (hR0 : ∀ f, sR S2 f (1000 + nn (cI S 11)) = none) (hQ : sQ S2 = va_up (sQ S) 7 (va_up (sQ S 7) (nn (cI S 11)) (some (1000 + nn (cI S 11))))) (h9 : cI S2 9 = cI S 9) (h10 : cI S2 10 = cI S 10) (h11 : cI S2 11 = cI S 11 + 1) : ShC S2 := by
  obtain ⟨⟨a1, a2⟩, a3, a4, a5, a6, a7, a8, a9, a10, ⟨a11, a12⟩, a13, a14, a15⟩ := id h
  have e11 : (cI S2 11).toInt = (cI S 11).toInt + 1 := by
    rw [h11, fb_addI] <;> (have : (1 : Int32).toInt = 1 := rfl) <;> omega
  have hn : nn (cI S2 11) = nn (cI S 11) + 1 := by unfold nn at *; omega
  have hb9 : nn (cI S 9) ≤ 12 := by unfold nn; omega
  have hb10 : nn (cI S 10) ≤ 4 := by unfold nn; omega
  have q5 : ∀ k, k ≠ 7 → sQ S2 k = sQ S k := fun k hk => by rw [hQ, va_up_ne _ _ hk]
  have q7 : sQ S2 7 = va_up (sQ S 7) (nn (cI S 11)) (some (1000 + nn (cI S 11))) := by rw [hQ]; simp [va_up]
  refine ⟨⟨?_, ?_⟩, ?_, ?_, ?_, ?_, ?_, ?_, ?_, ?_, ⟨?_, ?_⟩, ?_, ?_, ?_⟩
  · intro t ht; rw [hL]; exact List.mem_append_left _ (a1 t ht)
  · intro p hp; rw [hR _ _ (by have := refsC_lo p hp; omega)]; exact a2 p hp
  · intro t
    rw [hL, List.mem_append, a3 t, List.mem_singleton, h9, h10, hn, q5 10 (by decide)]
    constructor
    · rintro ((q | q | q | q | q) | q)
      · exact Or.inl q
      · exact Or.inr (Or.inl q)
      · exact Or.inr (Or.inr (Or.inl q))
      · exact Or.inr (Or.inr (Or.inr (Or.inl q)))
      · exact Or.inr (Or.inr (Or.inr (Or.inr ⟨q.1, by omega⟩)))
      · exact Or.inr (Or.inr (Or.inr (Or.inr ⟨by omega, by omega⟩)))
    · rintro (q | q | q | q | q)
      · exact Or.inl (Or.inl q)
      · exact Or.inl (Or.inr (Or.inl q))
      · exact Or.inl (Or.inr (Or.inr (Or.inl q)))
      · exact Or.inl (Or.inr (Or.inr (Or.inr (Or.inl q))))
      · by_cases e : t = 1000 + nn (cI S 11)
        · exact Or.inr e
        · exact Or.inl (Or.inr (Or.inr (Or.inr (Or.inr ⟨q.1, by omega⟩))))
  · intro i hi
    rw [h9] at hi
    rw [q5 5 (by decide), hR _ _ (by omega), hR _ _ (by omega)]
    exact a4 i hi
  · intro i hi hi2
    rw [h9] at hi
    rw [q5 5 (by decide)]
    exact a5 i hi hi2
  · intro i hi
    rw [h10] at hi
    rw [q5 6 (by decide), hR _ _ (by omega)]
    exact a6 i hi
  · intro i hi hi2
    rw [h10] at hi
    rw [q5 6 (by decide)]
    exact a7 i hi hi2
  · intro i hi
    rw [hn] at hi
    rw [q7]
    by_cases e : i = nn (cI S 11)
    · rw [e]; simp [va_up]
    · rw [va_up_ne _ _ e]; exact a8 i (by omega)
  · intro i hi hi2
    rw [hn] at hi
    rw [q7, va_up_ne _ _ (by omega)]
    exact a9 i (by omega) hi2
  · intro i hi
    rw [q5 10 (by decide), hR _ _ (by omega)]
    exact a10 i hi
  · intro f a t e
    rw [hL]
    by_cases q : a = 1000 + nn (cI S 11)
    · rw [q, hR0] at e; cases e
    · rw [hR _ _ q] at e; exact List.mem_append_left _ (a11 f a t e)
  · intro a i t e
    rw [hL]
    by_cases q : a = 7
    · rw [q, q7] at e
      by_cases q2 : i = nn (cI S 11)
      · rw [q2] at e
        simp [va_up] at e
        rw [← e]
        exact List.mem_append_right _ (List.mem_singleton.mpr rfl)
      · rw [va_up_ne _ _ q2] at e; exact List.mem_append_left _ (a12 7 i t e)
    · rw [q5 a q] at e; exact List.mem_append_left _ (a12 a i t e)
  · rw [h9]; exact a13
  · rw [h10]; exact a14
  · unfold nn at hlt; omega
/-- a lot made -/
def initL (S : HS) (o : Nat) (a b c e f g i : Int32) : HS := setI (setI (setI (setI (setI (setI (setI S (fid 2 0) o a) (fid 2 1) o b) (fid 2 2) o c) (fid 2 3) o e) (fid 2 4) o f) (fid 2 5) o g) (fid 2 6) o i
def newL (S : HS) (a b c e f g i : Int32) : HS := setI (setQ (initL (newO S (1000 + nn (cI S 11))) (1000 + nn (cI S 11)) a b c e f g i) 7 (va_up (sQ S 7) (cI S 11).toNatClampNeg (some (1000 + nn (cI S 11))))) (fid 8 11) 0 (cI S 11 + 1)
theorem newL_L (S : HS) (a b c e f g i : Int32) : sL (newL S a b c e f g i) = sL S ++ [1000 + nn (cI S 11)] := rfl
theorem newL_R (S : HS) (a b c e f g i : Int32) (k : Nat) : sR (newL S a b c e f g i) k = va_up (sR S k) (1000 + nn (cI S 11)) none := rfl
theorem newL_A (S : HS) (a b c e f g i : Int32) : sA (newL S a b c e f g i) = sA S := rfl
theorem newL_Q (S : HS) (a b c e f g i : Int32) : sQ (newL S a b c e f g i) = va_up (sQ S) 7 (va_up (sQ S 7) (nn (cI S 11)) (some (1000 + nn (cI S 11)))) := rfl
theorem up2_ne {α : Type} {f : Nat → Nat → α} {i a j b : Nat} {v : α} (h : j ≠ i ∨ b ≠ a) : up2 f i a v j b = f j b := by
  unfold up2
  rw [if_neg]
  rintro ⟨q, q2⟩
  rcases h with h | h
  · exact h q
  · exact h q2
theorem sI_setIn {S : HS} {f a j b : Nat} {v : Int32} (h : j ≠ f ∨ b ≠ a) : sI (setI S f a v) j b = sI S j b := up2_ne h
theorem sI_setIe (S : HS) (f a : Nat) (v : Int32) : sI (setI S f a v) f a = v := by simp [sI_setI, up2]
theorem initL_I {S : HS} {o : Nat} {a b c e f g i : Int32} {k t : Nat} (h : t ≠ o) : sI (initL S o a b c e f g i) k t = sI S k t := by
  unfold initL
  rw [sI_setIn (Or.inr h), sI_setIn (Or.inr h), sI_setIn (Or.inr h), sI_setIn (Or.inr h), sI_setIn (Or.inr h), sI_setIn (Or.inr h), sI_setIn (Or.inr h)]
theorem newL_I {S : HS} {a b c e f g i : Int32} {k t : Nat} (h : t ≠ 1000 + nn (cI S 11)) (h2 : k ≠ fid 8 11 ∨ t ≠ 0) : sI (newL S a b c e f g i) k t = sI S k t := by
  unfold newL
  rw [sI_setIn h2, sI_setQ, initL_I h, sI_newO, va_up_ne _ _ h]
theorem newL_11 {S : HS} {a b c e f g i : Int32} : sI (newL S a b c e f g i) (fid 8 11) 0 = cI S 11 + 1 := sI_setIe _ _ _ _
/-- the fields of the lot made: the seven given, the other 0 -/
theorem newL_T {S : HS} {a b c e f g i : Int32} : let T := 1000 + nn (cI S 11); let N := newL S a b c e f g i; sI N (fid 2 0) T = a ∧ sI N (fid 2 1) T = b ∧ sI N (fid 2 2) T = c ∧ sI N (fid 2 3) T = e ∧ sI N (fid 2 4) T = f ∧ sI N (fid 2 5) T = g ∧ sI N (fid 2 6) T = i ∧ sI N (fid 2 7) T = 0 ∧ sI N (fid 2 8) T = 0 ∧ sI N (fid 2 9) T = 0 ∧ sI N (fid 2 10) T = 0 := by
  intro T N
  have hT : T ≠ 0 := by show 1000 + _ ≠ 0; omega
  have z : ∀ k, sI (newO S T) k T = 0 := fun k => by rw [sI_newO]; simp [va_up]
  refine ⟨?_, ?_, ?_, ?_, ?_, ?_, ?_, ?_, ?_, ?_, ?_⟩ <;> (show sI (setI (setQ (initL (newO S T) T a b c e f g i) 7 _) (fid 8 11) 0 _) _ T = _; rw [sI_setIn (Or.inr hT), sI_setQ]; unfold initL)
  · rw [sI_setIn (Or.inl (by decide)), sI_setIn (Or.inl (by decide)), sI_setIn (Or.inl (by decide)), sI_setIn (Or.inl (by decide)), sI_setIn (Or.inl (by decide)), sI_setIn (Or.inl (by decide)), sI_setIe]
  · rw [sI_setIn (Or.inl (by decide)), sI_setIn (Or.inl (by decide)), sI_setIn (Or.inl (by decide)), sI_setIn (Or.inl (by decide)), sI_setIn (Or.inl (by decide)), sI_setIe]
  · rw [sI_setIn (Or.inl (by decide)), sI_setIn (Or.inl (by decide)), sI_setIn (Or.inl (by decide)), sI_setIn (Or.inl (by decide)), sI_setIe]
  · rw [sI_setIn (Or.inl (by decide)), sI_setIn (Or.inl (by decide)), sI_setIn (Or.inl (by decide)), sI_setIe]
  · rw [sI_setIn (Or.inl (by decide)), sI_setIn (Or.inl (by decide)), sI_setIe]
  · rw [sI_setIn (Or.inl (by decide)), sI_setIe]
  · rw [sI_setIe]
  · rw [sI_setIn (Or.inl (by decide)), sI_setIn (Or.inl (by decide)), sI_setIn (Or.inl (by decide)), sI_setIn (Or.inl (by decide)), sI_setIn (Or.inl (by decide)), sI_setIn (Or.inl (by decide)), sI_setIn (Or.inl (by decide)), z]
  · rw [sI_setIn (Or.inl (by decide)), sI_setIn (Or.inl (by decide)), sI_setIn (Or.inl (by decide)), sI_setIn (Or.inl (by decide)), sI_setIn (Or.inl (by decide)), sI_setIn (Or.inl (by decide)), sI_setIn (Or.inl (by decide)), z]
  · rw [sI_setIn (Or.inl (by decide)), sI_setIn (Or.inl (by decide)), sI_setIn (Or.inl (by decide)), sI_setIn (Or.inl (by decide)), sI_setIn (Or.inl (by decide)), sI_setIn (Or.inl (by decide)), sI_setIn (Or.inl (by decide)), z]
  · rw [sI_setIn (Or.inl (by decide)), sI_setIn (Or.inl (by decide)), sI_setIn (Or.inl (by decide)), sI_setIn (Or.inl (by decide)), sI_setIn (Or.inl (by decide)), sI_setIn (Or.inl (by decide)), sI_setIn (Or.inl (by decide)), z]
theorem newL_sh {S : HS} (h : ShC S) (hlt : nn (cI S 11) < 400) (a b c e f g i : Int32) : ShC (newL S a b c e f g i) :=
  h.addL hlt rfl (fun k t q => by rw [newL_R, va_up_ne _ _ q]) (fun k => by rw [newL_R]; simp [va_up]) rfl (newL_I (by omega) (Or.inl (by decide))) (newL_I (by omega) (Or.inl (by decide))) newL_11
theorem ShC.nL {S : HS} (h : ShC S) (hlt : nn (cI S 11) < 400) : 1000 + nn (cI S 11) ∉ sL S := fun q => by
  have h1 := (h.2.1 _).mp q
  have hb := h.b
  have hy := h.y
  have hbn : nn (cI S 9) ≤ 12 := by unfold nn; omega
  have hyn : nn (cI S 10) ≤ 4 := by unfold nn; omega
  omega
/-- the best bidder, the yard's tag -/
def buyS (S : HS) : Int32 := (bbF (fun j => sI S (fid 7 4) (200 + 2 * j)) (fun j => sI S (fid 7 3) (200 + 2 * j)) (nn (cI S 10))).1
/-- a sale can be made -/
def slC (S : HS) (h : Int32) : Prop := 0 < h.toInt ∧ (0 ≤ (buyS S).toInt ∧ (buyS S).toInt < (cI S 10).toInt) ∧ (cI S 11).toInt < 400
/-- how many crans it takes -/
def slN (S : HS) (h : Int32) : Int32 := if sI S (fid 7 4) (200 + 2 * nn (buyS S)) < h then sI S (fid 7 4) (200 + 2 * nn (buyS S)) else h
def slH (S : HS) (b : Nat) (m h : Int32) : HS :=
  setI (setI (newL S (cI S 12) (nI b) (sI S (fid 0 3) (100 + 3 * b)) (buyS S) (slN S h) m (sI S (fid 7 3) (200 + 2 * nn (buyS S)))) (fid 7 4) (200 + 2 * nn (buyS S)) (sI S (fid 7 4) (200 + 2 * nn (buyS S)) - slN S h)) (fid 0 6) (100 + 3 * b) (sI S (fid 0 6) (100 + 3 * b) + slN S h * sI S (fid 7 3) (200 + 2 * nn (buyS S)))
/-- sales one after the other: the heap, and what is left -/
def slI (b : Nat) (m : Int32) (S : HS) (h : Int32) : Nat → HS × Int32
  | 0 => (S, h)
  | k + 1 => (slH (slI b m S h k).1 b m (slI b m S h k).2, (slI b m S h k).2 - slN (slI b m S h k).1 (slI b m S h k).2)
theorem slH_sh {S : HS} (h : ShC S) {b : Nat} {m x : Int32} (hc : slC S x) : ShC (slH S b m x) := by
  have hl := h.l
  exact ((newL_sh h (by have := hc.2.2; unfold nn; omega) _ _ _ _ _ _ _).setI (by decide)).setI (by decide)
theorem slI_sh {S : HS} (h : ShC S) {b : Nat} {m x : Int32} : ∀ {k : Nat}, (∀ j, j < k → slC (slI b m S x j).1 (slI b m S x j).2) → ShC (slI b m S x k).1
  | 0, _ => h
  | k + 1, hc => slH_sh (slI_sh h (fun j hj => hc j (by omega))) (hc k (by omega))
theorem slH_I {S : HS} {b : Nat} {m x : Int32} {f : Nat} (hf : f = fid 8 9 ∨ f = fid 8 10 ∨ f = fid 8 12 ∨ f = fid 8 17) : sI (slH S b m x) f 0 = sI S f 0 := by
  unfold slH
  rw [sI_setIn (Or.inr (by omega)), sI_setIn (Or.inr (by omega)), newL_I (by omega) (Or.inl (by unfold fid at *; omega))]
/-- what a boat's sales come to -/
def slD (b : Nat) (m : Int32) (S : HS) (k : Nat) : Prop := k ≤ 4 ∧ (∀ j, j < k → slC (slI b m S (sI S (fid 0 5) (100 + 3 * b)) j).1 (slI b m S (sI S (fid 0 5) (100 + 3 * b)) j).2) ∧ (k = 4 ∨ ¬ slC (slI b m S (sI S (fid 0 5) (100 + 3 * b)) k).1 (slI b m S (sI S (fid 0 5) (100 + 3 * b)) k).2)
def slE (b : Nat) (m : Int32) (S : HS) (k : Nat) : HS := setI (slI b m S (sI S (fid 0 5) (100 + 3 * b)) k).1 (fid 8 17) 0 (sI (slI b m S (sI S (fid 0 5) (100 + 3 * b)) k).1 (fid 8 17) 0 + (slI b m S (sI S (fid 0 5) (100 + 3 * b)) k).2)
theorem R.forK {l : Launch} {G : va_G} {cy : Nat → ClassId} {y : MethodName} {b : ByteArray} {nL : Nat} {rt : Option FieldType} {d mc ms : Nat} {Q : Option Value → HS → Prop} {pc : Nat} {st : List Value} {α : Type} (kf nf : Nat → Nat) (N : Nat) (lvf : Nat → α → List (Option Value)) (Sf : Nat → α → HS) (I : Nat → α → Prop) (hx : ∀ a, I N a → R l G cy y b nL rt d mc ms Q pc (lvf N a) st (Sf N a) (kf N) (nf N)) (hs : ∀ i a, i < N → I i a → (∀ a', I (i + 1) a' → R l G cy y b nL rt d mc ms Q pc (lvf (i + 1) a') st (Sf (i + 1) a') (kf (i + 1)) (nf (i + 1))) → R l G cy y b nL rt d mc ms Q pc (lvf i a) st (Sf i a) (kf i) (nf i)) : ∀ i a, i ≤ N → I i a → R l G cy y b nL rt d mc ms Q pc (lvf i a) st (Sf i a) (kf i) (nf i) := by
  intro i
  generalize hu : N - i = u
  induction u generalizing i with
  | zero =>
    intro a hi hI
    have e : i = N := by omega
    subst e
    exact hx a hI
  | succ u ih => exact fun a hi hI => hs i a (by omega) hI (fun a' hI' => ih (i + 1) (by omega) a' (by omega) hI')
set_option maxHeartbeats 4000000 in
theorem c_X8_sellCatch {l : Launch} {G : va_G} {cy : Nat → ClassId} (b : Nat) (m : Int32) (S : HS) (h : ShC S) (hb : b < 12) : Cn l G cy yX8_sellCatch cX8_sellCatch 9 none 3 [.ref 0, .int (nI b), .ref (100 + 3 * b), .int m] S 4 44 (qV (fun S2 => ∃ k, slD b m S k ∧ S2 = slE b m S k)) := by
  refine Cn.of [some (.ref 0), some (.int (nI b)), some (.ref (100 + 3 * b)), some (.int m), none, none, none, none, none] (by decide) rfl (Nat.le_of_ble_eq_true rfl) ?_
  have hkb := tkB hb
  refine r_aload_n dX8_sellCatch_0 rfl rfl ?_
  refine r_getI dX8_sellCatch_1 lf_X8_204 rfl (by first | assumption | rfl) ?_
  refine r_ist4 dX8_sellCatch_4 (Nat.le_of_ble_eq_true rfl) rfl ?_
  refine r_iconst (v := 0) dX8_sellCatch_6 (by decide) ?_
  refine r_ist5 dX8_sellCatch_7 (Nat.le_of_ble_eq_true rfl) rfl ?_
  refine R.forK (α := Option Value × Option Value × Option Value) (fun i => i) (fun i => 11 * i) (4) (fun i a => [some (.ref 0), some (.int (nI b)), some (.ref (100 + 3 * b)), some (.int m), some (.int (slI b m S (sI S (fid 0 5) (100 + 3 * b)) i).2), some (.int (nI i)), a.1, a.2.1, a.2.2]) (fun i a => (slI b m S (sI S (fid 0 5) (100 + 3 * b)) i).1) (fun i a => ∀ j, j < i → slC (slI b m S (sI S (fid 0 5) (100 + 3 * b)) j).1 (slI b m S (sI S (fid 0 5) (100 + 3 * b)) j).2) ?_ ?_ 0 (none, none, none) (Nat.zero_le _) (fun j hj => absurd hj (Nat.not_lt_zero _))
  · intro a hI
    refine r_iload dX8_sellCatch_9 rfl ?_
    refine r_iconst (v := 4) dX8_sellCatch_11 (by decide) ?_
    refine r_icmp_ge 151 dX8_sellCatch_12 (by decide) (fun q12 => ?_) (fun q12 => ?_)
    · skip
      refine r_aload_n dX8_sellCatch_151 rfl rfl ?_
      refine r_dup dX8_sellCatch_152 rfl ?_
      refine r_getI dX8_sellCatch_153 lf_X8_251 rfl rfl ?_
      refine r_iload dX8_sellCatch_156 rfl ?_
      refine r_iadd dX8_sellCatch_158 ?_
      refine r_putI dX8_sellCatch_159 (lp_X8_251 _) rfl rfl ?_
      exact r_vret dX8_sellCatch_162 rfl (by (try dsimp only); have hF : nF 2 = 11 := rfl; omega) (by (try dsimp only); have hF : nF 2 = 11 := rfl; omega) ⟨rfl, by
          first
            | exact ⟨4, ⟨Nat.le_refl _, hI, Or.inl rfl⟩, rfl⟩
            | exact ⟨i, hD (fun q => by have := q.1; rw [fa_le] at q17; have h9 : (0 : Int32).toInt = 0 := rfl; omega), hE.symm⟩
            | exact ⟨i, hD (fun q => hc29 q.2.1), hE.symm⟩
            | exact ⟨i, hD (fun q => hl4 q.2.2), hE.symm⟩⟩
    · skip
      exact absurd (by decide) q12
  · intro i a hi hI ih
    have hii : (nI i).toInt = i := nI_toInt (by omega)
    have hsh : ShC (slI b m S (sI S (fid 0 5) (100 + 3 * b)) i).1 := slI_sh h hI
    have e1 : slI b m S (sI S (fid 0 5) (100 + 3 * b)) (i + 1) = (slH (slI b m S (sI S (fid 0 5) (100 + 3 * b)) i).1 b m (slI b m S (sI S (fid 0 5) (100 + 3 * b)) i).2, (slI b m S (sI S (fid 0 5) (100 + 3 * b)) i).2 - slN (slI b m S (sI S (fid 0 5) (100 + 3 * b)) i).1 (slI b m S (sI S (fid 0 5) (100 + 3 * b)) i).2) := rfl
    rw [e1] at ih
    have hI2 : slC (slI b m S (sI S (fid 0 5) (100 + 3 * b)) i).1 (slI b m S (sI S (fid 0 5) (100 + 3 * b)) i).2 → ∀ j, j < i + 1 → slC (slI b m S (sI S (fid 0 5) (100 + 3 * b)) j).1 (slI b m S (sI S (fid 0 5) (100 + 3 * b)) j).2 := fun q j hj => by
      rcases Nat.lt_succ_iff_lt_or_eq.mp hj with z | z
      · exact hI j z
      · rw [z]; exact q
    have hD : ¬ slC (slI b m S (sI S (fid 0 5) (100 + 3 * b)) i).1 (slI b m S (sI S (fid 0 5) (100 + 3 * b)) i).2 → slD b m S i := fun q => ⟨by omega, hI, Or.inr q⟩
    have hE : slE b m S i = setI (slI b m S (sI S (fid 0 5) (100 + 3 * b)) i).1 (fid 8 17) 0 (sI (slI b m S (sI S (fid 0 5) (100 + 3 * b)) i).1 (fid 8 17) 0 + (slI b m S (sI S (fid 0 5) (100 + 3 * b)) i).2) := rfl
    generalize (slI b m S (sI S (fid 0 5) (100 + 3 * b)) i) = PP at ih hsh hI2 hD hE e1 ⊢
    obtain ⟨X, x⟩ := PP
    dsimp only at ih hsh hI2 hD hE e1 ⊢
    have hyv := hsh.y
    have hlv := hsh.l
    refine r_iload dX8_sellCatch_9 rfl ?_
    refine r_iconst (v := 4) dX8_sellCatch_11 (by decide) ?_
    refine r_icmp_ge 151 dX8_sellCatch_12 (by decide) (fun q12 => ?_) (fun q12 => ?_)
    · skip
      exact absurd q12 (by rw [fa_le, hii]; have : (4 : Int32).toInt = 4 := rfl; omega)
    · skip
      refine r_iload dX8_sellCatch_15 rfl ?_
      refine r_if_le 151 dX8_sellCatch_17 (by decide) (fun q17 => ?_) (fun q17 => ?_)
      · skip
        refine r_aload_n dX8_sellCatch_151 rfl rfl ?_
        refine r_dup dX8_sellCatch_152 rfl ?_
        refine r_getI dX8_sellCatch_153 lf_X8_251 rfl rfl ?_
        refine r_iload dX8_sellCatch_156 rfl ?_
        refine r_iadd dX8_sellCatch_158 ?_
        refine r_putI dX8_sellCatch_159 (lp_X8_251 _) rfl rfl ?_
        exact r_vret dX8_sellCatch_162 rfl (by (try dsimp only); have hF : nF 2 = 11 := rfl; omega) (by (try dsimp only); have hF : nF 2 = 11 := rfl; omega) ⟨rfl, by
            first
              | exact ⟨4, ⟨Nat.le_refl _, hI, Or.inl rfl⟩, rfl⟩
              | exact ⟨i, hD (fun q => by have := q.1; rw [fa_le] at q17; have h9 : (0 : Int32).toInt = 0 := rfl; omega), hE.symm⟩
              | exact ⟨i, hD (fun q => hc29 q.2.1), hE.symm⟩
              | exact ⟨i, hD (fun q => hl4 q.2.2), hE.symm⟩⟩
      · skip
        have hx0 : 0 < x.toInt := by rw [fa_le] at q17; have : (0 : Int32).toInt = 0 := rfl; omega
        refine r_aload_n dX8_sellCatch_20 rfl rfl ?_
        refine r_invV0i dX8_sellCatch_21 lm_X8_286 rfl (c_X8_bestBidder X hsh) (Nat.le_of_ble_eq_true rfl) (Nat.le_of_ble_eq_true rfl) (by (try dsimp only); have hF : nF 2 = 11 := rfl; omega) (by (try dsimp only); have hF : nF 2 = 11 := rfl; omega) (fun r21 S21 hq21 => ?_)
        obtain ⟨hr21, hz21⟩ := hq21
        replace hz21 := hz21.symm
        subst hz21
        replace hr21 : r21 = buyS X := hr21
        subst hr21
        refine r_ist6 dX8_sellCatch_24 (Nat.le_of_ble_eq_true rfl) rfl ?_
        refine r_aload_n dX8_sellCatch_26 rfl rfl ?_
        refine r_iload dX8_sellCatch_27 rfl ?_
        refine r_invV1r dX8_sellCatch_29 lm_X8_111 rfl (c_X8_yardAt (buyS X) X hsh) (Nat.le_of_ble_eq_true rfl) (Nat.le_of_ble_eq_true rfl) (by (try dsimp only); have hF : nF 2 = 11 := rfl; omega) (by (try dsimp only); have hF : nF 2 = 11 := rfl; omega) (fun r29 S29 hq29 => ?_)
        obtain ⟨hr29, hz29⟩ := hq29
        replace hz29 := hz29.symm
        subst hz29
        subst hr29
        by_cases hc29 : 0 ≤ (buyS X).toInt ∧ (buyS X).toInt < (cI X 10).toInt
        · rw [if_pos (α := Option Nat) hc29]
          have hyy : nn (buyS X) < 4 := by unfold nn; omega
          have hky := tkY hyy
          refine r_ast7 dX8_sellCatch_32 (Nat.le_of_ble_eq_true rfl) rfl ?_
          refine r_aload dX8_sellCatch_34 rfl ?_
          refine r_ifnull dX8_sellCatch_36 ?_
          refine r_aload_n dX8_sellCatch_39 rfl rfl ?_
          refine r_getI dX8_sellCatch_40 lf_X8_121 rfl rfl ?_
          refine r_sipush (v := 400) dX8_sellCatch_43 (by decide) ?_
          refine r_icmp_lt 52 dX8_sellCatch_46 (by decide) (fun q46 => ?_) (fun q46 => ?_)
          · skip
            have hl4 : (cI X 11).toInt < 400 := by rw [fa_lt] at q46; have : (400 : Int32).toInt = 400 := rfl; exact q46
            have hln : nn (cI X 11) < 400 := by unfold nn; omega
            have hkl : tk (1000 + nn (cI X 11)) = 2 := tkLo hln
            have f0 : (1000 + nn (cI X 11)) ∉ sL X := hsh.nL hln
            have hTI : ∀ k t, t ≠ (1000 + nn (cI X 11)) → sI (newO X (1000 + nn (cI X 11))) k t = sI X k t := fun k t q => by rw [sI_newO, va_up_ne _ _ q]
            refine r_iload dX8_sellCatch_52 rfl ?_
            refine r_aload dX8_sellCatch_54 rfl ?_
            refine r_getI dX8_sellCatch_56 lf_X8_289 rfl (by first | assumption | rfl) ?_
            refine r_mmin dX8_sellCatch_59 lm_X8_270 (Nat.le_of_ble_eq_true rfl) (Nat.le_of_ble_eq_true rfl) (by (try dsimp only); have hF : nF 2 = 11 := rfl; omega) (by (try dsimp only); have hF : nF 2 = 11 := rfl; omega) ?_
            rw [show (if sI X (fid 7 4) (200 + 2 * nn (buyS X)) < x then sI X (fid 7 4) (200 + 2 * nn (buyS X)) else x) = slN X x from rfl]
            refine r_ist8 dX8_sellCatch_62 (Nat.le_of_ble_eq_true rfl) rfl ?_
            refine r_aload_n dX8_sellCatch_64 rfl rfl ?_
            refine r_getR dX8_sellCatch_65 lf_X8_30 rfl rfl (shR8_3 hsh.F) (shL_7 hsh.F) ?_
            refine r_aload_n dX8_sellCatch_68 rfl rfl ?_
            refine r_getI dX8_sellCatch_69 lf_X8_121 rfl rfl ?_
            refine r_new (1000 + nn (cI X 11)) dX8_sellCatch_72 ln_X8_28 hkl f0 (hsh.fr f0) (by (try dsimp only); have hF : nF 2 = 11 := rfl; omega) (by (try dsimp only); have hF : nF 2 = 11 := rfl; omega) ?_
            refine r_dup dX8_sellCatch_75 rfl ?_
            refine r_aload_n dX8_sellCatch_76 rfl rfl ?_
            refine r_getI dX8_sellCatch_77 lf_X8_118 rfl rfl ?_
            rw [hTI (fid 8 12) 0 (by omega)]
            refine r_iload_n dX8_sellCatch_80 rfl rfl ?_
            refine r_aload_n dX8_sellCatch_81 rfl rfl ?_
            refine r_getI dX8_sellCatch_82 lf_X8_99 rfl (by first | assumption | rfl) ?_
            rw [hTI (fid 0 3) (100 + 3 * b) (by omega)]
            refine r_iload dX8_sellCatch_85 rfl ?_
            refine r_iload dX8_sellCatch_87 rfl ?_
            refine r_iload_n dX8_sellCatch_89 rfl rfl ?_
            refine r_aload dX8_sellCatch_90 rfl ?_
            refine r_getI dX8_sellCatch_92 lf_X8_115 rfl (by first | assumption | rfl) ?_
            rw [hTI (fid 7 3) (200 + 2 * nn (buyS X)) (by omega)]
            refine r_invI7v dX8_sellCatch_95 lm_X8_292 (c_X2_init (1000 + nn (cI X 11)) (cI X 12) (nI b) (sI X (fid 0 3) (100 + 3 * b)) (buyS X) (slN X x) m (sI X (fid 7 3) (200 + 2 * nn (buyS X))) (newO X (1000 + nn (cI X 11))) hkl) (Nat.le_of_ble_eq_true rfl) (Nat.le_of_ble_eq_true rfl) (by (try dsimp only); have hF : nF 2 = 11 := rfl; omega) (by (try dsimp only); have hF : nF 2 = 11 := rfl; omega) (fun S95 hq95 => ?_)
            replace hq95 : S95 = (initL (newO X (1000 + nn (cI X 11))) (1000 + nn (cI X 11)) (cI X 12) (nI b) (sI X (fid 0 3) (100 + 3 * b)) (buyS X) (slN X x) m (sI X (fid 7 3) (200 + 2 * nn (buyS X)))) := hq95
            subst hq95
            refine r_aast13 dX8_sellCatch_98 rfl hkl (show vp_in (cI X 11) 400 from vp_in_iff.mpr ⟨hlv.1, hl4⟩) ?_
            rw [show sQ (initL (newO X (1000 + nn (cI X 11))) (1000 + nn (cI X 11)) (cI X 12) (nI b) (sI X (fid 0 3) (100 + 3 * b)) (buyS X) (slN X x) m (sI X (fid 7 3) (200 + 2 * nn (buyS X)))) 7 = sQ X 7 from rfl]
            refine r_aload_n dX8_sellCatch_99 rfl rfl ?_
            refine r_dup dX8_sellCatch_100 rfl ?_
            refine r_getI dX8_sellCatch_101 lf_X8_121 rfl rfl ?_
            rw [sI_setQ, initL_I (by omega), hTI (fid 8 11) 0 (by omega)]
            refine r_iconst (v := 1) dX8_sellCatch_104 (by decide) ?_
            refine r_iadd dX8_sellCatch_105 ?_
            refine r_putI dX8_sellCatch_106 (lp_X8_121 _) rfl rfl ?_
            refine R.heap (S2 := (newL X (cI X 12) (nI b) (sI X (fid 0 3) (100 + 3 * b)) (buyS X) (slN X x) m (sI X (fid 7 3) (200 + 2 * nn (buyS X))))) rfl ?_
            refine r_aload dX8_sellCatch_109 rfl ?_
            refine r_dup dX8_sellCatch_111 rfl ?_
            refine r_getI dX8_sellCatch_112 lf_X8_289 rfl (by first | assumption | rfl) ?_
            rw [newL_I (by omega) (Or.inr (by omega))]
            refine r_iload dX8_sellCatch_115 rfl ?_
            refine r_isub dX8_sellCatch_117 ?_
            refine r_putI dX8_sellCatch_118 (lp_X8_289 _) rfl (by first | assumption | rfl) ?_
            refine r_aload_n dX8_sellCatch_121 rfl rfl ?_
            refine r_dup dX8_sellCatch_122 rfl ?_
            refine r_getI dX8_sellCatch_123 lf_X8_177 rfl (by first | assumption | rfl) ?_
            rw [sI_setIn (Or.inl (by decide)), newL_I (by omega) (Or.inr (by omega))]
            refine r_iload dX8_sellCatch_126 rfl ?_
            refine r_aload dX8_sellCatch_128 rfl ?_
            refine r_getI dX8_sellCatch_130 lf_X8_115 rfl (by first | assumption | rfl) ?_
            rw [sI_setIn (Or.inl (by decide)), newL_I (by omega) (Or.inr (by omega))]
            refine r_imul dX8_sellCatch_133 ?_
            refine r_iadd dX8_sellCatch_134 ?_
            refine r_putI dX8_sellCatch_135 (lp_X8_177 _) rfl (by first | assumption | rfl) ?_
            refine R.heap (S2 := slH X b m x) rfl ?_
            refine r_iload dX8_sellCatch_138 rfl ?_
            refine r_iload dX8_sellCatch_140 rfl ?_
            refine r_isub dX8_sellCatch_142 ?_
            refine r_ist4 dX8_sellCatch_143 (Nat.le_of_ble_eq_true rfl) rfl ?_
            refine r_in5 dX8_sellCatch_145 (show _ + Int32.ofInt 1 = _ + 1 from rfl) (Nat.le_of_ble_eq_true rfl) rfl ?_
            refine r_goto 9 dX8_sellCatch_148 (by decide) ?_
            have hC : slC X x := ⟨hx0, hc29, hl4⟩
            have h9 := ih (some (.int (buyS X)), some (.ref (200 + 2 * nn (buyS X))), some (.int (slN X x))) (hI2 hC)
            rw [nI_1 i]
            rw [Nat.mul_succ] at h9
            exact h9
          · skip
            have hl4 : ¬ (cI X 11).toInt < 400 := fun q => q46 (by rw [fa_lt]; exact q)
            refine r_goto 151 dX8_sellCatch_49 (by decide) ?_
            refine r_aload_n dX8_sellCatch_151 rfl rfl ?_
            refine r_dup dX8_sellCatch_152 rfl ?_
            refine r_getI dX8_sellCatch_153 lf_X8_251 rfl rfl ?_
            refine r_iload dX8_sellCatch_156 rfl ?_
            refine r_iadd dX8_sellCatch_158 ?_
            refine r_putI dX8_sellCatch_159 (lp_X8_251 _) rfl rfl ?_
            exact r_vret dX8_sellCatch_162 rfl (by (try dsimp only); have hF : nF 2 = 11 := rfl; omega) (by (try dsimp only); have hF : nF 2 = 11 := rfl; omega) ⟨rfl, by
                first
                  | exact ⟨4, ⟨Nat.le_refl _, hI, Or.inl rfl⟩, rfl⟩
                  | exact ⟨i, hD (fun q => by have := q.1; rw [fa_le] at q17; have h9 : (0 : Int32).toInt = 0 := rfl; omega), hE.symm⟩
                  | exact ⟨i, hD (fun q => hc29 q.2.1), hE.symm⟩
                  | exact ⟨i, hD (fun q => hl4 q.2.2), hE.symm⟩⟩
        · rw [if_neg (α := Option Nat) hc29]
          refine r_ast7N dX8_sellCatch_32 (Nat.le_of_ble_eq_true rfl) rfl ?_
          refine r_aloadN dX8_sellCatch_34 rfl ?_
          refine r_ifnullN 151 dX8_sellCatch_36 (by decide) ?_
          refine r_aload_n dX8_sellCatch_151 rfl rfl ?_
          refine r_dup dX8_sellCatch_152 rfl ?_
          refine r_getI dX8_sellCatch_153 lf_X8_251 rfl rfl ?_
          refine r_iload dX8_sellCatch_156 rfl ?_
          refine r_iadd dX8_sellCatch_158 ?_
          refine r_putI dX8_sellCatch_159 (lp_X8_251 _) rfl rfl ?_
          exact r_vret dX8_sellCatch_162 rfl (by (try dsimp only); have hF : nF 2 = 11 := rfl; omega) (by (try dsimp only); have hF : nF 2 = 11 := rfl; omega) ⟨rfl, by
              first
                | exact ⟨4, ⟨Nat.le_refl _, hI, Or.inl rfl⟩, rfl⟩
                | exact ⟨i, hD (fun q => by have := q.1; rw [fa_le] at q17; have h9 : (0 : Int32).toInt = 0 := rfl; omega), hE.symm⟩
                | exact ⟨i, hD (fun q => hc29 q.2.1), hE.symm⟩
                | exact ⟨i, hD (fun q => hl4 q.2.2), hE.symm⟩⟩
