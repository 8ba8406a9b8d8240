/-! ===== constructors ===== -/
def ES : HS := ([], fun _ _ => 0, fun _ _ => none, fun _ _ => 0, fun _ _ => none)
/-- references go to what lives; no row of references has an entry -/
def Okc (S : HS) : Prop := (∀ f a t, sR S f a = some t → t ∈ sL S) ∧ ∀ a i, sQ S a i = none
/-- all numbers are 0 -/
def Zr (S : HS) : Prop := sI S = (fun _ _ => 0) ∧ sA S = (fun _ _ => 0)
theorem Okc_ES : Okc ES := ⟨fun f a t e => (by cases e), fun _ _ => rfl⟩
theorem Zr_ES : Zr ES := ⟨rfl, rfl⟩
theorem Okc.fr {S : HS} (h : Okc S) {t : Nat} (ht : t ∉ sL S) : Fr t S := ⟨fun f a e => ht (h.1 f a t e), fun a i e => by rw [h.2 a i] at e; cases e⟩
theorem Okc.newO {S : HS} (h : Okc S) (a : Nat) : Okc (newO S a) := ⟨fun f b t e => by
  rw [sR_newO] at e
  rw [sL_newO]
  unfold va_up at e
  split at e
  · cases e
  · exact List.mem_append_left _ (h.1 f b t e), h.2⟩
theorem Okc.newA {S : HS} (h : Okc S) (a : Nat) : Okc (newA S a) := ⟨fun f b t e => by
  rw [sL_newA]
  exact List.mem_append_left _ (h.1 f b t e), fun b i => by
  rw [sQ_newA]
  unfold va_up
  split
  · rfl
  · exact h.2 b i⟩
theorem Okc.setR {S : HS} (h : Okc S) {f a x : Nat} (hx : x ∈ sL S) : Okc (setR S f a (some x)) := ⟨fun g b t e => by
  rw [sR_setR] at e
  unfold up2 at e
  split at e
  · rw [← Option.some.inj e]; exact hx
  · exact h.1 g b t e, h.2⟩
theorem Okc.setI {S : HS} (h : Okc S) {f a : Nat} {v : Int32} : Okc (setI S f a v) := h
theorem vz {α : Type} (a : Nat) (z : α) : va_up (fun _ => z) a z = fun _ => z := funext fun k => by unfold va_up; split <;> rfl
theorem Zr.newO {S : HS} (h : Zr S) (a : Nat) : Zr (newO S a) := ⟨by
  show (fun f => va_up (sI S f) a 0) = _
  rw [h.1]
  funext f
  exact vz a 0, h.2⟩
theorem Zr.newA {S : HS} (h : Zr S) (a : Nat) : Zr (newA S a) := ⟨h.1, by
  show va_up (sA S) a (fun _ => 0) = _
  rw [h.2]
  exact vz a (fun _ => 0)⟩
theorem Zr.setR {S : HS} (h : Zr S) {f a : Nat} {x : Option Nat} : Zr (setR S f a x) := h
def arrM (S : HS) (j : Nat) : HS := setR (newA S (ma j)) (fid 9 j) 2000 (some (ma j))
theorem arrM_Z {S : HS} (h : Zr S) (j : Nat) : Zr (arrM S j) := (h.newA _).setR
theorem mem_last (L : List Nat) (x : Nat) : x ∈ L ++ [x] := List.mem_append_right _ (List.mem_singleton.mpr rfl)
theorem arrM_O {S : HS} (h : Okc S) (j : Nat) : Okc (arrM S j) := (h.newA _).setR (mem_last _ _)
theorem arrM_I (S : HS) (j : Nat) : sI (arrM S j) = sI S := rfl
theorem arrM_A (S : HS) (j : Nat) : sA (arrM S j) = va_up (sA S) (ma j) (fun _ => 0) := rfl
theorem arrM_L (S : HS) (j : Nat) : sL (arrM S j) = sL S ++ [ma j] := rfl
theorem arrM_R {S : HS} {j i : Nat} : sR (arrM S j) (fid 9 i) 2000 = if i = j then some (ma j) else sR S (fid 9 i) 2000 := by
  show up2 (sR S) (fid 9 j) 2000 (some (ma j)) (fid 9 i) 2000 = _
  unfold up2
  by_cases e : i = j
  · rw [if_pos e, if_pos ⟨by rw [e], rfl⟩]
  · rw [if_neg e, if_neg (fun q => fid_ne e q.1)]
def mM0 : Nat → HS
  | 0 => newO ES 2000
  | k + 1 => arrM (mM0 k) k
def jM1 (k : Nat) : Nat := if k < 12 then 35 + k else 52
def mM1 : Nat → HS
  | 0 => setI (mM0 24) (fid 9 29) 2000 300
  | k + 1 => arrM (mM1 k) (jM1 k)
theorem mM0_O : ∀ k, Okc (mM0 k)
  | 0 => Okc_ES.newO _
  | k + 1 => arrM_O (mM0_O k) k
theorem mM1_e : mM1 0 = setI (mM0 24) (fid 9 29) 2000 300 := by unfold mM1; rfl
theorem mM1_O : ∀ k, Okc (mM1 k)
  | 0 => by rw [mM1_e]; exact Okc.setI (mM0_O 24)
  | k + 1 => arrM_O (mM1_O k) _
theorem mM0_Z : ∀ k, Zr (mM0 k)
  | 0 => Zr_ES.newO _
  | k + 1 => arrM_Z (mM0_Z k) k
theorem mM1_A : ∀ k, sA (mM1 k) = fun _ _ => 0
  | 0 => by rw [mM1_e, sA_setI]; exact (mM0_Z 24).2
  | k + 1 => by
    show sA (arrM (mM1 k) (jM1 k)) = _
    rw [arrM_A, mM1_A k]
    exact vz _ (fun _ => 0)
theorem mM1_I : ∀ k f a, sI (mM1 k) f a = if f = fid 9 29 ∧ a = 2000 then 300 else 0
  | 0, f, a => by
    rw [mM1_e, sI_setI, (mM0_Z 24).1]
    unfold up2
    rfl
  | k + 1, f, a => by
    show sI (arrM (mM1 k) (jM1 k)) f a = _
    rw [show sI (arrM (mM1 k) (jM1 k)) = sI (mM1 k) from arrM_I _ _]
    exact mM1_I k f a
theorem mM0_L : ∀ k t, t ∈ sL (mM0 k) ↔ t = 2000 ∨ ∃ j, j < k ∧ t = ma j
  | 0, t => by
    show t ∈ [] ++ [2000] ↔ _
    simp
  | k + 1, t => by
    show t ∈ sL (arrM (mM0 k) k) ↔ _
    rw [arrM_L, List.mem_append, mM0_L k t, List.mem_singleton]
    constructor
    · rintro ((q | ⟨j, q, q2⟩) | q)
      · exact Or.inl q
      · exact Or.inr ⟨j, by omega, q2⟩
      · exact Or.inr ⟨k, by omega, q⟩
    · rintro (q | ⟨j, q, q2⟩)
      · exact Or.inl (Or.inl q)
      · by_cases e : j = k
        · rw [e] at q2; exact Or.inr q2
        · exact Or.inl (Or.inr ⟨j, by omega, q2⟩)
theorem mM1_L : ∀ k t, t ∈ sL (mM1 k) ↔ t ∈ sL (mM0 24) ∨ ∃ j, j < k ∧ t = ma (jM1 j)
  | 0, t => by
    rw [mM1_e, sL_setI]
    constructor
    · exact Or.inl
    · rintro (q | ⟨j, q, q2⟩)
      · exact q
      · exact absurd q (Nat.not_lt_zero _)
  | k + 1, t => by
    show t ∈ sL (arrM (mM1 k) (jM1 k)) ↔ _
    rw [arrM_L, List.mem_append, mM1_L k t, List.mem_singleton]
    constructor
    · rintro ((q | ⟨j, q, q2⟩) | q)
      · exact Or.inl q
      · exact Or.inr ⟨j, by omega, q2⟩
      · exact Or.inr ⟨k, by omega, q⟩
    · rintro (q | ⟨j, q, q2⟩)
      · exact Or.inl (Or.inl q)
      · by_cases e : j = k
        · rw [e] at q2; exact Or.inr q2
        · exact Or.inl (Or.inr ⟨j, by omega, q2⟩)
theorem mM0_n (k : Nat) : ma k ∉ sL (mM0 k) := fun q => by
  rcases (mM0_L k _).mp q with z | ⟨j, z, z2⟩
  · unfold ma at z; omega
  · unfold ma at z2; omega
theorem mM1_n {k : Nat} (hk : k < 13) : ma (jM1 k) ∉ sL (mM1 k) := fun q => by
  rcases (mM1_L k _).mp q with z | ⟨j, z, z2⟩
  · rcases (mM0_L 24 _).mp z with z | ⟨j, z, z2⟩
    · unfold ma at z; omega
    · unfold ma jM1 at z2; split at z2 <;> omega
  · unfold ma jM1 at z2; split at z2 <;> split at z2 <;> omega
theorem mM0_R : ∀ k i, sR (mM0 k) (fid 9 i) 2000 = if i < k then some (ma i) else none
  | 0, i => by
    rw [if_neg (Nat.not_lt_zero _)]
    show va_up (sR ES (fid 9 i)) 2000 none 2000 = none
    simp [va_up]
  | k + 1, i => by
    show sR (arrM (mM0 k) k) (fid 9 i) 2000 = _
    rw [arrM_R, mM0_R k i]
    by_cases e : i = k
    · rw [if_pos e, if_pos (by omega), e]
    · rw [if_neg e]
      by_cases q : i < k
      · rw [if_pos q, if_pos (by omega)]
      · rw [if_neg q, if_neg (by omega)]
theorem mM1_R0 {i : Nat} (hi : i < 24) : ∀ k, sR (mM1 k) (fid 9 i) 2000 = some (ma i)
  | 0 => by
    rw [mM1_e, sR_setI, mM0_R, if_pos hi]
  | k + 1 => by
    show sR (arrM (mM1 k) (jM1 k)) (fid 9 i) 2000 = _
    rw [arrM_R, if_neg (by unfold jM1; split <;> omega), mM1_R0 hi k]
theorem mM1_R1 {i : Nat} : ∀ k, i < k → k ≤ 13 → sR (mM1 k) (fid 9 (jM1 i)) 2000 = some (ma (jM1 i))
  | 0, h, _ => absurd h (Nat.not_lt_zero _)
  | k + 1, h, h2 => by
    show sR (arrM (mM1 k) (jM1 k)) (fid 9 (jM1 i)) 2000 = _
    rw [arrM_R]
    by_cases e : i = k
    · rw [e, if_pos rfl]
    · rw [if_neg (by unfold jM1; split <;> split <;> omega), mM1_R1 k (by omega) (by omega)]
theorem fR9 : ∀ j, j < 53 → fR 9 j = true → j < 24 ∨ (35 ≤ j ∧ j < 47) ∨ j = 52 := by decide
theorem mM_sh : ShM (mM1 13) := by
  refine ⟨(mM1_L 13 _).mpr (Or.inl ((mM0_L 24 _).mpr (Or.inl rfl))), fun j hj => ?_⟩
  have h53 : j < 53 := by
    rcases Nat.lt_or_ge j 53 with q | q
    · exact q
    · exfalso
      unfold fR at hj
      rw [List.getD_eq_getElem?_getD, List.getElem?_eq_none (by rw [show (fT.getD 9 []).length = 53 from rfl]; exact q)] at hj
      cases hj
  rcases fR9 j h53 hj with q | q | q
  · exact ⟨mM1_R0 q 13, (mM1_L 13 _).mpr (Or.inl ((mM0_L 24 _).mpr (Or.inr ⟨j, q, rfl⟩)))⟩
  · have e : jM1 (j - 35) = j := by unfold jM1; rw [if_pos (by omega)]; omega
    have := mM1_R1 (i := j - 35) 13 (by omega) (Nat.le_refl _)
    rw [e] at this
    exact ⟨this, (mM1_L 13 _).mpr (Or.inr ⟨j - 35, by omega, by rw [e]⟩)⟩
  · have := mM1_R1 (i := 12) 13 (by omega) (Nat.le_refl _)
    rw [show jM1 12 = 52 from rfl] at this
    rw [q]
    exact ⟨this, (mM1_L 13 _).mpr (Or.inr ⟨12, by omega, rfl⟩)⟩
def ini3 (S : HS) (o : Nat) : HS := setR (newA (setR (newA (setR (newA S (o + 1)) (fid 3 0) o (some (o + 1))) (o + 2)) (fid 3 1) o (some (o + 2))) (o + 3)) (fid 3 2) o (some (o + 3))
def ini4 (S : HS) (o : Nat) : HS := setR (newA (setR (newA (setR (newA S (o + 1)) (fid 4 0) o (some (o + 1))) (o + 2)) (fid 4 1) o (some (o + 2))) (o + 3)) (fid 4 2) o (some (o + 3))
def ini5 (S : HS) (o : Nat) : HS := setR (newA S (o + 1)) (fid 5 0) o (some (o + 1))
theorem ini3_O {S : HS} (h : Okc S) (o : Nat) : Okc (ini3 S o) := ((((((h.newA _).setR (mem_last _ _)).newA _).setR (mem_last _ _)).newA _).setR (mem_last _ _))
theorem ini4_O {S : HS} (h : Okc S) (o : Nat) : Okc (ini4 S o) := ((((((h.newA _).setR (mem_last _ _)).newA _).setR (mem_last _ _)).newA _).setR (mem_last _ _))
theorem ini5_O {S : HS} (h : Okc S) (o : Nat) : Okc (ini5 S o) := (h.newA _).setR (mem_last _ _)
theorem ini3_Z {S : HS} (h : Zr S) (o : Nat) : Zr (ini3 S o) := ((((((h.newA _).setR).newA _).setR).newA _).setR)
theorem ini4_Z {S : HS} (h : Zr S) (o : Nat) : Zr (ini4 S o) := ((((((h.newA _).setR).newA _).setR).newA _).setR)
theorem ini5_Z {S : HS} (h : Zr S) (o : Nat) : Zr (ini5 S o) := (h.newA _).setR
def oC0 : HS := newO ES 0
def oC1 : HS := ini4 (newO oC0 1) 1
def oC2 : HS := setR oC1 (fid 8 0) 0 (some 1)
def oC3 : HS := setR (newA oC2 5) (fid 8 1) 0 (some 5)
def oC4 : HS := setR (newA oC3 6) (fid 8 2) 0 (some 6)
def oC5 : HS := setR (newA oC4 7) (fid 8 3) 0 (some 7)
def oC6 : HS := setR (ini5 (newO oC5 8) 8) (fid 8 4) 0 (some 8)
def oC7 : HS := setR (newA oC6 10) (fid 8 5) 0 (some 10)
def oC8 : HS := setR (ini3 (newO oC7 11) 11) (fid 8 6) 0 (some 11)
def oC9 : HS := setR (newO oC8 15) (fid 8 7) 0 (some 15)
def oC10 : HS := setR (newO oC9 16) (fid 8 8) 0 (some 16)
def oC11 : HS := setI oC10 (fid 8 13) 0 300
theorem oC_L : sL oC0 = [0] ∧ sL oC1 = [0, 1, 2, 3, 4] ∧ sL oC2 = [0, 1, 2, 3, 4] ∧ sL oC3 = [0, 1, 2, 3, 4, 5] ∧ sL oC4 = [0, 1, 2, 3, 4, 5, 6] ∧ sL oC5 = [0, 1, 2, 3, 4, 5, 6, 7] ∧ sL oC6 = [0, 1, 2, 3, 4, 5, 6, 7, 8, 9] ∧ sL oC7 = [0, 1, 2, 3, 4, 5, 6, 7, 8, 9, 10] ∧ sL oC8 = [0, 1, 2, 3, 4, 5, 6, 7, 8, 9, 10, 11, 12, 13, 14] ∧ sL oC9 = [0, 1, 2, 3, 4, 5, 6, 7, 8, 9, 10, 11, 12, 13, 14, 15] ∧ sL oC10 = [0, 1, 2, 3, 4, 5, 6, 7, 8, 9, 10, 11, 12, 13, 14, 15, 16] := ⟨rfl, rfl, rfl, rfl, rfl, rfl, rfl, rfl, rfl, rfl, rfl⟩
theorem oC0_O : Okc oC0 := Okc_ES.newO _
theorem oC1_O : Okc oC1 := ini4_O (oC0_O.newO _) _
theorem oC2_O : Okc oC2 := oC1_O.setR (by rw [oC_L.2.1]; decide)
theorem oC3_O : Okc oC3 := (oC2_O.newA _).setR (mem_last _ _)
theorem oC4_O : Okc oC4 := (oC3_O.newA _).setR (mem_last _ _)
theorem oC5_O : Okc oC5 := (oC4_O.newA _).setR (mem_last _ _)
theorem oC6_O : Okc oC6 := (ini5_O (oC5_O.newO _) _).setR (List.mem_append_left _ (mem_last _ _))
theorem oC7_O : Okc oC7 := (oC6_O.newA _).setR (mem_last _ _)
theorem oC8_O : Okc oC8 := (ini3_O (oC7_O.newO _) _).setR (List.mem_append_left _ (List.mem_append_left _ (List.mem_append_left _ (mem_last _ _))))
theorem oC9_O : Okc oC9 := (oC8_O.newO _).setR (mem_last _ _)
theorem oC10_O : Okc oC10 := (oC9_O.newO _).setR (mem_last _ _)
theorem oC0_Z : Zr oC0 := Zr_ES.newO _
theorem oC1_Z : Zr oC1 := ini4_Z (oC0_Z.newO _) _
theorem oC2_Z : Zr oC2 := Zr.setR oC1_Z
theorem oC3_Z : Zr oC3 := Zr.setR (oC2_Z.newA _)
theorem oC4_Z : Zr oC4 := Zr.setR (oC3_Z.newA _)
theorem oC5_Z : Zr oC5 := Zr.setR (oC4_Z.newA _)
theorem oC6_Z : Zr oC6 := Zr.setR (ini5_Z (oC5_Z.newO _) _)
theorem oC7_Z : Zr oC7 := Zr.setR (oC6_Z.newA _)
theorem oC8_Z : Zr oC8 := Zr.setR (ini3_Z (oC7_Z.newO _) _)
theorem oC9_Z : Zr oC9 := Zr.setR (oC8_Z.newO _)
theorem oC10_Z : Zr oC10 := Zr.setR (oC9_Z.newO _)
theorem oC11_I (f a : Nat) : sI oC11 f a = if f = fid 8 13 ∧ a = 0 then 300 else 0 := by
  show up2 (sI oC10) (fid 8 13) 0 300 f a = _
  unfold up2
  rw [oC10_Z.1]
theorem oC11_R : ∀ p ∈ refsC, sR oC11 p.1 p.2.1 = some p.2.2 := by decide +kernel
theorem oC11_O : Okc oC11 := Okc.setI oC10_O
theorem oC11_L : sL oC11 = [0, 1, 2, 3, 4, 5, 6, 7, 8, 9, 10, 11, 12, 13, 14, 15, 16] := (sL_setI oC10 (fid 8 13) 0 300).trans oC_L.2.2.2.2.2.2.2.2.2.2
theorem oC_sh : ShC oC11 := by
  have hL := oC11_L
  have hQ := oC11_O.2
  have hR := oC11_O.1
  have e : ∀ k, k ≠ 13 → cI oC11 k = 0 := fun k hk => by
    show sI oC11 (fid 8 k) 0 = 0
    rw [oC11_I, if_neg (fun q => fid_ne hk q.1)]
  have n0 : nn (0 : Int32) = 0 := rfl
  unfold ShC ShF
  rw [e 9 (by decide), e 10 (by decide), e 11 (by decide), n0]
  refine ⟨⟨fun t ht => ?_, oC11_R⟩, fun t => ?_, fun i hi => absurd hi (Nat.not_lt_zero _), fun i _ _ => hQ _ _, fun i hi => absurd hi (Nat.not_lt_zero _), fun i _ _ => hQ _ _, fun i hi => absurd hi (Nat.not_lt_zero _), fun i _ _ => hQ _ _, fun i _ => Or.inl (hQ _ _), ⟨hR, fun a i t q => ?_⟩, by decide, by decide, by decide⟩
  · rw [hL]
    have : ∀ t, t < 17 → t ∈ [0, 1, 2, 3, 4, 5, 6, 7, 8, 9, 10, 11, 12, 13, 14, 15, 16] := by decide
    exact this t ht
  · rw [hL, hQ]
    constructor
    · intro q
      have : ∀ t ∈ [0, 1, 2, 3, 4, 5, 6, 7, 8, 9, 10, 11, 12, 13, 14, 15, 16], t < 17 := by decide
      exact Or.inl (this t q)
    · rintro (q | q | q | q | q)
      · have : ∀ t, t < 17 → t ∈ [0, 1, 2, 3, 4, 5, 6, 7, 8, 9, 10, 11, 12, 13, 14, 15, 16] := by decide
        exact this t q
      · omega
      · omega
      · exact absurd q.2.2 (by simp)
      · omega
  · rw [hQ] at q; cases q
set_option maxHeartbeats 4000000 in
theorem c_X3_init {l : Launch} {G : va_G} {cy : Nat → ClassId} (o : Nat) (S : HS) (hk : tk o = 3) (k1 : tk (o + 1) = 10) (n1 : tn (o + 1) = 12) (f1 : o + 1 ∉ sL S) (r1 : Fr (o + 1) S) (k2 : tk (o + 2) = 10) (n2 : tn (o + 2) = 12) (f2 : o + 2 ∉ sL S) (r2 : Fr (o + 2) S) (k3 : tk (o + 3) = 10) (n3 : tn (o + 3) = 12) (f3 : o + 3 ∉ sL S) (r3 : Fr (o + 3) S) : Cn l G cy yX3_init cX3_init 1 none 1 [.ref o] S 3 36 (qV (fun S2 => S2 = ini3 S o)) := by
  refine Cn.of [some (.ref o)] (by decide) rfl (Nat.le_of_ble_eq_true rfl) ?_
  refine r_aload_n dX3_init_0 rfl rfl ?_
  refine r_objInit dX3_init_1 lm_X3_3 (Nat.le_of_ble_eq_true rfl) (Nat.le_of_ble_eq_true rfl) ?_
  refine r_aload_n dX3_init_4 rfl rfl ?_
  refine r_bipush (v := 12) dX3_init_5 (by decide) ?_
  refine r_newI (o + 1) dX3_init_7 tbI (by decide) rfl (by decide) k1 n1 f1 r1 (Nat.le_of_ble_eq_true rfl) (Nat.le_of_ble_eq_true rfl) ?_
  refine r_putR (v := some (o + 1)) dX3_init_9 lp_X3_9 rfl hk ?_
  refine r_aload_n dX3_init_12 rfl rfl ?_
  refine r_bipush (v := 12) dX3_init_13 (by decide) ?_
  refine r_newI (o + 2) dX3_init_15 tbI (by decide) rfl (by decide) k2 n2 (nm_app f2 (by omega)) (Fr_setR (Fr_newA r2) (fun q => absurd (Option.some.inj q) (by omega))) (Nat.le_of_ble_eq_true rfl) (Nat.le_of_ble_eq_true rfl) ?_
  refine r_putR (v := some (o + 2)) dX3_init_17 lp_X3_15 rfl hk ?_
  refine r_aload_n dX3_init_20 rfl rfl ?_
  refine r_bipush (v := 12) dX3_init_21 (by decide) ?_
  refine r_newI (o + 3) dX3_init_23 tbI (by decide) rfl (by decide) k3 n3 (nm_app (nm_app f3 (by omega)) (by omega)) (Fr_setR (Fr_newA (Fr_setR (Fr_newA r3) (fun q => absurd (Option.some.inj q) (by omega)))) (fun q => absurd (Option.some.inj q) (by omega))) (Nat.le_of_ble_eq_true rfl) (Nat.le_of_ble_eq_true rfl) ?_
  refine r_putR (v := some (o + 3)) dX3_init_25 lp_X3_18 rfl hk ?_
  exact r_vret dX3_init_28 rfl (Nat.le_of_ble_eq_true rfl) (Nat.le_of_ble_eq_true rfl) ⟨rfl, rfl⟩
set_option maxHeartbeats 4000000 in
theorem c_X4_init {l : Launch} {G : va_G} {cy : Nat → ClassId} (o : Nat) (S : HS) (hk : tk o = 4) (k1 : tk (o + 1) = 10) (n1 : tn (o + 1) = 36) (f1 : o + 1 ∉ sL S) (r1 : Fr (o + 1) S) (k2 : tk (o + 2) = 11) (n2 : tn (o + 2) = 36) (f2 : o + 2 ∉ sL S) (r2 : Fr (o + 2) S) (k3 : tk (o + 3) = 10) (n3 : tn (o + 3) = 36) (f3 : o + 3 ∉ sL S) (r3 : Fr (o + 3) S) : Cn l G cy yX4_init cX4_init 1 none 1 [.ref o] S 3 108 (qV (fun S2 => S2 = ini4 S o)) := by
  refine Cn.of [some (.ref o)] (by decide) rfl (Nat.le_of_ble_eq_true rfl) ?_
  refine r_aload_n dX4_init_0 rfl rfl ?_
  refine r_objInit dX4_init_1 lm_X4_3 (Nat.le_of_ble_eq_true rfl) (Nat.le_of_ble_eq_true rfl) ?_
  refine r_aload_n dX4_init_4 rfl rfl ?_
  refine r_bipush (v := 36) dX4_init_5 (by decide) ?_
  refine r_newI (o + 1) dX4_init_7 tbI (by decide) rfl (by decide) k1 n1 f1 r1 (Nat.le_of_ble_eq_true rfl) (Nat.le_of_ble_eq_true rfl) ?_
  refine r_putR (v := some (o + 1)) dX4_init_9 lp_X4_9 rfl hk ?_
  refine r_aload_n dX4_init_12 rfl rfl ?_
  refine r_bipush (v := 36) dX4_init_13 (by decide) ?_
  refine r_newZ (o + 2) dX4_init_15 tbZ (by decide) rfl (by decide) k2 n2 (nm_app f2 (by omega)) (Fr_setR (Fr_newA r2) (fun q => absurd (Option.some.inj q) (by omega))) (Nat.le_of_ble_eq_true rfl) (Nat.le_of_ble_eq_true rfl) ?_
  refine r_putR (v := some (o + 2)) dX4_init_17 lp_X4_15 rfl hk ?_
  refine r_aload_n dX4_init_20 rfl rfl ?_
  refine r_bipush (v := 36) dX4_init_21 (by decide) ?_
  refine r_newI (o + 3) dX4_init_23 tbI (by decide) rfl (by decide) k3 n3 (nm_app (nm_app f3 (by omega)) (by omega)) (Fr_setR (Fr_newA (Fr_setR (Fr_newA r3) (fun q => absurd (Option.some.inj q) (by omega)))) (fun q => absurd (Option.some.inj q) (by omega))) (Nat.le_of_ble_eq_true rfl) (Nat.le_of_ble_eq_true rfl) ?_
  refine r_putR (v := some (o + 3)) dX4_init_25 lp_X4_19 rfl hk ?_
  exact r_vret dX4_init_28 rfl (Nat.le_of_ble_eq_true rfl) (Nat.le_of_ble_eq_true rfl) ⟨rfl, rfl⟩
set_option maxHeartbeats 4000000 in
theorem c_X8_init {l : Launch} {G : va_G} {cy : Nat → ClassId}  : Cn l G cy yX8_init cX8_init 1 none 2 [.ref 0] oC0 16 832 (qV (fun S2 => S2 = oC11)) := by
  refine Cn.of [some (.ref 0)] (by decide) rfl (Nat.le_of_ble_eq_true rfl) ?_
  refine r_aload_n dX8_init_0 rfl rfl ?_
  refine r_objInit dX8_init_1 lm_X8_3 (Nat.le_of_ble_eq_true rfl) (Nat.le_of_ble_eq_true rfl) ?_
  refine r_aload_n dX8_init_4 rfl rfl ?_
  refine r_new 1 dX8_init_5 ln_X8_9 rfl (show 1 ∉ sL oC0 by rw [oC_L.1]; decide) (oC0_O.fr (show 1 ∉ sL oC0 by rw [oC_L.1]; decide)) (Nat.le_of_ble_eq_true rfl) (Nat.le_of_ble_eq_true rfl) ?_
  refine r_dup dX8_init_8 rfl ?_
  refine r_invI0v dX8_init_9 lm_X8_11 (c_X4_init 1 (newO oC0 1) rfl rfl rfl (nm_app (show 2 ∉ sL oC0 by rw [oC_L.1]; decide) (by decide)) (Fr_newO (oC0_O.fr (show 2 ∉ sL oC0 by rw [oC_L.1]; decide))) rfl rfl (nm_app (show 3 ∉ sL oC0 by rw [oC_L.1]; decide) (by decide)) (Fr_newO (oC0_O.fr (show 3 ∉ sL oC0 by rw [oC_L.1]; decide))) rfl rfl (nm_app (show 4 ∉ sL oC0 by rw [oC_L.1]; decide) (by decide)) (Fr_newO (oC0_O.fr (show 4 ∉ sL oC0 by rw [oC_L.1]; decide)))) (Nat.le_of_ble_eq_true rfl) (Nat.le_of_ble_eq_true rfl) (Nat.le_of_ble_eq_true rfl) (Nat.le_of_ble_eq_true rfl) (fun S9 hq9 => ?_)
  replace hq9 : S9 = oC1 := hq9
  subst hq9
  refine r_putR (v := some 1) dX8_init_12 lp_X8_12 rfl rfl ?_
  refine R.heap (S2 := oC2) rfl ?_
  refine r_aload_n dX8_init_15 rfl rfl ?_
  refine r_bipush (v := 12) dX8_init_16 (by decide) ?_
  refine r_newq12 5 dX8_init_18 la_X8_16 (by decide) rfl (by decide) rfl rfl (show 5 ∉ sL oC2 by rw [oC_L.2.2.1]; decide) (oC2_O.fr (show 5 ∉ sL oC2 by rw [oC_L.2.2.1]; decide)) (Nat.le_of_ble_eq_true rfl) (Nat.le_of_ble_eq_true rfl) ?_
  refine r_putR (v := some 5) dX8_init_21 lp_X8_18 rfl rfl ?_
  refine R.heap (S2 := oC3) rfl ?_
  refine r_aload_n dX8_init_24 rfl rfl ?_
  refine r_iconst (v := 4) dX8_init_25 (by decide) ?_
  refine r_newq15 6 dX8_init_26 la_X8_22 (by decide) rfl (by decide) rfl rfl (show 6 ∉ sL oC3 by rw [oC_L.2.2.2.1]; decide) (oC3_O.fr (show 6 ∉ sL oC3 by rw [oC_L.2.2.2.1]; decide)) (Nat.le_of_ble_eq_true rfl) (Nat.le_of_ble_eq_true rfl) ?_
  refine r_putR (v := some 6) dX8_init_29 lp_X8_24 rfl rfl ?_
  refine R.heap (S2 := oC4) rfl ?_
  refine r_aload_n dX8_init_32 rfl rfl ?_
  refine r_sipush (v := 400) dX8_init_33 (by decide) ?_
  refine r_newq13 7 dX8_init_36 la_X8_28 (by decide) rfl (by decide) rfl rfl (show 7 ∉ sL oC4 by rw [oC_L.2.2.2.2.1]; decide) (oC4_O.fr (show 7 ∉ sL oC4 by rw [oC_L.2.2.2.2.1]; decide)) (Nat.le_of_ble_eq_true rfl) (Nat.le_of_ble_eq_true rfl) ?_
  refine r_putR (v := some 7) dX8_init_39 lp_X8_30 rfl rfl ?_
  refine R.heap (S2 := oC5) rfl ?_
  refine r_aload_n dX8_init_42 rfl rfl ?_
  refine r_new 8 dX8_init_43 ln_X8_34 rfl (show 8 ∉ sL oC5 by rw [oC_L.2.2.2.2.2.1]; decide) (oC5_O.fr (show 8 ∉ sL oC5 by rw [oC_L.2.2.2.2.2.1]; decide)) (Nat.le_of_ble_eq_true rfl) (Nat.le_of_ble_eq_true rfl) ?_
  refine r_dup dX8_init_46 rfl ?_
  refine r_invI0v dX8_init_47 lm_X8_36 (c_X5_init 8 (newO oC5 8) rfl rfl rfl (nm_app (show 9 ∉ sL oC5 by rw [oC_L.2.2.2.2.2.1]; decide) (by decide)) (Fr_newO (oC5_O.fr (show 9 ∉ sL oC5 by rw [oC_L.2.2.2.2.2.1]; decide)))) (Nat.le_of_ble_eq_true rfl) (Nat.le_of_ble_eq_true rfl) (Nat.le_of_ble_eq_true rfl) (Nat.le_of_ble_eq_true rfl) (fun S47 hq47 => ?_)
  replace hq47 : S47 = ini5 (newO oC5 8) 8 := hq47
  subst hq47
  refine r_putR (v := some 8) dX8_init_50 lp_X8_37 rfl rfl ?_
  refine R.heap (S2 := oC6) rfl ?_
  refine r_aload_n dX8_init_53 rfl rfl ?_
  refine r_iconst (v := 4) dX8_init_54 (by decide) ?_
  refine r_newq14 10 dX8_init_55 la_X8_34 (by decide) rfl (by decide) rfl rfl (show 10 ∉ sL oC6 by rw [oC_L.2.2.2.2.2.2.1]; decide) (oC6_O.fr (show 10 ∉ sL oC6 by rw [oC_L.2.2.2.2.2.2.1]; decide)) (Nat.le_of_ble_eq_true rfl) (Nat.le_of_ble_eq_true rfl) ?_
  refine r_putR (v := some 10) dX8_init_58 lp_X8_41 rfl rfl ?_
  refine R.heap (S2 := oC7) rfl ?_
  refine r_aload_n dX8_init_61 rfl rfl ?_
  refine r_new 11 dX8_init_62 ln_X8_45 rfl (show 11 ∉ sL oC7 by rw [oC_L.2.2.2.2.2.2.2.1]; decide) (oC7_O.fr (show 11 ∉ sL oC7 by rw [oC_L.2.2.2.2.2.2.2.1]; decide)) (Nat.le_of_ble_eq_true rfl) (Nat.le_of_ble_eq_true rfl) ?_
  refine r_dup dX8_init_65 rfl ?_
  refine r_invI0v dX8_init_66 lm_X8_47 (c_X3_init 11 (newO oC7 11) rfl rfl rfl (nm_app (show 12 ∉ sL oC7 by rw [oC_L.2.2.2.2.2.2.2.1]; decide) (by decide)) (Fr_newO (oC7_O.fr (show 12 ∉ sL oC7 by rw [oC_L.2.2.2.2.2.2.2.1]; decide))) rfl rfl (nm_app (show 13 ∉ sL oC7 by rw [oC_L.2.2.2.2.2.2.2.1]; decide) (by decide)) (Fr_newO (oC7_O.fr (show 13 ∉ sL oC7 by rw [oC_L.2.2.2.2.2.2.2.1]; decide))) rfl rfl (nm_app (show 14 ∉ sL oC7 by rw [oC_L.2.2.2.2.2.2.2.1]; decide) (by decide)) (Fr_newO (oC7_O.fr (show 14 ∉ sL oC7 by rw [oC_L.2.2.2.2.2.2.2.1]; decide)))) (Nat.le_of_ble_eq_true rfl) (Nat.le_of_ble_eq_true rfl) (Nat.le_of_ble_eq_true rfl) (Nat.le_of_ble_eq_true rfl) (fun S66 hq66 => ?_)
  replace hq66 : S66 = ini3 (newO oC7 11) 11 := hq66
  subst hq66
  refine r_putR (v := some 11) dX8_init_69 lp_X8_48 rfl rfl ?_
  refine R.heap (S2 := oC8) rfl ?_
  refine r_aload_n dX8_init_72 rfl rfl ?_
  refine r_new 15 dX8_init_73 ln_X8_52 rfl (show 15 ∉ sL oC8 by rw [oC_L.2.2.2.2.2.2.2.2.1]; decide) (oC8_O.fr (show 15 ∉ sL oC8 by rw [oC_L.2.2.2.2.2.2.2.2.1]; decide)) (Nat.le_of_ble_eq_true rfl) (Nat.le_of_ble_eq_true rfl) ?_
  refine r_dup dX8_init_76 rfl ?_
  refine r_invI0v dX8_init_77 lm_X8_54 (c_X1_init 15 _) (Nat.le_of_ble_eq_true rfl) (Nat.le_of_ble_eq_true rfl) (Nat.le_of_ble_eq_true rfl) (Nat.le_of_ble_eq_true rfl) (fun S77 hq77 => ?_)
  replace hq77 := hq77.symm
  subst hq77
  refine r_putR (v := some 15) dX8_init_80 lp_X8_55 rfl rfl ?_
  refine R.heap (S2 := oC9) rfl ?_
  refine r_aload_n dX8_init_83 rfl rfl ?_
  refine r_new 16 dX8_init_84 ln_X8_59 rfl (show 16 ∉ sL oC9 by rw [oC_L.2.2.2.2.2.2.2.2.2.1]; decide) (oC9_O.fr (show 16 ∉ sL oC9 by rw [oC_L.2.2.2.2.2.2.2.2.2.1]; decide)) (Nat.le_of_ble_eq_true rfl) (Nat.le_of_ble_eq_true rfl) ?_
  refine r_dup dX8_init_87 rfl ?_
  refine r_invI0v dX8_init_88 lm_X8_61 (c_X6_init 16 _) (Nat.le_of_ble_eq_true rfl) (Nat.le_of_ble_eq_true rfl) (Nat.le_of_ble_eq_true rfl) (Nat.le_of_ble_eq_true rfl) (fun S88 hq88 => ?_)
  replace hq88 := hq88.symm
  subst hq88
  refine r_putR (v := some 16) dX8_init_91 lp_X8_62 rfl rfl ?_
  refine R.heap (S2 := oC10) rfl ?_
  refine r_aload_n dX8_init_94 rfl rfl ?_
  refine r_sipush (v := 300) dX8_init_95 (by decide) ?_
  refine r_putI dX8_init_98 (lp_X8_66 _) rfl rfl ?_
  exact r_vret dX8_init_101 rfl (Nat.le_of_ble_eq_true rfl) (Nat.le_of_ble_eq_true rfl) ⟨rfl, rfl⟩
set_option maxHeartbeats 4000000 in
theorem c_X9_init {l : Launch} {G : va_G} {cy : Nat → ClassId}  : Cn l G cy yX9_init cX9_init 1 none 1 [.ref 2000] (mM0 0) 37 7700 (qV (fun S2 => S2 = mM1 13)) := by
  refine Cn.of [some (.ref 2000)] (by decide) rfl (Nat.le_of_ble_eq_true rfl) ?_
  refine r_aload_n dX9_init_0 rfl rfl ?_
  refine r_objInit dX9_init_1 lm_X9_1 (Nat.le_of_ble_eq_true rfl) (Nat.le_of_ble_eq_true rfl) ?_
  refine r_aload_n dX9_init_4 rfl rfl ?_
  refine r_bipush (v := 36) dX9_init_5 (by decide) ?_
  refine r_newI (ma 0) dX9_init_7 tbI (by decide) rfl (by decide) rfl rfl (mM0_n 0) ((mM0_O 0).fr (mM0_n 0)) (Nat.le_of_ble_eq_true rfl) (Nat.le_of_ble_eq_true rfl) ?_
  refine r_putR (v := some (ma 0)) dX9_init_9 lp_X9_9 rfl rfl ?_
  refine R.heap (S2 := mM0 1) rfl ?_
  refine r_aload_n dX9_init_12 rfl rfl ?_
  refine r_bipush (v := 36) dX9_init_13 (by decide) ?_
  refine r_newZ (ma 1) dX9_init_15 tbZ (by decide) rfl (by decide) rfl rfl (mM0_n 1) ((mM0_O 1).fr (mM0_n 1)) (Nat.le_of_ble_eq_true rfl) (Nat.le_of_ble_eq_true rfl) ?_
  refine r_putR (v := some (ma 1)) dX9_init_17 lp_X9_13 rfl rfl ?_
  refine R.heap (S2 := mM0 2) rfl ?_
  refine r_aload_n dX9_init_20 rfl rfl ?_
  refine r_bipush (v := 12) dX9_init_21 (by decide) ?_
  refine r_newI (ma 2) dX9_init_23 tbI (by decide) rfl (by decide) rfl rfl (mM0_n 2) ((mM0_O 2).fr (mM0_n 2)) (Nat.le_of_ble_eq_true rfl) (Nat.le_of_ble_eq_true rfl) ?_
  refine r_putR (v := some (ma 2)) dX9_init_25 lp_X9_17 rfl rfl ?_
  refine R.heap (S2 := mM0 3) rfl ?_
  refine r_aload_n dX9_init_28 rfl rfl ?_
  refine r_bipush (v := 12) dX9_init_29 (by decide) ?_
  refine r_newI (ma 3) dX9_init_31 tbI (by decide) rfl (by decide) rfl rfl (mM0_n 3) ((mM0_O 3).fr (mM0_n 3)) (Nat.le_of_ble_eq_true rfl) (Nat.le_of_ble_eq_true rfl) ?_
  refine r_putR (v := some (ma 3)) dX9_init_33 lp_X9_20 rfl rfl ?_
  refine R.heap (S2 := mM0 4) rfl ?_
  refine r_aload_n dX9_init_36 rfl rfl ?_
  refine r_bipush (v := 12) dX9_init_37 (by decide) ?_
  refine r_newI (ma 4) dX9_init_39 tbI (by decide) rfl (by decide) rfl rfl (mM0_n 4) ((mM0_O 4).fr (mM0_n 4)) (Nat.le_of_ble_eq_true rfl) (Nat.le_of_ble_eq_true rfl) ?_
  refine r_putR (v := some (ma 4)) dX9_init_41 lp_X9_23 rfl rfl ?_
  refine R.heap (S2 := mM0 5) rfl ?_
  refine r_aload_n dX9_init_44 rfl rfl ?_
  refine r_bipush (v := 12) dX9_init_45 (by decide) ?_
  refine r_newI (ma 5) dX9_init_47 tbI (by decide) rfl (by decide) rfl rfl (mM0_n 5) ((mM0_O 5).fr (mM0_n 5)) (Nat.le_of_ble_eq_true rfl) (Nat.le_of_ble_eq_true rfl) ?_
  refine r_putR (v := some (ma 5)) dX9_init_49 lp_X9_26 rfl rfl ?_
  refine R.heap (S2 := mM0 6) rfl ?_
  refine r_aload_n dX9_init_52 rfl rfl ?_
  refine r_bipush (v := 12) dX9_init_53 (by decide) ?_
  refine r_newI (ma 6) dX9_init_55 tbI (by decide) rfl (by decide) rfl rfl (mM0_n 6) ((mM0_O 6).fr (mM0_n 6)) (Nat.le_of_ble_eq_true rfl) (Nat.le_of_ble_eq_true rfl) ?_
  refine r_putR (v := some (ma 6)) dX9_init_57 lp_X9_29 rfl rfl ?_
  refine R.heap (S2 := mM0 7) rfl ?_
  refine r_aload_n dX9_init_60 rfl rfl ?_
  refine r_bipush (v := 12) dX9_init_61 (by decide) ?_
  refine r_newI (ma 7) dX9_init_63 tbI (by decide) rfl (by decide) rfl rfl (mM0_n 7) ((mM0_O 7).fr (mM0_n 7)) (Nat.le_of_ble_eq_true rfl) (Nat.le_of_ble_eq_true rfl) ?_
  refine r_putR (v := some (ma 7)) dX9_init_65 lp_X9_32 rfl rfl ?_
  refine R.heap (S2 := mM0 8) rfl ?_
  refine r_aload_n dX9_init_68 rfl rfl ?_
  refine r_bipush (v := 96) dX9_init_69 (by decide) ?_
  refine r_newI (ma 8) dX9_init_71 tbI (by decide) rfl (by decide) rfl rfl (mM0_n 8) ((mM0_O 8).fr (mM0_n 8)) (Nat.le_of_ble_eq_true rfl) (Nat.le_of_ble_eq_true rfl) ?_
  refine r_putR (v := some (ma 8)) dX9_init_73 lp_X9_35 rfl rfl ?_
  refine R.heap (S2 := mM0 9) rfl ?_
  refine r_aload_n dX9_init_76 rfl rfl ?_
  refine r_bipush (v := 96) dX9_init_77 (by decide) ?_
  refine r_newI (ma 9) dX9_init_79 tbI (by decide) rfl (by decide) rfl rfl (mM0_n 9) ((mM0_O 9).fr (mM0_n 9)) (Nat.le_of_ble_eq_true rfl) (Nat.le_of_ble_eq_true rfl) ?_
  refine r_putR (v := some (ma 9)) dX9_init_81 lp_X9_38 rfl rfl ?_
  refine R.heap (S2 := mM0 10) rfl ?_
  refine r_aload_n dX9_init_84 rfl rfl ?_
  refine r_iconst (v := 4) dX9_init_85 (by decide) ?_
  refine r_newI (ma 10) dX9_init_86 tbI (by decide) rfl (by decide) rfl rfl (mM0_n 10) ((mM0_O 10).fr (mM0_n 10)) (Nat.le_of_ble_eq_true rfl) (Nat.le_of_ble_eq_true rfl) ?_
  refine r_putR (v := some (ma 10)) dX9_init_88 lp_X9_41 rfl rfl ?_
  refine R.heap (S2 := mM0 11) rfl ?_
  refine r_aload_n dX9_init_91 rfl rfl ?_
  refine r_iconst (v := 4) dX9_init_92 (by decide) ?_
  refine r_newI (ma 11) dX9_init_93 tbI (by decide) rfl (by decide) rfl rfl (mM0_n 11) ((mM0_O 11).fr (mM0_n 11)) (Nat.le_of_ble_eq_true rfl) (Nat.le_of_ble_eq_true rfl) ?_
  refine r_putR (v := some (ma 11)) dX9_init_95 lp_X9_44 rfl rfl ?_
  refine R.heap (S2 := mM0 12) rfl ?_
  refine r_aload_n dX9_init_98 rfl rfl ?_
  refine r_iconst (v := 4) dX9_init_99 (by decide) ?_
  refine r_newI (ma 12) dX9_init_100 tbI (by decide) rfl (by decide) rfl rfl (mM0_n 12) ((mM0_O 12).fr (mM0_n 12)) (Nat.le_of_ble_eq_true rfl) (Nat.le_of_ble_eq_true rfl) ?_
  refine r_putR (v := some (ma 12)) dX9_init_102 lp_X9_47 rfl rfl ?_
  refine R.heap (S2 := mM0 13) rfl ?_
  refine r_aload_n dX9_init_105 rfl rfl ?_
  refine r_sipush (v := 400) dX9_init_106 (by decide) ?_
  refine r_newI (ma 13) dX9_init_109 tbI (by decide) rfl (by decide) rfl rfl (mM0_n 13) ((mM0_O 13).fr (mM0_n 13)) (Nat.le_of_ble_eq_true rfl) (Nat.le_of_ble_eq_true rfl) ?_
  refine r_putR (v := some (ma 13)) dX9_init_111 lp_X9_50 rfl rfl ?_
  refine R.heap (S2 := mM0 14) rfl ?_
  refine r_aload_n dX9_init_114 rfl rfl ?_
  refine r_sipush (v := 400) dX9_init_115 (by decide) ?_
  refine r_newI (ma 14) dX9_init_118 tbI (by decide) rfl (by decide) rfl rfl (mM0_n 14) ((mM0_O 14).fr (mM0_n 14)) (Nat.le_of_ble_eq_true rfl) (Nat.le_of_ble_eq_true rfl) ?_
  refine r_putR (v := some (ma 14)) dX9_init_120 lp_X9_53 rfl rfl ?_
  refine R.heap (S2 := mM0 15) rfl ?_
  refine r_aload_n dX9_init_123 rfl rfl ?_
  refine r_sipush (v := 400) dX9_init_124 (by decide) ?_
  refine r_newI (ma 15) dX9_init_127 tbI (by decide) rfl (by decide) rfl rfl (mM0_n 15) ((mM0_O 15).fr (mM0_n 15)) (Nat.le_of_ble_eq_true rfl) (Nat.le_of_ble_eq_true rfl) ?_
  refine r_putR (v := some (ma 15)) dX9_init_129 lp_X9_56 rfl rfl ?_
  refine R.heap (S2 := mM0 16) rfl ?_
  refine r_aload_n dX9_init_132 rfl rfl ?_
  refine r_sipush (v := 400) dX9_init_133 (by decide) ?_
  refine r_newI (ma 16) dX9_init_136 tbI (by decide) rfl (by decide) rfl rfl (mM0_n 16) ((mM0_O 16).fr (mM0_n 16)) (Nat.le_of_ble_eq_true rfl) (Nat.le_of_ble_eq_true rfl) ?_
  refine r_putR (v := some (ma 16)) dX9_init_138 lp_X9_59 rfl rfl ?_
  refine R.heap (S2 := mM0 17) rfl ?_
  refine r_aload_n dX9_init_141 rfl rfl ?_
  refine r_sipush (v := 400) dX9_init_142 (by decide) ?_
  refine r_newI (ma 17) dX9_init_145 tbI (by decide) rfl (by decide) rfl rfl (mM0_n 17) ((mM0_O 17).fr (mM0_n 17)) (Nat.le_of_ble_eq_true rfl) (Nat.le_of_ble_eq_true rfl) ?_
  refine r_putR (v := some (ma 17)) dX9_init_147 lp_X9_62 rfl rfl ?_
  refine R.heap (S2 := mM0 18) rfl ?_
  refine r_aload_n dX9_init_150 rfl rfl ?_
  refine r_sipush (v := 400) dX9_init_151 (by decide) ?_
  refine r_newI (ma 18) dX9_init_154 tbI (by decide) rfl (by decide) rfl rfl (mM0_n 18) ((mM0_O 18).fr (mM0_n 18)) (Nat.le_of_ble_eq_true rfl) (Nat.le_of_ble_eq_true rfl) ?_
  refine r_putR (v := some (ma 18)) dX9_init_156 lp_X9_65 rfl rfl ?_
  refine R.heap (S2 := mM0 19) rfl ?_
  refine r_aload_n dX9_init_159 rfl rfl ?_
  refine r_sipush (v := 400) dX9_init_160 (by decide) ?_
  refine r_newI (ma 19) dX9_init_163 tbI (by decide) rfl (by decide) rfl rfl (mM0_n 19) ((mM0_O 19).fr (mM0_n 19)) (Nat.le_of_ble_eq_true rfl) (Nat.le_of_ble_eq_true rfl) ?_
  refine r_putR (v := some (ma 19)) dX9_init_165 lp_X9_68 rfl rfl ?_
  refine R.heap (S2 := mM0 20) rfl ?_
  refine r_aload_n dX9_init_168 rfl rfl ?_
  refine r_sipush (v := 400) dX9_init_169 (by decide) ?_
  refine r_newI (ma 20) dX9_init_172 tbI (by decide) rfl (by decide) rfl rfl (mM0_n 20) ((mM0_O 20).fr (mM0_n 20)) (Nat.le_of_ble_eq_true rfl) (Nat.le_of_ble_eq_true rfl) ?_
  refine r_putR (v := some (ma 20)) dX9_init_174 lp_X9_71 rfl rfl ?_
  refine R.heap (S2 := mM0 21) rfl ?_
  refine r_aload_n dX9_init_177 rfl rfl ?_
  refine r_sipush (v := 400) dX9_init_178 (by decide) ?_
  refine r_newI (ma 21) dX9_init_181 tbI (by decide) rfl (by decide) rfl rfl (mM0_n 21) ((mM0_O 21).fr (mM0_n 21)) (Nat.le_of_ble_eq_true rfl) (Nat.le_of_ble_eq_true rfl) ?_
  refine r_putR (v := some (ma 21)) dX9_init_183 lp_X9_74 rfl rfl ?_
  refine R.heap (S2 := mM0 22) rfl ?_
  refine r_aload_n dX9_init_186 rfl rfl ?_
  refine r_sipush (v := 400) dX9_init_187 (by decide) ?_
  refine r_newI (ma 22) dX9_init_190 tbI (by decide) rfl (by decide) rfl rfl (mM0_n 22) ((mM0_O 22).fr (mM0_n 22)) (Nat.le_of_ble_eq_true rfl) (Nat.le_of_ble_eq_true rfl) ?_
  refine r_putR (v := some (ma 22)) dX9_init_192 lp_X9_77 rfl rfl ?_
  refine R.heap (S2 := mM0 23) rfl ?_
  refine r_aload_n dX9_init_195 rfl rfl ?_
  refine r_sipush (v := 400) dX9_init_196 (by decide) ?_
  refine r_newI (ma 23) dX9_init_199 tbI (by decide) rfl (by decide) rfl rfl (mM0_n 23) ((mM0_O 23).fr (mM0_n 23)) (Nat.le_of_ble_eq_true rfl) (Nat.le_of_ble_eq_true rfl) ?_
  refine r_putR (v := some (ma 23)) dX9_init_201 lp_X9_80 rfl rfl ?_
  refine R.heap (S2 := mM0 24) rfl ?_
  refine r_aload_n dX9_init_204 rfl rfl ?_
  refine r_sipush (v := 300) dX9_init_205 (by decide) ?_
  refine r_putI dX9_init_208 (lp_X9_83 _) rfl rfl ?_
  refine R.heap (S2 := mM1 0) rfl ?_
  refine r_aload_n dX9_init_211 rfl rfl ?_
  refine r_bipush (v := 12) dX9_init_212 (by decide) ?_
  refine r_newI (ma 35) dX9_init_214 tbI (by decide) rfl (by decide) rfl rfl (show ma 35 ∉ sL (mM1 0) from mM1_n (k := 0) (by decide)) ((mM1_O 0).fr (show ma 35 ∉ sL (mM1 0) from mM1_n (k := 0) (by decide))) (Nat.le_of_ble_eq_true rfl) (Nat.le_of_ble_eq_true rfl) ?_
  refine r_putR (v := some (ma 35)) dX9_init_216 lp_X9_87 rfl rfl ?_
  refine R.heap (S2 := mM1 1) rfl ?_
  refine r_aload_n dX9_init_219 rfl rfl ?_
  refine r_bipush (v := 12) dX9_init_220 (by decide) ?_
  refine r_newI (ma 36) dX9_init_222 tbI (by decide) rfl (by decide) rfl rfl (show ma 36 ∉ sL (mM1 1) from mM1_n (k := 1) (by decide)) ((mM1_O 1).fr (show ma 36 ∉ sL (mM1 1) from mM1_n (k := 1) (by decide))) (Nat.le_of_ble_eq_true rfl) (Nat.le_of_ble_eq_true rfl) ?_
  refine r_putR (v := some (ma 36)) dX9_init_224 lp_X9_90 rfl rfl ?_
  refine R.heap (S2 := mM1 2) rfl ?_
  refine r_aload_n dX9_init_227 rfl rfl ?_
  refine r_bipush (v := 12) dX9_init_228 (by decide) ?_
  refine r_newZ (ma 37) dX9_init_230 tbZ (by decide) rfl (by decide) rfl rfl (show ma 37 ∉ sL (mM1 2) from mM1_n (k := 2) (by decide)) ((mM1_O 2).fr (show ma 37 ∉ sL (mM1 2) from mM1_n (k := 2) (by decide))) (Nat.le_of_ble_eq_true rfl) (Nat.le_of_ble_eq_true rfl) ?_
  refine r_putR (v := some (ma 37)) dX9_init_232 lp_X9_93 rfl rfl ?_
  refine R.heap (S2 := mM1 3) rfl ?_
  refine r_aload_n dX9_init_235 rfl rfl ?_
  refine r_bipush (v := 12) dX9_init_236 (by decide) ?_
  refine r_newI (ma 38) dX9_init_238 tbI (by decide) rfl (by decide) rfl rfl (show ma 38 ∉ sL (mM1 3) from mM1_n (k := 3) (by decide)) ((mM1_O 3).fr (show ma 38 ∉ sL (mM1 3) from mM1_n (k := 3) (by decide))) (Nat.le_of_ble_eq_true rfl) (Nat.le_of_ble_eq_true rfl) ?_
  refine r_putR (v := some (ma 38)) dX9_init_240 lp_X9_96 rfl rfl ?_
  refine R.heap (S2 := mM1 4) rfl ?_
  refine r_aload_n dX9_init_243 rfl rfl ?_
  refine r_bipush (v := 36) dX9_init_244 (by decide) ?_
  refine r_newI (ma 39) dX9_init_246 tbI (by decide) rfl (by decide) rfl rfl (show ma 39 ∉ sL (mM1 4) from mM1_n (k := 4) (by decide)) ((mM1_O 4).fr (show ma 39 ∉ sL (mM1 4) from mM1_n (k := 4) (by decide))) (Nat.le_of_ble_eq_true rfl) (Nat.le_of_ble_eq_true rfl) ?_
  refine r_putR (v := some (ma 39)) dX9_init_248 lp_X9_99 rfl rfl ?_
  refine R.heap (S2 := mM1 5) rfl ?_
  refine r_aload_n dX9_init_251 rfl rfl ?_
  refine r_iconst (v := 4) dX9_init_252 (by decide) ?_
  refine r_newI (ma 40) dX9_init_253 tbI (by decide) rfl (by decide) rfl rfl (show ma 40 ∉ sL (mM1 5) from mM1_n (k := 5) (by decide)) ((mM1_O 5).fr (show ma 40 ∉ sL (mM1 5) from mM1_n (k := 5) (by decide))) (Nat.le_of_ble_eq_true rfl) (Nat.le_of_ble_eq_true rfl) ?_
  refine r_putR (v := some (ma 40)) dX9_init_255 lp_X9_102 rfl rfl ?_
  refine R.heap (S2 := mM1 6) rfl ?_
  refine r_aload_n dX9_init_258 rfl rfl ?_
  refine r_bipush (v := 12) dX9_init_259 (by decide) ?_
  refine r_newZ (ma 41) dX9_init_261 tbZ (by decide) rfl (by decide) rfl rfl (show ma 41 ∉ sL (mM1 6) from mM1_n (k := 6) (by decide)) ((mM1_O 6).fr (show ma 41 ∉ sL (mM1 6) from mM1_n (k := 6) (by decide))) (Nat.le_of_ble_eq_true rfl) (Nat.le_of_ble_eq_true rfl) ?_
  refine r_putR (v := some (ma 41)) dX9_init_263 lp_X9_105 rfl rfl ?_
  refine R.heap (S2 := mM1 7) rfl ?_
  refine r_aload_n dX9_init_266 rfl rfl ?_
  refine r_bipush (v := 6) dX9_init_267 (by decide) ?_
  refine r_newI (ma 42) dX9_init_269 tbI (by decide) rfl (by decide) rfl rfl (show ma 42 ∉ sL (mM1 7) from mM1_n (k := 7) (by decide)) ((mM1_O 7).fr (show ma 42 ∉ sL (mM1 7) from mM1_n (k := 7) (by decide))) (Nat.le_of_ble_eq_true rfl) (Nat.le_of_ble_eq_true rfl) ?_
  refine r_putR (v := some (ma 42)) dX9_init_271 lp_X9_108 rfl rfl ?_
  refine R.heap (S2 := mM1 8) rfl ?_
  refine r_aload_n dX9_init_274 rfl rfl ?_
  refine r_sipush (v := 220) dX9_init_275 (by decide) ?_
  refine r_newI (ma 43) dX9_init_278 tbI (by decide) rfl (by decide) rfl rfl (show ma 43 ∉ sL (mM1 8) from mM1_n (k := 8) (by decide)) ((mM1_O 8).fr (show ma 43 ∉ sL (mM1 8) from mM1_n (k := 8) (by decide))) (Nat.le_of_ble_eq_true rfl) (Nat.le_of_ble_eq_true rfl) ?_
  refine r_putR (v := some (ma 43)) dX9_init_280 lp_X9_111 rfl rfl ?_
  refine R.heap (S2 := mM1 9) rfl ?_
  refine r_aload_n dX9_init_283 rfl rfl ?_
  refine r_sipush (v := 1680) dX9_init_284 (by decide) ?_
  refine r_newI (ma 44) dX9_init_287 tbI (by decide) rfl (by decide) rfl rfl (show ma 44 ∉ sL (mM1 9) from mM1_n (k := 9) (by decide)) ((mM1_O 9).fr (show ma 44 ∉ sL (mM1 9) from mM1_n (k := 9) (by decide))) (Nat.le_of_ble_eq_true rfl) (Nat.le_of_ble_eq_true rfl) ?_
  refine r_putR (v := some (ma 44)) dX9_init_289 lp_X9_114 rfl rfl ?_
  refine R.heap (S2 := mM1 10) rfl ?_
  refine r_aload_n dX9_init_292 rfl rfl ?_
  refine r_sipush (v := 420) dX9_init_293 (by decide) ?_
  refine r_newI (ma 45) dX9_init_296 tbI (by decide) rfl (by decide) rfl rfl (show ma 45 ∉ sL (mM1 10) from mM1_n (k := 10) (by decide)) ((mM1_O 10).fr (show ma 45 ∉ sL (mM1 10) from mM1_n (k := 10) (by decide))) (Nat.le_of_ble_eq_true rfl) (Nat.le_of_ble_eq_true rfl) ?_
  refine r_putR (v := some (ma 45)) dX9_init_298 lp_X9_117 rfl rfl ?_
  refine R.heap (S2 := mM1 11) rfl ?_
  refine r_aload_n dX9_init_301 rfl rfl ?_
  refine r_iconst (v := 4) dX9_init_302 (by decide) ?_
  refine r_newZ (ma 46) dX9_init_303 tbZ (by decide) rfl (by decide) rfl rfl (show ma 46 ∉ sL (mM1 11) from mM1_n (k := 11) (by decide)) ((mM1_O 11).fr (show ma 46 ∉ sL (mM1 11) from mM1_n (k := 11) (by decide))) (Nat.le_of_ble_eq_true rfl) (Nat.le_of_ble_eq_true rfl) ?_
  refine r_putR (v := some (ma 46)) dX9_init_305 lp_X9_120 rfl rfl ?_
  refine R.heap (S2 := mM1 12) rfl ?_
  refine r_aload_n dX9_init_308 rfl rfl ?_
  refine r_sipush (v := 420) dX9_init_309 (by decide) ?_
  refine r_newZ (ma 52) dX9_init_312 tbZ (by decide) rfl (by decide) rfl rfl (show ma 52 ∉ sL (mM1 12) from mM1_n (k := 12) (by decide)) ((mM1_O 12).fr (show ma 52 ∉ sL (mM1 12) from mM1_n (k := 12) (by decide))) (Nat.le_of_ble_eq_true rfl) (Nat.le_of_ble_eq_true rfl) ?_
  refine r_putR (v := some (ma 52)) dX9_init_314 lp_X9_123 rfl rfl ?_
  refine R.heap (S2 := mM1 13) rfl ?_
  exact r_vret dX9_init_317 rfl (Nat.le_of_ble_eq_true rfl) (Nat.le_of_ble_eq_true rfl) ⟨rfl, rfl⟩
