/-! ===== the system: brand, branded ===== -/
def fltR (S : HS) (r : Int32) : Prop := (∃ j, j < nn (sI S (fid 5 1) 8) ∧ (∀ k, k < j → gOk (sA S 9) k) ∧ ¬ gOk (sA S 9) j ∧ r = nI j) ∨ ((∀ k, k < nn (sI S (fid 5 1) 8) → gOk (sA S 9) k) ∧ r = if (gRun (sA S 9) (nn (sI S (fid 5 1) 8))).1.toInt = 3 ∧ (gRun (sA S 9) (nn (sI S (fid 5 1) 8))).2.1.toInt = 0 then -1 else sI S (fid 5 1) 8)
/-- a text made for brand i -/
def mkT (S : HS) (i : Nat) : HS := setQ (setR (newA (newO S (300 + 2 * i)) (301 + 2 * i)) (fid 5 0) (300 + 2 * i) (some (301 + 2 * i))) 10 (va_up (sQ S 10) i (some (300 + 2 * i)))
theorem mkT_I {S : HS} {i f a : Nat} (h : a ≠ 300 + 2 * i) : sI (mkT S i) f a = sI S f a := by
  show sI (newO S (300 + 2 * i)) f a = _
  rw [sI_newO, va_up_ne _ _ h]
theorem mkT_Q {S : HS} {i : Nat} : sQ (mkT S i) 10 i = some (300 + 2 * i) := by
  unfold mkT
  rw [sQ_setQ]
  simp [va_up]
theorem mkT_sh {S : HS} {i : Nat} (h : ShC S) (hi : i < 4) (h0 : sQ S 10 i = none) : ShC (mkT S i) := by
  obtain ⟨⟨a1, a2⟩, a3, a4, a5, a6, a7, a8, a9, a10, ⟨a11, a12⟩, a13, a14, a15⟩ := id h
  have e9 : cI (mkT S i) 9 = cI S 9 := mkT_I (by omega)
  have e10 : cI (mkT S i) 10 = cI S 10 := mkT_I (by omega)
  have e11 : cI (mkT S i) 11 = cI S 11 := mkT_I (by omega)
  have hb9 : nn (cI S 9) ≤ 12 := by unfold nn; omega
  have hb10 : nn (cI S 10) ≤ 4 := by unfold nn; omega
  have hL : sL (mkT S i) = sL S ++ [300 + 2 * i] ++ [301 + 2 * i] := rfl
  have hR : ∀ f a, a ≠ 300 + 2 * i → sR (mkT S i) f a = sR S f a := fun f a q => by
    show sR (setR (newA (newO S (300 + 2 * i)) (301 + 2 * i)) (fid 5 0) (300 + 2 * i) (some (301 + 2 * i))) f a = _
    rw [sR_setR, up2_ne (Or.inr q), sR_newA, sR_newO, va_up_ne _ _ q]
  have hR0 : sR (mkT S i) (fid 5 0) (300 + 2 * i) = some (301 + 2 * i) := by
    show sR (setR (newA (newO S (300 + 2 * i)) (301 + 2 * i)) (fid 5 0) (300 + 2 * i) (some (301 + 2 * i))) (fid 5 0) (300 + 2 * i) = _
    rw [sR_setR]; simp [up2]
  have hR1 : ∀ f, f ≠ fid 5 0 → sR (mkT S i) f (300 + 2 * i) = none := fun f q => by
    show sR (setR (newA (newO S (300 + 2 * i)) (301 + 2 * i)) (fid 5 0) (300 + 2 * i) (some (301 + 2 * i))) f (300 + 2 * i) = _
    rw [sR_setR, up2_ne (Or.inl q), sR_newA, sR_newO]; simp [va_up]
  have q10 : sQ (mkT S i) 10 = va_up (sQ S 10) i (some (300 + 2 * i)) := by
    show sQ (setQ (setR (newA (newO S (300 + 2 * i)) (301 + 2 * i)) (fid 5 0) (300 + 2 * i) (some (301 + 2 * i))) 10 (va_up (sQ S 10) i (some (300 + 2 * i)))) 10 = _
    rw [sQ_setQ]; simp [va_up]
  have qk : ∀ k, k ≠ 10 → k ≠ 301 + 2 * i → sQ (mkT S i) k = sQ S k := fun k h1 h2 => by
    show sQ (setQ (setR (newA (newO S (300 + 2 * i)) (301 + 2 * i)) (fid 5 0) (300 + 2 * i) (some (301 + 2 * i))) 10 (va_up (sQ S 10) i (some (300 + 2 * i)))) k = _
    rw [sQ_setQ, va_up_ne _ _ h1, sQ_setR, sQ_newA, va_up_ne _ _ h2, sQ_newO]
  have q301 : sQ (mkT S i) (301 + 2 * i) = fun _ => none := by
    show sQ (setQ (setR (newA (newO S (300 + 2 * i)) (301 + 2 * i)) (fid 5 0) (300 + 2 * i) (some (301 + 2 * i))) 10 (va_up (sQ S 10) i (some (300 + 2 * i)))) (301 + 2 * i) = _
    rw [sQ_setQ, va_up_ne _ _ (by omega), sQ_setR, sQ_newA]; simp [va_up]
  unfold ShC ShF
  rw [e9, e10, e11, qk 5 (by decide) (by omega), qk 6 (by decide) (by omega), qk 7 (by decide) (by omega), q10]
  refine ⟨⟨?_, ?_⟩, ?_, ?_, a5, ?_, a7, a8, a9, ?_, ⟨?_, ?_⟩, a13, a14, a15⟩
  · intro t ht; rw [hL]; exact List.mem_append_left _ (List.mem_append_left _ (a1 t ht))
  · intro p hp; rw [hR _ _ (by have := refsC_lo p hp; omega)]; exact a2 p hp
  · intro t
    rw [hL, List.mem_append, List.mem_append, a3 t, List.mem_singleton, List.mem_singleton]
    constructor
    · rintro (((q | q | q | q | q) | q) | q)
      · exact Or.inl q
      · exact Or.inr (Or.inl q)
      · exact Or.inr (Or.inr (Or.inl q))
      · refine Or.inr (Or.inr (Or.inr (Or.inl ⟨q.1, q.2.1, ?_⟩)))
        by_cases e : (t - 300) / 2 = i
        · rw [e]; simp [va_up]
        · rw [va_up_ne _ _ e]; exact q.2.2
      · exact Or.inr (Or.inr (Or.inr (Or.inr q)))
      · refine Or.inr (Or.inr (Or.inr (Or.inl ⟨by omega, by omega, ?_⟩)))
        rw [show (t - 300) / 2 = i by omega]; simp [va_up]
      · refine Or.inr (Or.inr (Or.inr (Or.inl ⟨by omega, by omega, ?_⟩)))
        rw [show (t - 300) / 2 = i by omega]; simp [va_up]
    · rintro (q | q | q | q | q)
      · exact Or.inl (Or.inl (Or.inl q))
      · exact Or.inl (Or.inl (Or.inr (Or.inl q)))
      · exact Or.inl (Or.inl (Or.inr (Or.inr (Or.inl q))))
      · by_cases e : (t - 300) / 2 = i
        · by_cases e2 : t = 300 + 2 * i
          · exact Or.inl (Or.inr e2)
          · exact Or.inr (by omega)
        · refine Or.inl (Or.inl (Or.inr (Or.inr (Or.inr (Or.inl ⟨q.1, q.2.1, ?_⟩)))))
          have := q.2.2
          rw [va_up_ne _ _ e] at this
          exact this
      · exact Or.inl (Or.inl (Or.inr (Or.inr (Or.inr (Or.inr q)))))
  · intro k hk
    rw [hR _ _ (by omega), hR _ _ (by omega)]
    exact a4 k hk
  · intro k hk
    rw [hR _ _ (by omega)]
    exact a6 k hk
  · intro k hk
    by_cases e : k = i
    · rw [e]; exact Or.inr ⟨by simp [va_up], hR0⟩
    · rw [va_up_ne _ _ e, hR _ _ (by omega)]; exact a10 k hk
  · intro f a t e
    rw [hL]
    by_cases q : a = 300 + 2 * i
    · rw [q] at e
      by_cases q2 : f = fid 5 0
      · rw [q2, hR0] at e
        rw [← Option.some.inj e]
        exact List.mem_append_right _ (List.mem_singleton.mpr rfl)
      · rw [hR1 f q2] at e; cases e
    · rw [hR _ _ q] at e; exact List.mem_append_left _ (List.mem_append_left _ (a11 f a t e))
  · intro a k t e
    rw [hL]
    by_cases q : a = 10
    · rw [q, q10] at e
      by_cases q2 : k = i
      · rw [q2] at e
        simp [va_up] at e
        rw [← e]
        exact List.mem_append_left _ (List.mem_append_right _ (List.mem_singleton.mpr rfl))
      · rw [va_up_ne _ _ q2] at e; exact List.mem_append_left _ (List.mem_append_left _ (a12 10 k t e))
    · by_cases q3 : a = 301 + 2 * i
      · rw [q3, q301] at e; cases e
      · rw [qk a q q3] at e; exact List.mem_append_left _ (List.mem_append_left _ (a12 a k t e))
theorem ShC.nT {S : HS} (h : ShC S) {i j : Nat} (hi : i < 4) (hj : j < 2) (h0 : sQ S 10 i = none) : 300 + 2 * i + j ∉ sL S := fun q => by
  have h1 := (h.2.1 _).mp q
  have hb := h.b
  have hy := h.y
  have hbn : nn (cI S 9) ≤ 12 := by unfold nn; omega
  have hyn : nn (cI S 10) ≤ 4 := by unfold nn; omega
  rcases h1 with z | z | z | z | z
  · omega
  · omega
  · omega
  · have := z.2.2
    rw [show (300 + 2 * i + j - 300) / 2 = i by omega, h0] at this
    cases this
  · omega
def brX (S : HS) (i : Nat) : HS := match sQ S 10 i with
  | none => mkT S i
  | some _ => S
def brE (S : HS) (i : Nat) (g : GT) (r : Nat → Int32) : HS := setI (setA (setI (brX (setG S g) i) (fid 5 1) (300 + 2 * i) (sI S (fid 5 1) 8)) (301 + 2 * i) r) (fid 5 1) 8 0
theorem setG_sh {S : HS} {g : GT} (h : ShC S) : ShC (setG S g) := ((h.setI (by decide)).setI (by decide)).setI (by decide)
theorem setG_I {S : HS} {g : GT} {f a : Nat} (h : f < 64 ∨ 66 < f) : sI (setG S g) f a = sI S f a := by
  unfold setG
  rw [sI_setIn (Or.inl (by unfold fid; omega)), sI_setIn (Or.inl (by unfold fid; omega)), sI_setIn (Or.inl (by unfold fid; omega))]
theorem setV_sh {S : HS} {v : VT} (h : ShC S) : ShC (setV S v) := ((((h.setI (by decide)).setI (by decide)).setI (by decide)).setI (by decide)).setI (by decide)
theorem setV_I {S : HS} {v : VT} {f a : Nat} (h : f < 384 ∨ 388 < f) : sI (setV S v) f a = sI S f a := by
  unfold setV
  rw [sI_setIn (Or.inl (by unfold fid; omega)), sI_setIn (Or.inl (by unfold fid; omega)), sI_setIn (Or.inl (by unfold fid; omega)), sI_setIn (Or.inl (by unfold fid; omega)), sI_setIn (Or.inl (by unfold fid; omega))]
theorem mF_setV {S : HS} {v : VT} {q : Nat} {w : Int32} : mF (setV S v) q w = mF S q w := by
  funext a
  unfold mF
  rw [setV_I (Or.inl (by decide)), setV_I (Or.inl (by decide)), setV_I (Or.inl (by decide)), setV_I (Or.inl (by decide)), setV_I (Or.inl (by decide))]
/-- brand j holds of lot q (whatever sign and number stood there) -/
def hldR (S : HS) (j : Nat) (q : Nat) : Prop := ∃ t s n, sQ S 10 j = some t ∧ (vFin S s n t q (cI S 12)).1 &&& 1 = 1
def nhdR (S : HS) (j : Nat) (q : Nat) : Prop := sQ S 10 j = none ∨ ∃ t s n, sQ S 10 j = some t ∧ ¬ (vFin S s n t q (cI S 12)).1 &&& 1 = 1
theorem setV_V {S : HS} {v u : VT} : setV (setV S v) u = setV S u := by
  show setI (setI (setI (setI (setI (setV S v) (fid 6 0) 16 u.1) (fid 6 1) 16 u.2.1) (fid 6 2) 16 u.2.2.1) (fid 6 3) 16 u.2.2.2.1) (fid 6 4) 16 u.2.2.2.2 = _
  rw [setV_0, setV_1, setV_2, setV_3, setV_4]
set_option maxHeartbeats 4000000 in
theorem c_X8_brand {l : Launch} {G : va_G} {cy : Nat → ClassId} (a : Int32) (S : HS) (h : ShC S) (hb : 0 ≤ (sI S (fid 5 1) 8).toInt ∧ (sI S (fid 5 1) 8).toInt ≤ 200) : Cn l G cy yX8_brand cX8_brand 3 (some .boolean) 4 [.ref 0, .int a] S 2 202 (qI (fun r S2 => (¬ (0 ≤ a.toInt ∧ a.toInt ≤ 3) → r = 0 ∧ S2 = S) ∧ (0 ≤ a.toInt ∧ a.toInt ≤ 3 → ∃ x g, fltR S x ∧ (x ≠ -1 → r = 0 ∧ S2 = setG S g) ∧ (x = -1 → r = 1 ∧ ∃ row, S2 = brE S (nn a) g row ∧ ∀ j, j < nn (sI S (fid 5 1) 8) → row j = sA S 9 j)))) := by
  refine Cn.of [some (.ref 0), some (.int a), none] (by decide) rfl (Nat.le_of_ble_eq_true rfl) ?_
  have hZ := h
  refine r_iload_n dX8_brand_0 rfl rfl ?_
  refine r_iconst (v := 0) dX8_brand_1 (by decide) ?_
  refine r_iconst (v := 3) dX8_brand_2 (by decide) ?_
  refine r_invS3i dX8_brand_3 lm_X8_74 (c_X8_isWithin _ _ _ _) (Nat.le_of_ble_eq_true rfl) (Nat.le_of_ble_eq_true rfl) (Nat.le_of_ble_eq_true rfl) (Nat.le_of_ble_eq_true rfl) (fun r3 S3 hq3 => ?_)
  obtain ⟨rfl, hz3⟩ := hq3
  replace hz3 := hz3.symm
  subst hz3
  refine r_if_eq 24 dX8_brand_6 (by decide) (fun q6 => ?_) (fun q6 => ?_)
  · skip
    have hnin : ¬ (0 ≤ a.toInt ∧ a.toInt ≤ 3) := by have q := b2i_eq0.mp q6; simp only [fa_le, Int32.reduceToInt] at q; exact q
    refine r_iconst (v := 0) dX8_brand_24 (by decide) ?_
    exact r_zret dX8_brand_25 rfl rfl (Nat.le_of_ble_eq_true rfl) (Nat.le_of_ble_eq_true rfl) ⟨_, rfl, by
        first
          | (have hn2 := hnin
             exact ⟨fun _ => ⟨rfl, rfl⟩, fun z => absurd z hn2⟩)
          | exact ⟨fun z => absurd hin z, fun _ => ⟨r17, g17, hf17, fun _ => ⟨rfl, rfl⟩, fun z => absurd z q21⟩⟩⟩
  · skip
    have hin : 0 ≤ a.toInt ∧ a.toInt ≤ 3 := by have q := b2i_ne0.mp q6; simp only [fa_le, Int32.reduceToInt] at q; exact q
    refine r_aload_n dX8_brand_9 rfl rfl ?_
    refine r_getR dX8_brand_10 lf_X8_55 rfl rfl (shR8_7 hZ.F) (shL_15 hZ.F) ?_
    refine r_aload_n dX8_brand_13 rfl rfl ?_
    refine r_getR dX8_brand_14 lf_X8_37 rfl rfl (shR8_4 hZ.F) (shL_8 hZ.F) ?_
    refine r_invV1i dX8_brand_17 lm_X8_151 rfl (c_X1_faultOf 8 9 S rfl (shR5_0t h.F) (shL_9 h.F) rfl rfl hb) (Nat.le_of_ble_eq_true rfl) (Nat.le_of_ble_eq_true rfl) (Nat.le_of_ble_eq_true rfl) (Nat.le_of_ble_eq_true rfl) (fun r17 S17 hq17 => ?_)
    obtain ⟨hf17, g17, hz17⟩ := hq17
    subst hz17
    refine r_iconst (v := (-1)) dX8_brand_20 (by decide) ?_
    refine r_icmp_eq 26 dX8_brand_21 (by decide) (fun q21 => ?_) (fun q21 => ?_)
    · skip
      have hX : ShC (setG S g17) := setG_sh h
      have hZ := hX
      have hi4 : (nn a) < 4 := by unfold nn; omega
      have e8 : sI (setG S g17) (fid 5 1) 8 = sI S (fid 5 1) 8 := setG_I (Or.inr (by decide))
      have hkt := tkT hi4
      have k1 : tk ((300 + 2 * (nn a)) + 1) = 10 := by rw [show (300 + 2 * (nn a)) + 1 = 301 + 2 * (nn a) by omega]; exact tkTb hi4
      have n1 : tn ((300 + 2 * (nn a)) + 1) = 200 := by rw [show (300 + 2 * (nn a)) + 1 = 301 + 2 * (nn a) by omega]; exact tnTb hi4
      refine r_aload_n dX8_brand_26 rfl rfl ?_
      refine r_getR dX8_brand_27 lf_X8_41 rfl rfl (shR8_5 hZ.F) (shL_10 hZ.F) ?_
      refine r_iload_n dX8_brand_30 rfl rfl ?_
      refine r_aald14 dX8_brand_31 rfl (show vp_in a 4 from vp_in_iff.mpr ⟨hin.1, by omega⟩) (hX.q 10 _) ?_
      cases hc31 : sQ (setG S g17) 10 a.toNatClampNeg with
      | none =>
        have h0 : sQ (setG S g17) 10 (nn a) = none := hc31
        have f0 : (300 + 2 * (nn a)) ∉ sL (setG S g17) := hX.nT hi4 (j := 0) (by decide) h0
        have f1 : (300 + 2 * (nn a)) + 1 ∉ sL (setG S g17) := hX.nT hi4 (j := 1) (by decide) h0
        refine r_ast2N dX8_brand_32 (Nat.le_of_ble_eq_true rfl) rfl ?_
        refine r_aload_nN dX8_brand_33 rfl rfl ?_
        refine r_ifnonnullN dX8_brand_34 ?_
        refine r_new (300 + 2 * (nn a)) dX8_brand_37 ln_X8_34 hkt f0 (hX.fr f0) (Nat.le_of_ble_eq_true rfl) (Nat.le_of_ble_eq_true rfl) ?_
        refine r_dup dX8_brand_40 rfl ?_
        refine r_invI0v dX8_brand_41 lm_X8_36 (c_X5_init (300 + 2 * (nn a)) (newO (setG S g17) (300 + 2 * (nn a))) hkt k1 n1 (nm_app f1 (by omega)) (Fr_newO (hX.fr f1))) (Nat.le_of_ble_eq_true rfl) (Nat.le_of_ble_eq_true rfl) (Nat.le_of_ble_eq_true rfl) (Nat.le_of_ble_eq_true rfl) (fun S41 hq41 => ?_)
        replace hq41 : S41 = (setR (newA (newO (setG S g17) (300 + 2 * (nn a))) ((300 + 2 * (nn a)) + 1)) (fid 5 0) (300 + 2 * (nn a)) (some ((300 + 2 * (nn a)) + 1))) := hq41
        subst hq41
        have hR46 : sR (setR (newA (newO (setG S g17) (300 + 2 * (nn a))) ((300 + 2 * (nn a)) + 1)) (fid 5 0) (300 + 2 * (nn a)) (some ((300 + 2 * (nn a)) + 1))) (fid 8 5) 0 = some 10 := by rw [sR_setR, up2_ne (Or.inl (by decide)), sR_newA, sR_newO, va_up_ne _ _ (by omega)]; exact shR8_5 hX.F
        have hL46 : 10 ∈ sL (setR (newA (newO (setG S g17) (300 + 2 * (nn a))) ((300 + 2 * (nn a)) + 1)) (fid 5 0) (300 + 2 * (nn a)) (some ((300 + 2 * (nn a)) + 1))) := List.mem_append_left _ (List.mem_append_left _ (shL_10 hX.F))
        have hQ46 : sQ (setR (newA (newO (setG S g17) (300 + 2 * (nn a))) ((300 + 2 * (nn a)) + 1)) (fid 5 0) (300 + 2 * (nn a)) (some ((300 + 2 * (nn a)) + 1))) 10 = sQ (setG S g17) 10 := by rw [sQ_setR, sQ_newA, va_up_ne _ _ (by omega), sQ_newO]
        refine r_ast2 dX8_brand_44 (Nat.le_of_ble_eq_true rfl) rfl ?_
        refine r_aload_n dX8_brand_45 rfl rfl ?_
        refine r_getR dX8_brand_46 lf_X8_41 rfl rfl hR46 hL46 ?_
        refine r_iload_n dX8_brand_49 rfl rfl ?_
        refine r_aload_n dX8_brand_50 rfl rfl ?_
        refine r_aast14 dX8_brand_51 rfl hkt (show vp_in a 4 from vp_in_iff.mpr ⟨hin.1, by omega⟩) ?_
        have eM : setQ (setR (newA (newO (setG S g17) (300 + 2 * (nn a))) ((300 + 2 * (nn a)) + 1)) (fid 5 0) (300 + 2 * (nn a)) (some ((300 + 2 * (nn a)) + 1))) 10 (va_up (sQ (setR (newA (newO (setG S g17) (300 + 2 * (nn a))) ((300 + 2 * (nn a)) + 1)) (fid 5 0) (300 + 2 * (nn a)) (some ((300 + 2 * (nn a)) + 1))) 10) a.toNatClampNeg (some (300 + 2 * (nn a)))) = mkT (setG S g17) (nn a) := by rw [hQ46, show (300 + 2 * (nn a)) + 1 = 301 + 2 * (nn a) by omega]; rfl
        rw [eM]
        have hZ : ShC (mkT (setG S g17) (nn a)) := mkT_sh hX hi4 h0
        have hQ0 : sQ (mkT (setG S g17) (nn a)) 10 (nn a) = some (300 + 2 * (nn a)) := mkT_Q
        have hbx : brX (setG S g17) (nn a) = mkT (setG S g17) (nn a) := by unfold brX; rw [h0]
        have hZ8 : sI (mkT (setG S g17) (nn a)) (fid 5 1) 8 = sI S (fid 5 1) 8 := by rw [mkT_I (by omega)]; exact e8
        have hZ9 : sA (mkT (setG S g17) (nn a)) 9 = sA S 9 := by
          show va_up (sA (setG S g17)) (301 + 2 * (nn a)) _ 9 = _
          rw [va_up_ne _ _ (by omega)]
          rfl
        refine r_aload_n dX8_brand_52 rfl rfl ?_
        refine r_aload_n dX8_brand_53 rfl rfl ?_
        refine r_getR dX8_brand_54 lf_X8_37 rfl rfl (shR8_4 hZ.F) (shL_8 hZ.F) ?_
        refine r_invV1v dX8_brand_57 lm_X8_155 (by first | assumption | rfl) (c_X5_copyFrom (300 + 2 * (nn a)) ((300 + 2 * (nn a)) + 1) 8 9 _ hkt (by rcases hZ.2.2.2.2.2.2.2.2.1 (nn a) hi4 with z | z; (rw [hQ0] at z; cases z); rw [show (300 + 2 * (nn a)) + 1 = 301 + 2 * (nn a) by omega]; exact z.2) (hZ.2.2.2.2.2.2.2.2.2.1.1 _ _ _ (by rcases hZ.2.2.2.2.2.2.2.2.1 (nn a) hi4 with z | z; (rw [hQ0] at z; cases z); rw [show (300 + 2 * (nn a)) + 1 = 301 + 2 * (nn a) by omega]; exact z.2)) k1 n1 rfl (shR5_0t hZ.F) (shL_9 hZ.F) rfl rfl (by omega) (by omega) (by rw [hZ8]; exact hb)) (Nat.le_of_ble_eq_true rfl) (Nat.le_of_ble_eq_true rfl) (Nat.le_of_ble_eq_true rfl) (Nat.le_of_ble_eq_true rfl) (fun S57 hq57 => ?_)
        obtain ⟨r57, hz57, hrr⟩ := hq57
        subst hz57
        rw [hZ8, hZ9] at hrr
        rw [hZ8]
        replace hZ := (hZ.setI (f := fid 5 1) (a := (300 + 2 * (nn a))) (v := sI S (fid 5 1) 8) (by decide)).setA (a := (300 + 2 * (nn a)) + 1) (r := r57)
        refine r_aload_n dX8_brand_60 rfl rfl ?_
        refine r_getR dX8_brand_61 lf_X8_37 rfl rfl (shR8_4 hZ.F) (shL_8 hZ.F) ?_
        refine r_iconst (v := 0) dX8_brand_64 (by decide) ?_
        refine r_putI dX8_brand_65 (lp_X8_145 _) rfl (by first | assumption | rfl) ?_
        refine r_iconst (v := 1) dX8_brand_68 (by decide) ?_
        exact r_zret dX8_brand_69 rfl rfl (Nat.le_of_ble_eq_true rfl) (Nat.le_of_ble_eq_true rfl) ⟨_, rfl, by
            refine ⟨fun z => absurd hin z, fun _ => ⟨r17, g17, hf17, fun z => absurd q21 z, fun _ => ⟨rfl, r57, ?_, hrr⟩⟩⟩
            unfold brE
            rw [hbx, show 301 + 2 * nn a = 300 + 2 * nn a + 1 by omega]⟩
      | some t31 =>
        have et : t31 = (300 + 2 * (nn a)) := by
          rcases hX.2.2.2.2.2.2.2.2.1 (nn a) hi4 with z | z
          · rw [show sQ (setG S g17) 10 (nn a) = some t31 from hc31] at z; cases z
          · have z1 := z.1
            rw [show sQ (setG S g17) 10 (nn a) = some t31 from hc31] at z1
            exact Option.some.inj z1
        subst et
        have hQ0 : sQ (setG S g17) 10 (nn a) = some (300 + 2 * (nn a)) := hc31
        have hbx : brX (setG S g17) (nn a) = (setG S g17) := by unfold brX; rw [hQ0]
        have hZ8 : sI (setG S g17) (fid 5 1) 8 = sI S (fid 5 1) 8 := e8
        have hZ9 : sA (setG S g17) 9 = sA S 9 := rfl
        refine r_ast2 dX8_brand_32 (Nat.le_of_ble_eq_true rfl) rfl ?_
        refine r_aload_n dX8_brand_33 rfl rfl ?_
        refine r_ifnonnull 52 dX8_brand_34 (by decide) ?_
        skip
        refine r_aload_n dX8_brand_52 rfl rfl ?_
        refine r_aload_n dX8_brand_53 rfl rfl ?_
        refine r_getR dX8_brand_54 lf_X8_37 rfl rfl (shR8_4 hZ.F) (shL_8 hZ.F) ?_
        refine r_invV1v dX8_brand_57 lm_X8_155 (by first | assumption | rfl) (c_X5_copyFrom (300 + 2 * (nn a)) ((300 + 2 * (nn a)) + 1) 8 9 _ hkt (by rcases hZ.2.2.2.2.2.2.2.2.1 (nn a) hi4 with z | z; (rw [hQ0] at z; cases z); rw [show (300 + 2 * (nn a)) + 1 = 301 + 2 * (nn a) by omega]; exact z.2) (hZ.2.2.2.2.2.2.2.2.2.1.1 _ _ _ (by rcases hZ.2.2.2.2.2.2.2.2.1 (nn a) hi4 with z | z; (rw [hQ0] at z; cases z); rw [show (300 + 2 * (nn a)) + 1 = 301 + 2 * (nn a) by omega]; exact z.2)) k1 n1 rfl (shR5_0t hZ.F) (shL_9 hZ.F) rfl rfl (by omega) (by omega) (by rw [hZ8]; exact hb)) (Nat.le_of_ble_eq_true rfl) (Nat.le_of_ble_eq_true rfl) (Nat.le_of_ble_eq_true rfl) (Nat.le_of_ble_eq_true rfl) (fun S57 hq57 => ?_)
        obtain ⟨r57, hz57, hrr⟩ := hq57
        subst hz57
        rw [hZ8, hZ9] at hrr
        rw [hZ8]
        replace hZ := (hZ.setI (f := fid 5 1) (a := (300 + 2 * (nn a))) (v := sI S (fid 5 1) 8) (by decide)).setA (a := (300 + 2 * (nn a)) + 1) (r := r57)
        refine r_aload_n dX8_brand_60 rfl rfl ?_
        refine r_getR dX8_brand_61 lf_X8_37 rfl rfl (shR8_4 hZ.F) (shL_8 hZ.F) ?_
        refine r_iconst (v := 0) dX8_brand_64 (by decide) ?_
        refine r_putI dX8_brand_65 (lp_X8_145 _) rfl (by first | assumption | rfl) ?_
        refine r_iconst (v := 1) dX8_brand_68 (by decide) ?_
        exact r_zret dX8_brand_69 rfl rfl (Nat.le_of_ble_eq_true rfl) (Nat.le_of_ble_eq_true rfl) ⟨_, rfl, by
            refine ⟨fun z => absurd hin z, fun _ => ⟨r17, g17, hf17, fun z => absurd q21 z, fun _ => ⟨rfl, r57, ?_, hrr⟩⟩⟩
            unfold brE
            rw [hbx, show 301 + 2 * nn a = 300 + 2 * nn a + 1 by omega]⟩
    · skip
      refine r_iconst (v := 0) dX8_brand_24 (by decide) ?_
      exact r_zret dX8_brand_25 rfl rfl (Nat.le_of_ble_eq_true rfl) (Nat.le_of_ble_eq_true rfl) ⟨_, rfl, by
          first
            | (have hn2 := hnin
               exact ⟨fun _ => ⟨rfl, rfl⟩, fun z => absurd z hn2⟩)
            | exact ⟨fun z => absurd hin z, fun _ => ⟨r17, g17, hf17, fun _ => ⟨rfl, rfl⟩, fun z => absurd z q21⟩⟩⟩
set_option maxHeartbeats 4000000 in
theorem c_X8_branded {l : Launch} {G : va_G} {cy : Nat → ClassId} (z : Int32) (S : HS) (h : ShC S) (hx : TxL S) : Cn l G cy yX8_branded cX8_branded 5 (some .int) 4 [.ref 0, .int z] S 0 0 (qI (fun r S2 => (if 0 ≤ z.toInt ∧ z.toInt < (cI S 11).toInt then (∃ i, i < 4 ∧ (∀ j, j < i → nhdR S j (1000 + nn z)) ∧ hldR S i (1000 + nn z) ∧ r = nI i) ∨ ((∀ j, j < 4 → nhdR S j (1000 + nn z)) ∧ r = -1) else r = -1) ∧ ∃ v, S2 = setV S v)) := by
  refine Cn.of [some (.ref 0), some (.int z), none, none, none] (by decide) rfl (Nat.le_of_ble_eq_true rfl) ?_
  refine r_aload_n dX8_branded_0 rfl rfl ?_
  refine r_iload_n dX8_branded_1 rfl rfl ?_
  refine r_invV1r dX8_branded_2 lm_X8_163 rfl (c_X8_lotAt _ _ h) (Nat.le_of_ble_eq_true rfl) (Nat.le_of_ble_eq_true rfl) (Nat.zero_le _) (Nat.zero_le _) (fun r2 S2 hq2 => ?_)
  obtain ⟨rfl, hz2⟩ := hq2
  replace hz2 := hz2.symm
  subst hz2
  by_cases hc2 : 0 ≤ z.toInt ∧ z.toInt < (cI S 11).toInt
  · rw [if_pos (α := Option Nat) hc2]
    have hbb := h.l
    have hlt : nn z < 400 := by unfold nn; omega
    have hkl := tkLo hlt
    refine r_ast2 dX8_branded_5 (Nat.le_of_ble_eq_true rfl) rfl ?_
    refine r_aload_n dX8_branded_6 rfl rfl ?_
    refine r_ifnonnull 12 dX8_branded_7 (by decide) ?_
    refine R.heap (setV_self S) ?_
    refine r_iconst (v := 0) dX8_branded_12 (by decide) ?_
    refine r_ist3 dX8_branded_13 (Nat.le_of_ble_eq_true rfl) rfl ?_
    refine R.for (α := VT × Option Value) (4) (fun i a => [some (.ref 0), some (.int z), some (.ref (1000 + nn z)), some (.int (nI i)), a.2]) (fun i a => (setV S a.1)) (fun i a => ∀ j, j < i → nhdR S j (1000 + nn z)) ?_ ?_ 0 ((sI S (fid 6 0) 16, sI S (fid 6 1) 16, sI S (fid 6 2) 16, sI S (fid 6 3) 16, sI S (fid 6 4) 16), none) (Nat.zero_le _) (fun j hj => absurd hj (Nat.not_lt_zero _))
    · intro a hI
      obtain ⟨v, lz⟩ := a
      dsimp only at *
      have hZ : ShC (setV S v) := setV_sh h
      refine r_iload_n dX8_branded_14 rfl rfl ?_
      refine r_iconst (v := 4) dX8_branded_15 (by decide) ?_
      refine r_icmp_ge 56 dX8_branded_16 (by decide) (fun q16 => ?_) (fun q16 => ?_)
      · skip
        refine r_iconst (v := (-1)) dX8_branded_56 (by decide) ?_
        exact r_iret dX8_branded_57 rfl (Nat.zero_le _) (Nat.zero_le _) ⟨_, rfl, ⟨by rw [if_pos hc2]; exact Or.inr ⟨hI, rfl⟩, _, rfl⟩⟩
      · skip
        exact absurd (by decide) q16
    · intro i a hi hI ih
      obtain ⟨v, lz⟩ := a
      dsimp only at *
      have hZ : ShC (setV S v) := setV_sh h
      have hii : (nI i).toInt = i := nI_toInt (by omega)
      have hin : nn (nI i) = i := by unfold nn; omega
      have etx : txt (setV S v) (nI i) = sQ S 10 i := by unfold txt; rw [if_pos ⟨by omega, by omega⟩, hin]; rfl
      have hst : nhdR S i (1000 + nn z) → ∀ j, j < i + 1 → nhdR S j (1000 + nn z) := fun q j hj => by
        rcases Nat.lt_succ_iff_lt_or_eq.mp hj with w | w
        · exact hI j w
        · rw [w]; exact q
      refine r_iload_n dX8_branded_14 rfl rfl ?_
      refine r_iconst (v := 4) dX8_branded_15 (by decide) ?_
      refine r_icmp_ge 56 dX8_branded_16 (by decide) (fun q16 => ?_) (fun q16 => ?_)
      · skip
        exact absurd q16 (by rw [fa_le, hii]; have : (4 : Int32).toInt = 4 := rfl; omega)
      · skip
        refine r_aload_n dX8_branded_19 rfl rfl ?_
        refine r_iload_n dX8_branded_20 rfl rfl ?_
        refine r_invV1r dX8_branded_21 lm_X8_159 rfl (c_X8_textAt (nI i) (setV S v) hZ) (Nat.le_of_ble_eq_true rfl) (Nat.le_of_ble_eq_true rfl) (Nat.zero_le _) (Nat.zero_le _) (fun r21 S21 hq21 => ?_)
        obtain ⟨hr21, hz21⟩ := hq21
        replace hz21 := hz21.symm
        subst hz21
        replace hr21 : r21 = txt (setV S v) (nI i) := hr21
        subst hr21
        cases hc21 : txt (setV S v) (nI i) with
        | none =>
          have hno := hc21
          refine r_ast4N dX8_branded_24 (Nat.le_of_ble_eq_true rfl) rfl ?_
          refine r_aloadN dX8_branded_26 rfl ?_
          refine r_ifnullN 50 dX8_branded_28 (by decide) ?_
          refine r_in3 dX8_branded_50 (show _ + Int32.ofInt 1 = _ + 1 from rfl) (Nat.le_of_ble_eq_true rfl) rfl ?_
          refine r_goto 14 dX8_branded_53 (by decide) ?_
          rw [nI_1 i]
          first
            | (have hno2 := hno
               exact ih (v, some .null) (hst (Or.inl (by rw [← etx]; exact hno2))))
            | (rw [setV_V]
               exact ih (_, some (.ref t21)) (hst (Or.inr ⟨t21, _, _, by rw [← etx]; exact hc21, by
                 have q := b2i_eq0.mp q45
                 rw [setV_I (f := fid 8 12) (Or.inr (by decide)), setV_I (f := fid 5 1) (Or.inl (by decide)), mF_setV] at q
                 exact q⟩)))
        | some t21 =>
          obtain ⟨x1, x2, x3, x4, x5⟩ := txt_ok hZ hc21
          refine r_ast4 dX8_branded_24 (Nat.le_of_ble_eq_true rfl) rfl ?_
          refine r_aload dX8_branded_26 rfl ?_
          refine r_ifnull dX8_branded_28 ?_
          refine r_aload_n dX8_branded_31 rfl rfl ?_
          refine r_getR dX8_branded_32 lf_X8_62 rfl rfl (shR8_8 hZ.F) (shL_16 hZ.F) ?_
          refine r_aload dX8_branded_35 rfl ?_
          refine r_aload_n dX8_branded_37 rfl rfl ?_
          refine r_aload_n dX8_branded_38 rfl rfl ?_
          refine r_getI dX8_branded_39 lf_X8_118 rfl rfl ?_
          refine r_invV3i dX8_branded_42 lm_X8_167 rfl (c_X6_holds t21 (t21 + 1) (1000 + nn z) _ (setV S v) x1 x2 x3 x4 x5 (by rw [setV_I (Or.inl (by decide))]; exact hx t21) hkl) (Nat.le_of_ble_eq_true rfl) (Nat.le_of_ble_eq_true rfl) (Nat.zero_le _) (Nat.zero_le _) (fun r42 S42 hq42 => ?_)
          obtain ⟨rfl, hz42⟩ := hq42
          replace hz42 := hz42.symm
          subst hz42
          refine r_if_eq 50 dX8_branded_45 (by decide) (fun q45 => ?_) (fun q45 => ?_)
          · skip
            refine r_in3 dX8_branded_50 (show _ + Int32.ofInt 1 = _ + 1 from rfl) (Nat.le_of_ble_eq_true rfl) rfl ?_
            refine r_goto 14 dX8_branded_53 (by decide) ?_
            rw [nI_1 i]
            first
              | (have hno2 := hno
                 exact ih (v, some .null) (hst (Or.inl (by rw [← etx]; exact hno2))))
              | (rw [setV_V]
                 exact ih (_, some (.ref t21)) (hst (Or.inr ⟨t21, _, _, by rw [← etx]; exact hc21, by
                   have q := b2i_eq0.mp q45
                   rw [setV_I (f := fid 8 12) (Or.inr (by decide)), setV_I (f := fid 5 1) (Or.inl (by decide)), mF_setV] at q
                   exact q⟩)))
          · skip
            refine r_iload_n dX8_branded_48 rfl rfl ?_
            exact r_iret dX8_branded_49 rfl (Nat.zero_le _) (Nat.zero_le _) ⟨_, rfl, by
                have q := b2i_ne0.mp q45
                rw [setV_I (f := fid 8 12) (Or.inr (by decide)), setV_I (f := fid 5 1) (Or.inl (by decide)), mF_setV] at q
                refine ⟨?_, _, setV_V⟩
                rw [if_pos hc2]
                exact Or.inl ⟨i, by omega, hI, ⟨t21, _, _, by rw [← etx]; exact hc21, q⟩, rfl⟩⟩
  · rw [if_neg (α := Option Nat) hc2]
    have hbb := h.l
    refine r_ast2N dX8_branded_5 (Nat.le_of_ble_eq_true rfl) rfl ?_
    refine r_aload_nN dX8_branded_6 rfl rfl ?_
    refine r_ifnonnullN dX8_branded_7 ?_
    refine r_iconst (v := (-1)) dX8_branded_10 (by decide) ?_
    exact r_iret dX8_branded_11 rfl (Nat.zero_le _) (Nat.zero_le _) ⟨_, rfl, ⟨by rw [if_neg hc2], _, setV_self S⟩⟩
