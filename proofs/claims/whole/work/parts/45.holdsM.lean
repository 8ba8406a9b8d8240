/-! ===== the reference: holds, judge, branded ===== -/
abbrev HT : Type := Nat × Nat × (Nat → Int32)
def vlM (S : HS) (q : Nat) (w : Int32) : Int32 := sel w.toInt (mA S 21 q) [mA S 18 q, mA S 19 q, mA S 22 q, mI S 24 - mA S 13 q]
def cmM (g v x : Int32) : Int32 := if g = 61 then b2i (v = x) else if g = 60 then b2i (v.toInt < x.toInt) else b2i (x.toInt < v.toInt)
/-- one code of a brand -/
def hsN (S : HS) (q : Nat) (s : HT) : HT := if mA S 44 s.1 = 0 then (s.1 + 4, s.2.1 + 1, upd s.2.2 s.2.1 (cmM (mA S 44 (s.1 + 2)) (vlM S q (mA S 44 (s.1 + 1))) (mA S 44 (s.1 + 3)))) else (s.1 + 1, s.2.1 - 1, upd s.2.2 (s.2.1 - 2) (if mA S 44 s.1 = 1 then b2i (¬ s.2.2 (s.2.1 - 2) = 0 ∧ ¬ s.2.2 (s.2.1 - 1) = 0) else b2i (¬ s.2.2 (s.2.1 - 2) = 0 ∨ ¬ s.2.2 (s.2.1 - 1) = 0)))
def hsI (S : HS) (q b : Nat) : Nat → HT
  | 0 => (420 * b, 0, mA S 52)
  | i + 1 => hsN S q (hsI S q b i)
def hOk (S : HS) (s : HT) : Prop := s.1 + 3 < 1680 ∧ ¬ mA S 44 s.1 = 3 ∧ (mA S 44 s.1 = 0 → s.2.1 < 420) ∧ (¬ mA S 44 s.1 = 0 → 2 ≤ s.2.1 ∧ s.2.1 ≤ 420)
/-- brand b's codes come to an end after N steps -/
def hEn (S : HS) (q b N : Nat) : Prop := (∀ i, i < N → hOk S (hsI S q b i)) ∧ (hsI S q b N).1 < 1680 ∧ mA S 44 (hsI S q b N).1 = 3 ∧ ((hsI S q b N).2.2 0 = 0 ∨ (hsI S q b N).2.2 0 = 1)
theorem nI_420 : ∀ b, b < 4 → (420 : Int32) * nI b = nI (420 * b) := by decide
theorem nI_3 (a : Nat) : nI a + 3 = nI (a + 3) := nI_add a 3
theorem nI_2a (a : Nat) : nI a + 2 = nI (a + 2) := nI_add a 2
theorem nI_4a (a : Nat) : nI a + 4 = nI (a + 4) := nI_add a 4
theorem nI_m1 {a : Nat} (h : 0 < a) (h2 : a < 2 ^ 31) : nI a - 1 = nI (a - 1) := by
  rw [fa_eq, nI_toInt (by omega), fb_subI (by rw [nI_toInt h2]; have : (1 : Int32).toInt = 1 := rfl; omega) (by rw [nI_toInt h2]; have : (1 : Int32).toInt = 1 := rfl; omega), nI_toInt h2]
  have : (1 : Int32).toInt = 1 := rfl
  omega
theorem nI_p1 {a : Nat} (h : 0 < a) (h2 : a < 2 ^ 31) : nI a + (-1) = nI (a - 1) := by
  rw [← nI_m1 h h2]
  rw [fa_eq]
  have r : (nI a).toInt = a := nI_toInt h2
  have m1 : (-1 : Int32).toInt = -1 := rfl
  have o1 : (1 : Int32).toInt = 1 := rfl
  rw [fb_addI (by omega) (by omega), fb_subI (by omega) (by omega)]
  omega
theorem b01 {x : Int32} (h : x = 0 ∨ x = 1) : narrow .boolean (.int x) = .int x := by
  rcases h with q | q <;> (rw [q]; rfl)
set_option maxHeartbeats 4000000 in
theorem c_X9_holds {l : Launch} {G : va_G} {cy : Nat → ClassId} (b q N : Nat) (S : HS) (h : ShM S) (hb : b < 4) (hq : q < 400) (hE : hEn S q b N) : Cn l G cy yX9_holds cX9_holds 7 (some .boolean) 1 [.ref 2000, .int (nI b), .int (nI q)] S 0 0 (qI (fun r S2 => r = (hsI S q b N).2.2 0 ∧ S2 = setA S (ma 52) (hsI S q b N).2.2)) := by
  refine Cn.of [some (.ref 2000), some (.int (nI b)), some (.int (nI q)), none, none, none, none] (by decide) rfl (Nat.le_of_ble_eq_true rfl) ?_
  have hbc := nI_420 b hb
  have hqi : (nI q).toInt = q := nI_toInt (by omega)
  have hqc : (nI q).toNatClampNeg = q := nI_clamp (by omega)
  refine r_sipush (v := 420) dX9_holds_0 (by decide) ?_
  refine r_iload_n dX9_holds_3 rfl rfl ?_
  refine r_imul dX9_holds_4 ?_
  rw [hbc]
  refine r_ist3 dX9_holds_5 (Nat.le_of_ble_eq_true rfl) rfl ?_
  refine R.heap (S2 := setA S (ma 52) (hsI S q b 0).2.2) (setA_self S (ma 52)).symm ?_
  refine r_iconst (v := 0) dX9_holds_6 (by decide) ?_
  refine r_ist4 dX9_holds_7 (Nat.le_of_ble_eq_true rfl) rfl ?_
  refine R.for (α := Option Value × Option Value) (N) (fun i a => [some (.ref 2000), some (.int (nI b)), some (.int (nI q)), some (.int (nI (hsI S q b i).1)), some (.int (nI (hsI S q b i).2.1)), a.1, a.2]) (fun i a => (setA S (ma 52) (hsI S q b i).2.2)) (fun i a => True) ?_ ?_ 0 (none, none) (Nat.zero_le _) trivial
  · intro a hI
    obtain ⟨he0, he1, he2, he3⟩ := hE
    generalize (hsI S q b N) = s at he1 he2 he3 ⊢
    have hsh : ShM (setA S (ma 52) s.2.2) := h.setA _ _
    have z44 : sA (setA S (ma 52) s.2.2) (ma 44) = mA S 44 := sA_setn (by decide)
    have z52 : sA (setA S (ma 52) s.2.2) (ma 52) = s.2.2 := sA_set _ _ _
    have hkc : (nI s.1).toNatClampNeg = s.1 := nI_clamp (by omega)
    have hk3 : s.1 < 1680 := he1
    refine r_aload_n dX9_holds_9 rfl rfl ?_
    refine r_getR dX9_holds_10 lf_X9_114 rfl rfl (shM_R hsh (j := 44) rfl) (shM_L hsh (j := 44) rfl) ?_
    refine r_iload_n dX9_holds_13 rfl rfl ?_
    refine r_iald dX9_holds_14 rfl (show vp_in (nI s.1) 1680 from vp_in_nI (by omega) (by omega)) ?_
    rw [z44, hkc]
    refine r_iconst (v := 3) dX9_holds_15 (by decide) ?_
    refine r_icmp_eq 222 dX9_holds_16 (by decide) (fun q16 => ?_) (fun q16 => ?_)
    · skip
      refine r_aload_n dX9_holds_222 rfl rfl ?_
      refine r_getR dX9_holds_223 lf_X9_123 rfl rfl (shM_R hsh (j := 52) rfl) (shM_L hsh (j := 52) rfl) ?_
      refine r_iconst (v := 0) dX9_holds_226 (by decide) ?_
      refine r_zald dX9_holds_227 rfl (show vp_in 0 420 from vp_in_iff.mpr ⟨by decide, by decide⟩) ?_
      rw [z52, show (0 : Int32).toNatClampNeg = 0 from rfl]
      exact r_zret dX9_holds_228 rfl (b01 he3) (Nat.zero_le _) (Nat.zero_le _) ⟨_, rfl, ⟨rfl, rfl⟩⟩
    · skip
      exact absurd he2 q16
  · intro i a hi hI ih
    obtain ⟨a1, a2⟩ := a
    dsimp only
    have ok := hE.1 i hi
    have e1 : hsI S q b (i + 1) = hsN S q (hsI S q b i) := rfl
    rw [e1] at ih
    clear e1
    generalize (hsI S q b i) = s at ih ok ⊢
    have hsh : ShM (setA S (ma 52) s.2.2) := h.setA _ _
    have z44 : sA (setA S (ma 52) s.2.2) (ma 44) = mA S 44 := sA_setn (by decide)
    have z52 : sA (setA S (ma 52) s.2.2) (ma 52) = s.2.2 := sA_set _ _ _
    obtain ⟨o1, o2, o3, o4⟩ := ok
    have hk3 : s.1 < 1680 := by omega
    have hkc : (nI s.1).toNatClampNeg = s.1 := nI_clamp (by omega)
    have hkc1 : (nI (s.1 + 1)).toNatClampNeg = s.1 + 1 := nI_clamp (by omega)
    have hkc2 : (nI (s.1 + 2)).toNatClampNeg = s.1 + 2 := nI_clamp (by omega)
    have hkc3 : (nI (s.1 + 3)).toNatClampNeg = s.1 + 3 := nI_clamp (by omega)
    refine r_aload_n dX9_holds_9 rfl rfl ?_
    refine r_getR dX9_holds_10 lf_X9_114 rfl rfl (shM_R hsh (j := 44) rfl) (shM_L hsh (j := 44) rfl) ?_
    refine r_iload_n dX9_holds_13 rfl rfl ?_
    refine r_iald dX9_holds_14 rfl (show vp_in (nI s.1) 1680 from vp_in_nI (by omega) (by omega)) ?_
    rw [z44, hkc]
    refine r_iconst (v := 3) dX9_holds_15 (by decide) ?_
    refine r_icmp_eq 222 dX9_holds_16 (by decide) (fun q16 => ?_) (fun q16 => ?_)
    · skip
      exact absurd q16 o2
    · skip
      refine r_aload_n dX9_holds_19 rfl rfl ?_
      refine r_getR dX9_holds_20 lf_X9_114 rfl rfl (shM_R hsh (j := 44) rfl) (shM_L hsh (j := 44) rfl) ?_
      refine r_iload_n dX9_holds_23 rfl rfl ?_
      refine r_iald dX9_holds_24 rfl (show vp_in (nI s.1) 1680 from vp_in_nI (by omega) (by omega)) ?_
      rw [z44, hkc]
      refine r_if_ne 137 dX9_holds_25 (by decide) (fun q25 => ?_) (fun q25 => ?_)
      · skip
        obtain ⟨w1, w2⟩ := o4 q25
        have hn1 : (nI (s.2.1 - 1)).toNatClampNeg = s.2.1 - 1 := nI_clamp (by omega)
        have hn2 : (nI (s.2.1 - 1 - 1)).toNatClampNeg = s.2.1 - 2 := by rw [show s.2.1 - 1 - 1 = s.2.1 - 2 by omega]; exact nI_clamp (by omega)
        refine r_in4 dX9_holds_137 (show _ + Int32.ofInt (-1) = _ + (-1) from rfl) (Nat.le_of_ble_eq_true rfl) rfl ?_
        rw [nI_p1 (by omega) (by omega)]
        refine r_aload_n dX9_holds_140 rfl rfl ?_
        refine r_getR dX9_holds_141 lf_X9_123 rfl rfl (shM_R hsh (j := 52) rfl) (shM_L hsh (j := 52) rfl) ?_
        refine r_iload dX9_holds_144 rfl ?_
        refine r_iconst (v := 1) dX9_holds_146 (by decide) ?_
        refine r_isub dX9_holds_147 ?_
        rw [nI_m1 (by omega) (by omega)]
        refine r_aload_n dX9_holds_148 rfl rfl ?_
        refine r_getR dX9_holds_149 lf_X9_114 rfl rfl (shM_R hsh (j := 44) rfl) (shM_L hsh (j := 44) rfl) ?_
        refine r_iload_n dX9_holds_152 rfl rfl ?_
        refine r_iald dX9_holds_153 rfl (show vp_in (nI s.1) 1680 from vp_in_nI (by omega) (by omega)) ?_
        rw [z44, hkc]
        refine r_iconst (v := 1) dX9_holds_154 (by decide) ?_
        refine r_icmp_ne 188 dX9_holds_155 (by decide) (fun q155 => ?_) (fun q155 => ?_)
        · skip
          refine r_aload_n dX9_holds_188 rfl rfl ?_
          refine r_getR dX9_holds_189 lf_X9_123 rfl rfl (shM_R hsh (j := 52) rfl) (shM_L hsh (j := 52) rfl) ?_
          refine r_iload dX9_holds_192 rfl ?_
          refine r_iconst (v := 1) dX9_holds_194 (by decide) ?_
          refine r_isub dX9_holds_195 ?_
          rw [nI_m1 (by omega) (by omega)]
          refine r_zald dX9_holds_196 rfl (show vp_in (nI (s.2.1 - 1 - 1)) 420 from vp_in_nI (by omega) (by omega)) ?_
          rw [z52, hn2]
          refine r_if_ne 210 dX9_holds_197 (by decide) (fun q197 => ?_) (fun q197 => ?_)
          · skip
            have hbin : vp_nar .boolean (1 : Int32) = (if mA S 44 s.1 = 1 then b2i (¬ s.2.2 (s.2.1 - 2) = 0 ∧ ¬ s.2.2 (s.2.1 - 1) = 0) else b2i (¬ s.2.2 (s.2.1 - 2) = 0 ∨ ¬ s.2.2 (s.2.1 - 1) = 0)) := by
              rw [if_neg q155, b2i_t (by first | exact Or.inl q197 | exact Or.inr q207)]
              rfl
            refine r_iconst (v := 1) dX9_holds_210 (by decide) ?_
            refine r_goto 215 dX9_holds_211 (by decide) ?_
            refine r_zast dX9_holds_215 rfl (show vp_in (nI (s.2.1 - 1 - 1)) 420 from vp_in_nI (by omega) (by omega)) ?_
            refine r_in3 dX9_holds_216 (show _ + Int32.ofInt 1 = _ + 1 from rfl) (Nat.le_of_ble_eq_true rfl) rfl ?_
            refine r_goto 9 dX9_holds_219 (by decide) ?_
            first
              | (have hb2 := hpush
                 have h9 := ih (some (.int (vlM S q (mA S 44 (s.1 + 1)))), some (.int (mA S 44 (s.1 + 3)))) trivial
                 rw [show hsN S q s = _ from if_pos q25] at h9
                 rw [nI_1 s.2.1, nI_4a, hnc, z52, setA_setA]
                 have ev : vp_nar .boolean _ = cmM (mA S 44 (s.1 + 2)) (vlM S q (mA S 44 (s.1 + 1))) (mA S 44 (s.1 + 3)) := hb2
                 rw [ev]
                 exact h9)
              | (have hb2 := hbin
                 have h9 := ih (a1, a2) trivial
                 rw [show hsN S q s = _ from if_neg q25] at h9
                 rw [nI_1 s.1, hn2, z52, setA_setA]
                 have ev : vp_nar .boolean _ = (if mA S 44 s.1 = 1 then b2i (¬ s.2.2 (s.2.1 - 2) = 0 ∧ ¬ s.2.2 (s.2.1 - 1) = 0) else b2i (¬ s.2.2 (s.2.1 - 2) = 0 ∨ ¬ s.2.2 (s.2.1 - 1) = 0)) := hb2
                 rw [ev]
                 exact h9)
          · skip
            refine r_aload_n dX9_holds_200 rfl rfl ?_
            refine r_getR dX9_holds_201 lf_X9_123 rfl rfl (shM_R hsh (j := 52) rfl) (shM_L hsh (j := 52) rfl) ?_
            refine r_iload dX9_holds_204 rfl ?_
            refine r_zald dX9_holds_206 rfl (show vp_in (nI (s.2.1 - 1)) 420 from vp_in_nI (by omega) (by omega)) ?_
            rw [z52, hn1]
            refine r_if_eq 214 dX9_holds_207 (by decide) (fun q207 => ?_) (fun q207 => ?_)
            · skip
              have hbin : vp_nar .boolean (0 : Int32) = (if mA S 44 s.1 = 1 then b2i (¬ s.2.2 (s.2.1 - 2) = 0 ∧ ¬ s.2.2 (s.2.1 - 1) = 0) else b2i (¬ s.2.2 (s.2.1 - 2) = 0 ∨ ¬ s.2.2 (s.2.1 - 1) = 0)) := by
                rw [if_neg q155, b2i_f (fun z => by rcases z with z | z; exact z q197; exact z q207)]
                rfl
              refine r_iconst (v := 0) dX9_holds_214 (by decide) ?_
              refine r_zast dX9_holds_215 rfl (show vp_in (nI (s.2.1 - 1 - 1)) 420 from vp_in_nI (by omega) (by omega)) ?_
              refine r_in3 dX9_holds_216 (show _ + Int32.ofInt 1 = _ + 1 from rfl) (Nat.le_of_ble_eq_true rfl) rfl ?_
              refine r_goto 9 dX9_holds_219 (by decide) ?_
              first
                | (have hb2 := hpush
                   have h9 := ih (some (.int (vlM S q (mA S 44 (s.1 + 1)))), some (.int (mA S 44 (s.1 + 3)))) trivial
                   rw [show hsN S q s = _ from if_pos q25] at h9
                   rw [nI_1 s.2.1, nI_4a, hnc, z52, setA_setA]
                   have ev : vp_nar .boolean _ = cmM (mA S 44 (s.1 + 2)) (vlM S q (mA S 44 (s.1 + 1))) (mA S 44 (s.1 + 3)) := hb2
                   rw [ev]
                   exact h9)
                | (have hb2 := hbin
                   have h9 := ih (a1, a2) trivial
                   rw [show hsN S q s = _ from if_neg q25] at h9
                   rw [nI_1 s.1, hn2, z52, setA_setA]
                   have ev : vp_nar .boolean _ = (if mA S 44 s.1 = 1 then b2i (¬ s.2.2 (s.2.1 - 2) = 0 ∧ ¬ s.2.2 (s.2.1 - 1) = 0) else b2i (¬ s.2.2 (s.2.1 - 2) = 0 ∨ ¬ s.2.2 (s.2.1 - 1) = 0)) := hb2
                   rw [ev]
                   exact h9)
            · skip
              have hbin : vp_nar .boolean (1 : Int32) = (if mA S 44 s.1 = 1 then b2i (¬ s.2.2 (s.2.1 - 2) = 0 ∧ ¬ s.2.2 (s.2.1 - 1) = 0) else b2i (¬ s.2.2 (s.2.1 - 2) = 0 ∨ ¬ s.2.2 (s.2.1 - 1) = 0)) := by
                rw [if_neg q155, b2i_t (by first | exact Or.inl q197 | exact Or.inr q207)]
                rfl
              refine r_iconst (v := 1) dX9_holds_210 (by decide) ?_
              refine r_goto 215 dX9_holds_211 (by decide) ?_
              refine r_zast dX9_holds_215 rfl (show vp_in (nI (s.2.1 - 1 - 1)) 420 from vp_in_nI (by omega) (by omega)) ?_
              refine r_in3 dX9_holds_216 (show _ + Int32.ofInt 1 = _ + 1 from rfl) (Nat.le_of_ble_eq_true rfl) rfl ?_
              refine r_goto 9 dX9_holds_219 (by decide) ?_
              first
                | (have hb2 := hpush
                   have h9 := ih (some (.int (vlM S q (mA S 44 (s.1 + 1)))), some (.int (mA S 44 (s.1 + 3)))) trivial
                   rw [show hsN S q s = _ from if_pos q25] at h9
                   rw [nI_1 s.2.1, nI_4a, hnc, z52, setA_setA]
                   have ev : vp_nar .boolean _ = cmM (mA S 44 (s.1 + 2)) (vlM S q (mA S 44 (s.1 + 1))) (mA S 44 (s.1 + 3)) := hb2
                   rw [ev]
                   exact h9)
                | (have hb2 := hbin
                   have h9 := ih (a1, a2) trivial
                   rw [show hsN S q s = _ from if_neg q25] at h9
                   rw [nI_1 s.1, hn2, z52, setA_setA]
                   have ev : vp_nar .boolean _ = (if mA S 44 s.1 = 1 then b2i (¬ s.2.2 (s.2.1 - 2) = 0 ∧ ¬ s.2.2 (s.2.1 - 1) = 0) else b2i (¬ s.2.2 (s.2.1 - 2) = 0 ∨ ¬ s.2.2 (s.2.1 - 1) = 0)) := hb2
                   rw [ev]
                   exact h9)
        · skip
          refine r_aload_n dX9_holds_158 rfl rfl ?_
          refine r_getR dX9_holds_159 lf_X9_123 rfl rfl (shM_R hsh (j := 52) rfl) (shM_L hsh (j := 52) rfl) ?_
          refine r_iload dX9_holds_162 rfl ?_
          refine r_iconst (v := 1) dX9_holds_164 (by decide) ?_
          refine r_isub dX9_holds_165 ?_
          rw [nI_m1 (by omega) (by omega)]
          refine r_zald dX9_holds_166 rfl (show vp_in (nI (s.2.1 - 1 - 1)) 420 from vp_in_nI (by omega) (by omega)) ?_
          rw [z52, hn2]
          refine r_if_eq 184 dX9_holds_167 (by decide) (fun q167 => ?_) (fun q167 => ?_)
          · skip
            have hbin : vp_nar .boolean (0 : Int32) = (if mA S 44 s.1 = 1 then b2i (¬ s.2.2 (s.2.1 - 2) = 0 ∧ ¬ s.2.2 (s.2.1 - 1) = 0) else b2i (¬ s.2.2 (s.2.1 - 2) = 0 ∨ ¬ s.2.2 (s.2.1 - 1) = 0)) := by
              rw [if_pos q155, b2i_f (fun z => by first | exact z.1 q167 | exact z.2 q177)]
              rfl
            refine r_iconst (v := 0) dX9_holds_184 (by decide) ?_
            refine r_goto 215 dX9_holds_185 (by decide) ?_
            refine r_zast dX9_holds_215 rfl (show vp_in (nI (s.2.1 - 1 - 1)) 420 from vp_in_nI (by omega) (by omega)) ?_
            refine r_in3 dX9_holds_216 (show _ + Int32.ofInt 1 = _ + 1 from rfl) (Nat.le_of_ble_eq_true rfl) rfl ?_
            refine r_goto 9 dX9_holds_219 (by decide) ?_
            first
              | (have hb2 := hpush
                 have h9 := ih (some (.int (vlM S q (mA S 44 (s.1 + 1)))), some (.int (mA S 44 (s.1 + 3)))) trivial
                 rw [show hsN S q s = _ from if_pos q25] at h9
                 rw [nI_1 s.2.1, nI_4a, hnc, z52, setA_setA]
                 have ev : vp_nar .boolean _ = cmM (mA S 44 (s.1 + 2)) (vlM S q (mA S 44 (s.1 + 1))) (mA S 44 (s.1 + 3)) := hb2
                 rw [ev]
                 exact h9)
              | (have hb2 := hbin
                 have h9 := ih (a1, a2) trivial
                 rw [show hsN S q s = _ from if_neg q25] at h9
                 rw [nI_1 s.1, hn2, z52, setA_setA]
                 have ev : vp_nar .boolean _ = (if mA S 44 s.1 = 1 then b2i (¬ s.2.2 (s.2.1 - 2) = 0 ∧ ¬ s.2.2 (s.2.1 - 1) = 0) else b2i (¬ s.2.2 (s.2.1 - 2) = 0 ∨ ¬ s.2.2 (s.2.1 - 1) = 0)) := hb2
                 rw [ev]
                 exact h9)
          · skip
            refine r_aload_n dX9_holds_170 rfl rfl ?_
            refine r_getR dX9_holds_171 lf_X9_123 rfl rfl (shM_R hsh (j := 52) rfl) (shM_L hsh (j := 52) rfl) ?_
            refine r_iload dX9_holds_174 rfl ?_
            refine r_zald dX9_holds_176 rfl (show vp_in (nI (s.2.1 - 1)) 420 from vp_in_nI (by omega) (by omega)) ?_
            rw [z52, hn1]
            refine r_if_eq 184 dX9_holds_177 (by decide) (fun q177 => ?_) (fun q177 => ?_)
            · skip
              have hbin : vp_nar .boolean (0 : Int32) = (if mA S 44 s.1 = 1 then b2i (¬ s.2.2 (s.2.1 - 2) = 0 ∧ ¬ s.2.2 (s.2.1 - 1) = 0) else b2i (¬ s.2.2 (s.2.1 - 2) = 0 ∨ ¬ s.2.2 (s.2.1 - 1) = 0)) := by
                rw [if_pos q155, b2i_f (fun z => by first | exact z.1 q167 | exact z.2 q177)]
                rfl
              refine r_iconst (v := 0) dX9_holds_184 (by decide) ?_
              refine r_goto 215 dX9_holds_185 (by decide) ?_
              refine r_zast dX9_holds_215 rfl (show vp_in (nI (s.2.1 - 1 - 1)) 420 from vp_in_nI (by omega) (by omega)) ?_
              refine r_in3 dX9_holds_216 (show _ + Int32.ofInt 1 = _ + 1 from rfl) (Nat.le_of_ble_eq_true rfl) rfl ?_
              refine r_goto 9 dX9_holds_219 (by decide) ?_
              first
                | (have hb2 := hpush
                   have h9 := ih (some (.int (vlM S q (mA S 44 (s.1 + 1)))), some (.int (mA S 44 (s.1 + 3)))) trivial
                   rw [show hsN S q s = _ from if_pos q25] at h9
                   rw [nI_1 s.2.1, nI_4a, hnc, z52, setA_setA]
                   have ev : vp_nar .boolean _ = cmM (mA S 44 (s.1 + 2)) (vlM S q (mA S 44 (s.1 + 1))) (mA S 44 (s.1 + 3)) := hb2
                   rw [ev]
                   exact h9)
                | (have hb2 := hbin
                   have h9 := ih (a1, a2) trivial
                   rw [show hsN S q s = _ from if_neg q25] at h9
                   rw [nI_1 s.1, hn2, z52, setA_setA]
                   have ev : vp_nar .boolean _ = (if mA S 44 s.1 = 1 then b2i (¬ s.2.2 (s.2.1 - 2) = 0 ∧ ¬ s.2.2 (s.2.1 - 1) = 0) else b2i (¬ s.2.2 (s.2.1 - 2) = 0 ∨ ¬ s.2.2 (s.2.1 - 1) = 0)) := hb2
                   rw [ev]
                   exact h9)
            · skip
              have hbin : vp_nar .boolean (1 : Int32) = (if mA S 44 s.1 = 1 then b2i (¬ s.2.2 (s.2.1 - 2) = 0 ∧ ¬ s.2.2 (s.2.1 - 1) = 0) else b2i (¬ s.2.2 (s.2.1 - 2) = 0 ∨ ¬ s.2.2 (s.2.1 - 1) = 0)) := by rw [if_pos q155, b2i_t ⟨q167, q177⟩]; rfl
              refine r_iconst (v := 1) dX9_holds_180 (by decide) ?_
              refine r_goto 215 dX9_holds_181 (by decide) ?_
              refine r_zast dX9_holds_215 rfl (show vp_in (nI (s.2.1 - 1 - 1)) 420 from vp_in_nI (by omega) (by omega)) ?_
              refine r_in3 dX9_holds_216 (show _ + Int32.ofInt 1 = _ + 1 from rfl) (Nat.le_of_ble_eq_true rfl) rfl ?_
              refine r_goto 9 dX9_holds_219 (by decide) ?_
              first
                | (have hb2 := hpush
                   have h9 := ih (some (.int (vlM S q (mA S 44 (s.1 + 1)))), some (.int (mA S 44 (s.1 + 3)))) trivial
                   rw [show hsN S q s = _ from if_pos q25] at h9
                   rw [nI_1 s.2.1, nI_4a, hnc, z52, setA_setA]
                   have ev : vp_nar .boolean _ = cmM (mA S 44 (s.1 + 2)) (vlM S q (mA S 44 (s.1 + 1))) (mA S 44 (s.1 + 3)) := hb2
                   rw [ev]
                   exact h9)
                | (have hb2 := hbin
                   have h9 := ih (a1, a2) trivial
                   rw [show hsN S q s = _ from if_neg q25] at h9
                   rw [nI_1 s.1, hn2, z52, setA_setA]
                   have ev : vp_nar .boolean _ = (if mA S 44 s.1 = 1 then b2i (¬ s.2.2 (s.2.1 - 2) = 0 ∧ ¬ s.2.2 (s.2.1 - 1) = 0) else b2i (¬ s.2.2 (s.2.1 - 2) = 0 ∨ ¬ s.2.2 (s.2.1 - 1) = 0)) := hb2
                   rw [ev]
                   exact h9)
      · skip
        have hn4 : s.2.1 < 420 := o3 q25
        have hnc : (nI s.2.1).toNatClampNeg = s.2.1 := nI_clamp (by omega)
        refine r_aload_n dX9_holds_28 rfl rfl ?_
        refine r_iload_n dX9_holds_29 rfl rfl ?_
        refine r_aload_n dX9_holds_30 rfl rfl ?_
        refine r_getR dX9_holds_31 lf_X9_114 rfl rfl (shM_R hsh (j := 44) rfl) (shM_L hsh (j := 44) rfl) ?_
        refine r_iload_n dX9_holds_34 rfl rfl ?_
        refine r_iconst (v := 1) dX9_holds_35 (by decide) ?_
        refine r_iadd dX9_holds_36 ?_
        rw [nI_1 s.1]
        refine r_iald dX9_holds_37 rfl (show vp_in (nI (s.1 + 1)) 1680 from vp_in_nI (by omega) (by omega)) ?_
        rw [z44, hkc1]
        refine r_invV2i dX9_holds_38 lm_X9_255 rfl (c_X9_value (nI q) (mA S 44 (s.1 + 1)) (setA S (ma 52) s.2.2) hsh ⟨by omega, by omega⟩) (Nat.le_of_ble_eq_true rfl) (Nat.le_of_ble_eq_true rfl) (Nat.zero_le _) (Nat.zero_le _) (fun r38 S38 hq38 => ?_)
        obtain ⟨hr38, hz38⟩ := hq38
        replace hz38 := hz38.symm
        subst hz38
        rw [hqc, show mA (setA S (ma 52) s.2.2) 21 = mA S 21 from sA_setn (by decide), show mA (setA S (ma 52) s.2.2) 18 = mA S 18 from sA_setn (by decide), show mA (setA S (ma 52) s.2.2) 19 = mA S 19 from sA_setn (by decide), show mA (setA S (ma 52) s.2.2) 22 = mA S 22 from sA_setn (by decide), show mA (setA S (ma 52) s.2.2) 13 = mA S 13 from sA_setn (by decide)] at hr38
        replace hr38 : r38 = vlM S q (mA S 44 (s.1 + 1)) := hr38
        subst hr38
        refine r_ist5 dX9_holds_41 (Nat.le_of_ble_eq_true rfl) rfl ?_
        refine r_aload_n dX9_holds_43 rfl rfl ?_
        refine r_getR dX9_holds_44 lf_X9_114 rfl rfl (shM_R hsh (j := 44) rfl) (shM_L hsh (j := 44) rfl) ?_
        refine r_iload_n dX9_holds_47 rfl rfl ?_
        refine r_iconst (v := 3) dX9_holds_48 (by decide) ?_
        refine r_iadd dX9_holds_49 ?_
        rw [nI_3]
        refine r_iald dX9_holds_50 rfl (show vp_in (nI (s.1 + 3)) 1680 from vp_in_nI (by omega) (by omega)) ?_
        rw [z44, hkc3]
        refine r_ist6 dX9_holds_51 (Nat.le_of_ble_eq_true rfl) rfl ?_
        refine r_aload_n dX9_holds_53 rfl rfl ?_
        refine r_getR dX9_holds_54 lf_X9_123 rfl rfl (shM_R hsh (j := 52) rfl) (shM_L hsh (j := 52) rfl) ?_
        refine r_iload dX9_holds_57 rfl ?_
        refine r_aload_n dX9_holds_59 rfl rfl ?_
        refine r_getR dX9_holds_60 lf_X9_114 rfl rfl (shM_R hsh (j := 44) rfl) (shM_L hsh (j := 44) rfl) ?_
        refine r_iload_n dX9_holds_63 rfl rfl ?_
        refine r_iconst (v := 2) dX9_holds_64 (by decide) ?_
        refine r_iadd dX9_holds_65 ?_
        rw [nI_2a]
        refine r_iald dX9_holds_66 rfl (show vp_in (nI (s.1 + 2)) 1680 from vp_in_nI (by omega) (by omega)) ?_
        rw [z44, hkc2]
        refine r_bipush (v := 61) dX9_holds_67 (by decide) ?_
        refine r_icmp_ne 87 dX9_holds_69 (by decide) (fun q69 => ?_) (fun q69 => ?_)
        · skip
          refine r_aload_n dX9_holds_87 rfl rfl ?_
          refine r_getR dX9_holds_88 lf_X9_114 rfl rfl (shM_R hsh (j := 44) rfl) (shM_L hsh (j := 44) rfl) ?_
          refine r_iload_n dX9_holds_91 rfl rfl ?_
          refine r_iconst (v := 2) dX9_holds_92 (by decide) ?_
          refine r_iadd dX9_holds_93 ?_
          rw [nI_2a]
          refine r_iald dX9_holds_94 rfl (show vp_in (nI (s.1 + 2)) 1680 from vp_in_nI (by omega) (by omega)) ?_
          rw [z44, hkc2]
          refine r_bipush (v := 60) dX9_holds_95 (by decide) ?_
          refine r_icmp_ne 115 dX9_holds_97 (by decide) (fun q97 => ?_) (fun q97 => ?_)
          · skip
            refine r_iload dX9_holds_115 rfl ?_
            refine r_iload dX9_holds_117 rfl ?_
            refine r_icmp_le 126 dX9_holds_119 (by decide) (fun q119 => ?_) (fun q119 => ?_)
            · skip
              have hpush : vp_nar .boolean (0 : Int32) = cmM (mA S 44 (s.1 + 2)) (vlM S q (mA S 44 (s.1 + 1))) (mA S 44 (s.1 + 3)) := by unfold cmM; rw [if_neg q69, if_neg q97, b2i_f (by rw [fa_le] at q119; omega)]; rfl
              refine r_iconst (v := 0) dX9_holds_126 (by decide) ?_
              refine r_zast dX9_holds_127 rfl (show vp_in (nI s.2.1) 420 from vp_in_nI (by omega) (by omega)) ?_
              refine r_in4 dX9_holds_128 (show _ + Int32.ofInt 1 = _ + 1 from rfl) (Nat.le_of_ble_eq_true rfl) rfl ?_
              refine r_in3 dX9_holds_131 (show _ + Int32.ofInt 4 = _ + 4 from rfl) (Nat.le_of_ble_eq_true rfl) rfl ?_
              refine r_goto 9 dX9_holds_134 (by decide) ?_
              first
                | (have hb2 := hpush
                   have h9 := ih (some (.int (vlM S q (mA S 44 (s.1 + 1)))), some (.int (mA S 44 (s.1 + 3)))) trivial
                   rw [show hsN S q s = _ from if_pos q25] at h9
                   rw [nI_1 s.2.1, nI_4a, hnc, z52, setA_setA]
                   have ev : vp_nar .boolean _ = cmM (mA S 44 (s.1 + 2)) (vlM S q (mA S 44 (s.1 + 1))) (mA S 44 (s.1 + 3)) := hb2
                   rw [ev]
                   exact h9)
                | (have hb2 := hbin
                   have h9 := ih (a1, a2) trivial
                   rw [show hsN S q s = _ from if_neg q25] at h9
                   rw [nI_1 s.1, hn2, z52, setA_setA]
                   have ev : vp_nar .boolean _ = (if mA S 44 s.1 = 1 then b2i (¬ s.2.2 (s.2.1 - 2) = 0 ∧ ¬ s.2.2 (s.2.1 - 1) = 0) else b2i (¬ s.2.2 (s.2.1 - 2) = 0 ∨ ¬ s.2.2 (s.2.1 - 1) = 0)) := hb2
                   rw [ev]
                   exact h9)
            · skip
              have hpush : vp_nar .boolean (1 : Int32) = cmM (mA S 44 (s.1 + 2)) (vlM S q (mA S 44 (s.1 + 1))) (mA S 44 (s.1 + 3)) := by unfold cmM; rw [if_neg q69, if_neg q97, b2i_t (by rw [fa_le] at q119; omega)]; rfl
              refine r_iconst (v := 1) dX9_holds_122 (by decide) ?_
              refine r_goto 127 dX9_holds_123 (by decide) ?_
              refine r_zast dX9_holds_127 rfl (show vp_in (nI s.2.1) 420 from vp_in_nI (by omega) (by omega)) ?_
              refine r_in4 dX9_holds_128 (show _ + Int32.ofInt 1 = _ + 1 from rfl) (Nat.le_of_ble_eq_true rfl) rfl ?_
              refine r_in3 dX9_holds_131 (show _ + Int32.ofInt 4 = _ + 4 from rfl) (Nat.le_of_ble_eq_true rfl) rfl ?_
              refine r_goto 9 dX9_holds_134 (by decide) ?_
              first
                | (have hb2 := hpush
                   have h9 := ih (some (.int (vlM S q (mA S 44 (s.1 + 1)))), some (.int (mA S 44 (s.1 + 3)))) trivial
                   rw [show hsN S q s = _ from if_pos q25] at h9
                   rw [nI_1 s.2.1, nI_4a, hnc, z52, setA_setA]
                   have ev : vp_nar .boolean _ = cmM (mA S 44 (s.1 + 2)) (vlM S q (mA S 44 (s.1 + 1))) (mA S 44 (s.1 + 3)) := hb2
                   rw [ev]
                   exact h9)
                | (have hb2 := hbin
                   have h9 := ih (a1, a2) trivial
                   rw [show hsN S q s = _ from if_neg q25] at h9
                   rw [nI_1 s.1, hn2, z52, setA_setA]
                   have ev : vp_nar .boolean _ = (if mA S 44 s.1 = 1 then b2i (¬ s.2.2 (s.2.1 - 2) = 0 ∧ ¬ s.2.2 (s.2.1 - 1) = 0) else b2i (¬ s.2.2 (s.2.1 - 2) = 0 ∨ ¬ s.2.2 (s.2.1 - 1) = 0)) := hb2
                   rw [ev]
                   exact h9)
          · skip
            refine r_iload dX9_holds_100 rfl ?_
            refine r_iload dX9_holds_102 rfl ?_
            refine r_icmp_ge 111 dX9_holds_104 (by decide) (fun q104 => ?_) (fun q104 => ?_)
            · skip
              have hpush : vp_nar .boolean (0 : Int32) = cmM (mA S 44 (s.1 + 2)) (vlM S q (mA S 44 (s.1 + 1))) (mA S 44 (s.1 + 3)) := by unfold cmM; rw [if_neg q69, if_pos q97, b2i_f (by rw [fa_le] at q104; omega)]; rfl
              refine r_iconst (v := 0) dX9_holds_111 (by decide) ?_
              refine r_goto 127 dX9_holds_112 (by decide) ?_
              refine r_zast dX9_holds_127 rfl (show vp_in (nI s.2.1) 420 from vp_in_nI (by omega) (by omega)) ?_
              refine r_in4 dX9_holds_128 (show _ + Int32.ofInt 1 = _ + 1 from rfl) (Nat.le_of_ble_eq_true rfl) rfl ?_
              refine r_in3 dX9_holds_131 (show _ + Int32.ofInt 4 = _ + 4 from rfl) (Nat.le_of_ble_eq_true rfl) rfl ?_
              refine r_goto 9 dX9_holds_134 (by decide) ?_
              first
                | (have hb2 := hpush
                   have h9 := ih (some (.int (vlM S q (mA S 44 (s.1 + 1)))), some (.int (mA S 44 (s.1 + 3)))) trivial
                   rw [show hsN S q s = _ from if_pos q25] at h9
                   rw [nI_1 s.2.1, nI_4a, hnc, z52, setA_setA]
                   have ev : vp_nar .boolean _ = cmM (mA S 44 (s.1 + 2)) (vlM S q (mA S 44 (s.1 + 1))) (mA S 44 (s.1 + 3)) := hb2
                   rw [ev]
                   exact h9)
                | (have hb2 := hbin
                   have h9 := ih (a1, a2) trivial
                   rw [show hsN S q s = _ from if_neg q25] at h9
                   rw [nI_1 s.1, hn2, z52, setA_setA]
                   have ev : vp_nar .boolean _ = (if mA S 44 s.1 = 1 then b2i (¬ s.2.2 (s.2.1 - 2) = 0 ∧ ¬ s.2.2 (s.2.1 - 1) = 0) else b2i (¬ s.2.2 (s.2.1 - 2) = 0 ∨ ¬ s.2.2 (s.2.1 - 1) = 0)) := hb2
                   rw [ev]
                   exact h9)
            · skip
              have hpush : vp_nar .boolean (1 : Int32) = cmM (mA S 44 (s.1 + 2)) (vlM S q (mA S 44 (s.1 + 1))) (mA S 44 (s.1 + 3)) := by unfold cmM; rw [if_neg q69, if_pos q97, b2i_t (by rw [fa_le] at q104; omega)]; rfl
              refine r_iconst (v := 1) dX9_holds_107 (by decide) ?_
              refine r_goto 127 dX9_holds_108 (by decide) ?_
              refine r_zast dX9_holds_127 rfl (show vp_in (nI s.2.1) 420 from vp_in_nI (by omega) (by omega)) ?_
              refine r_in4 dX9_holds_128 (show _ + Int32.ofInt 1 = _ + 1 from rfl) (Nat.le_of_ble_eq_true rfl) rfl ?_
              refine r_in3 dX9_holds_131 (show _ + Int32.ofInt 4 = _ + 4 from rfl) (Nat.le_of_ble_eq_true rfl) rfl ?_
              refine r_goto 9 dX9_holds_134 (by decide) ?_
              first
                | (have hb2 := hpush
                   have h9 := ih (some (.int (vlM S q (mA S 44 (s.1 + 1)))), some (.int (mA S 44 (s.1 + 3)))) trivial
                   rw [show hsN S q s = _ from if_pos q25] at h9
                   rw [nI_1 s.2.1, nI_4a, hnc, z52, setA_setA]
                   have ev : vp_nar .boolean _ = cmM (mA S 44 (s.1 + 2)) (vlM S q (mA S 44 (s.1 + 1))) (mA S 44 (s.1 + 3)) := hb2
                   rw [ev]
                   exact h9)
                | (have hb2 := hbin
                   have h9 := ih (a1, a2) trivial
                   rw [show hsN S q s = _ from if_neg q25] at h9
                   rw [nI_1 s.1, hn2, z52, setA_setA]
                   have ev : vp_nar .boolean _ = (if mA S 44 s.1 = 1 then b2i (¬ s.2.2 (s.2.1 - 2) = 0 ∧ ¬ s.2.2 (s.2.1 - 1) = 0) else b2i (¬ s.2.2 (s.2.1 - 2) = 0 ∨ ¬ s.2.2 (s.2.1 - 1) = 0)) := hb2
                   rw [ev]
                   exact h9)
        · skip
          refine r_iload dX9_holds_72 rfl ?_
          refine r_iload dX9_holds_74 rfl ?_
          refine r_icmp_ne 83 dX9_holds_76 (by decide) (fun q76 => ?_) (fun q76 => ?_)
          · skip
            have hpush : vp_nar .boolean (0 : Int32) = cmM (mA S 44 (s.1 + 2)) (vlM S q (mA S 44 (s.1 + 1))) (mA S 44 (s.1 + 3)) := by unfold cmM; rw [if_pos q69, b2i_f q76]; rfl
            refine r_iconst (v := 0) dX9_holds_83 (by decide) ?_
            refine r_goto 127 dX9_holds_84 (by decide) ?_
            refine r_zast dX9_holds_127 rfl (show vp_in (nI s.2.1) 420 from vp_in_nI (by omega) (by omega)) ?_
            refine r_in4 dX9_holds_128 (show _ + Int32.ofInt 1 = _ + 1 from rfl) (Nat.le_of_ble_eq_true rfl) rfl ?_
            refine r_in3 dX9_holds_131 (show _ + Int32.ofInt 4 = _ + 4 from rfl) (Nat.le_of_ble_eq_true rfl) rfl ?_
            refine r_goto 9 dX9_holds_134 (by decide) ?_
            first
              | (have hb2 := hpush
                 have h9 := ih (some (.int (vlM S q (mA S 44 (s.1 + 1)))), some (.int (mA S 44 (s.1 + 3)))) trivial
                 rw [show hsN S q s = _ from if_pos q25] at h9
                 rw [nI_1 s.2.1, nI_4a, hnc, z52, setA_setA]
                 have ev : vp_nar .boolean _ = cmM (mA S 44 (s.1 + 2)) (vlM S q (mA S 44 (s.1 + 1))) (mA S 44 (s.1 + 3)) := hb2
                 rw [ev]
                 exact h9)
              | (have hb2 := hbin
                 have h9 := ih (a1, a2) trivial
                 rw [show hsN S q s = _ from if_neg q25] at h9
                 rw [nI_1 s.1, hn2, z52, setA_setA]
                 have ev : vp_nar .boolean _ = (if mA S 44 s.1 = 1 then b2i (¬ s.2.2 (s.2.1 - 2) = 0 ∧ ¬ s.2.2 (s.2.1 - 1) = 0) else b2i (¬ s.2.2 (s.2.1 - 2) = 0 ∨ ¬ s.2.2 (s.2.1 - 1) = 0)) := hb2
                 rw [ev]
                 exact h9)
          · skip
            have hpush : vp_nar .boolean (1 : Int32) = cmM (mA S 44 (s.1 + 2)) (vlM S q (mA S 44 (s.1 + 1))) (mA S 44 (s.1 + 3)) := by unfold cmM; rw [if_pos q69, b2i_t q76]; rfl
            refine r_iconst (v := 1) dX9_holds_79 (by decide) ?_
            refine r_goto 127 dX9_holds_80 (by decide) ?_
            refine r_zast dX9_holds_127 rfl (show vp_in (nI s.2.1) 420 from vp_in_nI (by omega) (by omega)) ?_
            refine r_in4 dX9_holds_128 (show _ + Int32.ofInt 1 = _ + 1 from rfl) (Nat.le_of_ble_eq_true rfl) rfl ?_
            refine r_in3 dX9_holds_131 (show _ + Int32.ofInt 4 = _ + 4 from rfl) (Nat.le_of_ble_eq_true rfl) rfl ?_
            refine r_goto 9 dX9_holds_134 (by decide) ?_
            first
              | (have hb2 := hpush
                 have h9 := ih (some (.int (vlM S q (mA S 44 (s.1 + 1)))), some (.int (mA S 44 (s.1 + 3)))) trivial
                 rw [show hsN S q s = _ from if_pos q25] at h9
                 rw [nI_1 s.2.1, nI_4a, hnc, z52, setA_setA]
                 have ev : vp_nar .boolean _ = cmM (mA S 44 (s.1 + 2)) (vlM S q (mA S 44 (s.1 + 1))) (mA S 44 (s.1 + 3)) := hb2
                 rw [ev]
                 exact h9)
              | (have hb2 := hbin
                 have h9 := ih (a1, a2) trivial
                 rw [show hsN S q s = _ from if_neg q25] at h9
                 rw [nI_1 s.1, hn2, z52, setA_setA]
                 have ev : vp_nar .boolean _ = (if mA S 44 s.1 = 1 then b2i (¬ s.2.2 (s.2.1 - 2) = 0 ∧ ¬ s.2.2 (s.2.1 - 1) = 0) else b2i (¬ s.2.2 (s.2.1 - 2) = 0 ∨ ¬ s.2.2 (s.2.1 - 1) = 0)) := hb2
                 rw [ev]
                 exact h9)
