/-! ===== the law, call by call ===== -/
set_option maxHeartbeats 1000000 in
theorem lw_shoal {p : Program} {l : Launch} {e : Env} {s : State} {m : MethodId} {below : List Frame} {meth : Method} {c : Code} {bs L i k n : Nat} {xs : Nat → Int32} {G : va_G} {cy : Nat → ClassId} {H : Heap} {locs : List Loc} {ls : Array Slot} {S T : HS} {ρ σ : Nat → Nat} {Z : State → Prop} (X : Cl p s m c bs) (hK : KK G cy s) (hX : va_X bs L xs s s.heap) (hbl : bs < s.heap.size) (hi : i + 6 ≤ L) (hL : L ≤ 3072) (hW : W2 G cy s ρ σ S T H locs) (hs : Sim S T) (hl : lv_has ls 4 [(3, .int (nI i)), (2, .ref (σ 2000)), (1, .ref (ρ 0)), (0, .ref bs)]) (h1 : k + 528 ≤ 600000) (h2 : n + 5808 ≤ 7302250)
    (h : ∀ (S' T' : HS) (ρ' σ' : Nat → Nat) (H' : Heap) (locs' : List Loc), Sim S' T' → W2 G cy s ρ' σ' S' T' H' locs' → ρ' 0 = ρ 0 → σ' 2000 = σ 2000 → W p l e room_1 s m #[Value.ref bs] below meth c H' locs' (k + 528) (n + 5808) Z (F0 m 861 ls [])) : W p l e room_1 s m #[Value.ref bs] below meth c H locs k n Z (F0 m 140 ls []) := by
  obtain ⟨hx, hb, hml, hown, hts⟩ := id X
  have hbA : ¬ (fun q : Nat => s.heap.size ≤ q) bs := Nat.not_le.mpr hbl
  have v1 : vp_in (nI i + 1) L := by rw [show nI i + 1 = nI (i + 1) from nI_add i 1]; exact vp_in_nI (by omega) (by omega)
  have v2 : vp_in (nI i + 2) L := by rw [show nI i + 2 = nI (i + 2) from nI_add i 2]; exact vp_in_nI (by omega) (by omega)
  have m0 : 0 ∈ sL S := shL_0 hs.1.F
  have m2 : 2000 ∈ sL T := hs.m.1
  refine lv_aload_n hx hb dL_law_140 rfl (lv_at hl 2 rfl) ?_
  refine lv_aload_n hx hb dL_law_141 rfl (lv_at hl 3 rfl) ?_
  refine lv_iload_n hx hb dL_law_142 rfl (lv_at hl 0 rfl) ?_
  refine lv_iconst (v := 1) hx hb dL_law_143 (by decide) ?_
  refine lv_iadd hx hb dL_law_144 ?_
  refine va_sld hx hb hX hbl hbA hW.2.2.2.2.2 v1 dL_law_145 ?_
  refine lv_aload_n hx hb dL_law_146 rfl (lv_at hl 3 rfl) ?_
  refine lv_iload_n hx hb dL_law_147 rfl (lv_at hl 0 rfl) ?_
  refine lv_iconst (v := 2) hx hb dL_law_148 (by decide) ?_
  refine lv_iadd hx hb dL_law_149 ?_
  refine va_sld hx hb hX hbl hbA hW.2.2.2.2.2 v2 dL_law_150 ?_
  refine law_call (As := [.int (xs (nI i + 1).toNatClampNeg), .int (xs (nI i + 2).toNatClampNeg)]) (rest := []) (o := 0) X hK hW dL_law_151 lm_L_13 rfl (c_X8_shoal (xs (nI i + 1).toNatClampNeg) (xs (nI i + 2).toNatClampNeg) S hs.1.F) rfl (fun _ => rfl) ⟨trivial, trivial, trivial⟩ m0 (Nat.le_of_ble_eq_true rfl) (by decide) (by omega) (by omega) hl.1 (fun r1 S1 ρ1 H1 locs1 q1 hρ1 hW1 => ?_)
  refine lv_aload_n hx hb dL_law_154 rfl (lv_at hl 1 rfl) ?_
  refine lv_aload_n hx hb dL_law_155 rfl (lv_at hl 3 rfl) ?_
  refine lv_iload_n hx hb dL_law_156 rfl (lv_at hl 0 rfl) ?_
  refine lv_iconst (v := 1) hx hb dL_law_157 (by decide) ?_
  refine lv_iadd hx hb dL_law_158 ?_
  refine va_sld hx hb hX hbl hbA hW1.2.2.2.2.2 v1 dL_law_159 ?_
  refine lv_aload_n hx hb dL_law_160 rfl (lv_at hl 3 rfl) ?_
  refine lv_iload_n hx hb dL_law_161 rfl (lv_at hl 0 rfl) ?_
  refine lv_iconst (v := 2) hx hb dL_law_162 (by decide) ?_
  refine lv_iadd hx hb dL_law_163 ?_
  refine va_sld hx hb hX hbl hbA hW1.2.2.2.2.2 v2 dL_law_164 ?_
  refine law_call (As := [.int (xs (nI i + 1).toNatClampNeg), .int (xs (nI i + 2).toNatClampNeg)]) (rest := [.int r1]) (o := 2000) X hK hW1.swap dL_law_165 lm_L_17 rfl (c_X9_shoal (xs (nI i + 1).toNatClampNeg) (xs (nI i + 2).toNatClampNeg) T hs.m) rfl (fun _ => rfl) ⟨trivial, trivial, trivial⟩ m2 (Nat.le_of_ble_eq_true rfl) (by decide) (by omega) (by omega) hl.1 (fun r2 T1 σ1 H2 locs2 q2 hσ1 hW2 => ?_)
  obtain ⟨er, hs2⟩ := st_shoal hs q1 q2
  refine lv_icmp_eq (tgt := 861) hx hb dL_law_168 (by decide) (fun _ => ?_) (fun z => absurd er z)
  refine W.widen (k := k + 528) (n := n + 5808) (by omega) (by omega) ?_
  exact h S1 T1 ρ1 σ1 H2 locs2 hs2 hW2.swap (hρ1 0 m0).1 (hσ1 2000 m2).1
set_option maxHeartbeats 1000000 in
theorem lw_open {p : Program} {l : Launch} {e : Env} {s : State} {m : MethodId} {below : List Frame} {meth : Method} {c : Code} {bs L i k n : Nat} {xs : Nat → Int32} {G : va_G} {cy : Nat → ClassId} {H : Heap} {locs : List Loc} {ls : Array Slot} {S T : HS} {ρ σ : Nat → Nat} {Z : State → Prop} (X : Cl p s m c bs) (hK : KK G cy s) (hX : va_X bs L xs s s.heap) (hbl : bs < s.heap.size) (hi : i + 6 ≤ L) (hL : L ≤ 3072) (hW : W2 G cy s ρ σ S T H locs) (hs : Sim S T) (hl : lv_has ls 4 [(3, .int (nI i)), (2, .ref (σ 2000)), (1, .ref (ρ 0)), (0, .ref bs)]) (h1 : k + 528 ≤ 600000) (h2 : n + 5808 ≤ 7302250)
    (h : ∀ (S' T' : HS) (ρ' σ' : Nat → Nat) (H' : Heap) (locs' : List Loc), Sim S' T' → W2 G cy s ρ' σ' S' T' H' locs' → ρ' 0 = ρ 0 → σ' 2000 = σ 2000 → W p l e room_1 s m #[Value.ref bs] below meth c H' locs' (k + 528) (n + 5808) Z (F0 m 861 ls [])) : W p l e room_1 s m #[Value.ref bs] below meth c H locs k n Z (F0 m 173 ls []) := by
  obtain ⟨hx, hb, hml, hown, hts⟩ := id X
  have hbA : ¬ (fun q : Nat => s.heap.size ≤ q) bs := Nat.not_le.mpr hbl
  have v1 : vp_in (nI i + 1) L := by rw [show nI i + 1 = nI (i + 1) from nI_add i 1]; exact vp_in_nI (by omega) (by omega)
  have v2 : vp_in (nI i + 2) L := by rw [show nI i + 2 = nI (i + 2) from nI_add i 2]; exact vp_in_nI (by omega) (by omega)
  have m0 : 0 ∈ sL S := shL_0 hs.1.F
  have m2 : 2000 ∈ sL T := hs.m.1
  refine lv_aload_n hx hb dL_law_173 rfl (lv_at hl 2 rfl) ?_
  refine lv_aload_n hx hb dL_law_174 rfl (lv_at hl 3 rfl) ?_
  refine lv_iload_n hx hb dL_law_175 rfl (lv_at hl 0 rfl) ?_
  refine lv_iconst (v := 1) hx hb dL_law_176 (by decide) ?_
  refine lv_iadd hx hb dL_law_177 ?_
  refine va_sld hx hb hX hbl hbA hW.2.2.2.2.2 v1 dL_law_178 ?_
  refine lv_aload_n hx hb dL_law_179 rfl (lv_at hl 3 rfl) ?_
  refine lv_iload_n hx hb dL_law_180 rfl (lv_at hl 0 rfl) ?_
  refine lv_iconst (v := 2) hx hb dL_law_181 (by decide) ?_
  refine lv_iadd hx hb dL_law_182 ?_
  refine va_sld hx hb hX hbl hbA hW.2.2.2.2.2 v2 dL_law_183 ?_
  refine law_bool hx hb dL_law_184 dL_law_187 dL_law_188 dL_law_191 ?_
  refine law_call (As := [.int (xs (nI i + 1).toNatClampNeg), .int (b2i (¬ (xs (nI i + 2).toNatClampNeg) = 0))]) (rest := []) (o := 0) X hK hW dL_law_192 lm_L_18 rfl (c_X8_open (xs (nI i + 1).toNatClampNeg) (b2i (¬ (xs (nI i + 2).toNatClampNeg) = 0)) S hs.1.F) rfl (fun _ => rfl) ⟨trivial, trivial, trivial⟩ m0 (Nat.le_of_ble_eq_true rfl) (by decide) (by omega) (by omega) hl.1 (fun r1 S1 ρ1 H1 locs1 q1 hρ1 hW1 => ?_)
  refine lv_aload_n hx hb dL_law_195 rfl (lv_at hl 1 rfl) ?_
  refine lv_aload_n hx hb dL_law_196 rfl (lv_at hl 3 rfl) ?_
  refine lv_iload_n hx hb dL_law_197 rfl (lv_at hl 0 rfl) ?_
  refine lv_iconst (v := 1) hx hb dL_law_198 (by decide) ?_
  refine lv_iadd hx hb dL_law_199 ?_
  refine va_sld hx hb hX hbl hbA hW1.2.2.2.2.2 v1 dL_law_200 ?_
  refine lv_aload_n hx hb dL_law_201 rfl (lv_at hl 3 rfl) ?_
  refine lv_iload_n hx hb dL_law_202 rfl (lv_at hl 0 rfl) ?_
  refine lv_iconst (v := 2) hx hb dL_law_203 (by decide) ?_
  refine lv_iadd hx hb dL_law_204 ?_
  refine va_sld hx hb hX hbl hbA hW1.2.2.2.2.2 v2 dL_law_205 ?_
  refine law_bool hx hb dL_law_206 dL_law_209 dL_law_210 dL_law_213 ?_
  refine law_call (As := [.int (xs (nI i + 1).toNatClampNeg), .int (b2i (¬ (xs (nI i + 2).toNatClampNeg) = 0))]) (rest := [.int r1]) (o := 2000) X hK hW1.swap dL_law_214 lm_L_22 rfl (c_X9_open (xs (nI i + 1).toNatClampNeg) (b2i (¬ (xs (nI i + 2).toNatClampNeg) = 0)) T hs.m) rfl (fun _ => rfl) ⟨trivial, trivial, trivial⟩ m2 (Nat.le_of_ble_eq_true rfl) (by decide) (by omega) (by omega) hl.1 (fun r2 T1 σ1 H2 locs2 q2 hσ1 hW2 => ?_)
  obtain ⟨er, hs2⟩ := st_open hs b2i_01 q1 q2
  refine lv_icmp_eq (tgt := 861) hx hb dL_law_217 (by decide) (fun _ => ?_) (fun z => absurd er z)
  refine W.widen (k := k + 528) (n := n + 5808) (by omega) (by omega) ?_
  exact h S1 T1 ρ1 σ1 H2 locs2 hs2 hW2.swap (hρ1 0 m0).1 (hσ1 2000 m2).1
set_option maxHeartbeats 1000000 in
theorem lw_drift {p : Program} {l : Launch} {e : Env} {s : State} {m : MethodId} {below : List Frame} {meth : Method} {c : Code} {bs L i k n : Nat} {xs : Nat → Int32} {G : va_G} {cy : Nat → ClassId} {H : Heap} {locs : List Loc} {ls : Array Slot} {S T : HS} {ρ σ : Nat → Nat} {Z : State → Prop} (X : Cl p s m c bs) (hK : KK G cy s) (hX : va_X bs L xs s s.heap) (hbl : bs < s.heap.size) (hi : i + 6 ≤ L) (hL : L ≤ 3072) (hW : W2 G cy s ρ σ S T H locs) (hs : Sim S T) (hl : lv_has ls 4 [(3, .int (nI i)), (2, .ref (σ 2000)), (1, .ref (ρ 0)), (0, .ref bs)]) (h1 : k + 528 ≤ 600000) (h2 : n + 5808 ≤ 7302250)
    (h : ∀ (S' T' : HS) (ρ' σ' : Nat → Nat) (H' : Heap) (locs' : List Loc), Sim S' T' → W2 G cy s ρ' σ' S' T' H' locs' → ρ' 0 = ρ 0 → σ' 2000 = σ 2000 → W p l e room_1 s m #[Value.ref bs] below meth c H' locs' (k + 528) (n + 5808) Z (F0 m 861 ls [])) : W p l e room_1 s m #[Value.ref bs] below meth c H locs k n Z (F0 m 222 ls []) := by
  obtain ⟨hx, hb, hml, hown, hts⟩ := id X
  have hbA : ¬ (fun q : Nat => s.heap.size ≤ q) bs := Nat.not_le.mpr hbl
  have v1 : vp_in (nI i + 1) L := by rw [show nI i + 1 = nI (i + 1) from nI_add i 1]; exact vp_in_nI (by omega) (by omega)
  have m0 : 0 ∈ sL S := shL_0 hs.1.F
  have m2 : 2000 ∈ sL T := hs.m.1
  refine lv_aload_n hx hb dL_law_222 rfl (lv_at hl 2 rfl) ?_
  refine lv_aload_n hx hb dL_law_223 rfl (lv_at hl 3 rfl) ?_
  refine lv_iload_n hx hb dL_law_224 rfl (lv_at hl 0 rfl) ?_
  refine lv_iconst (v := 1) hx hb dL_law_225 (by decide) ?_
  refine lv_iadd hx hb dL_law_226 ?_
  refine va_sld hx hb hX hbl hbA hW.2.2.2.2.2 v1 dL_law_227 ?_
  refine law_call (As := [.int (xs (nI i + 1).toNatClampNeg)]) (rest := []) (o := 0) X hK hW dL_law_228 lm_L_23 rfl (c_X8_drift (xs (nI i + 1).toNatClampNeg) S hs.1.F) rfl (fun _ => rfl) ⟨trivial, trivial⟩ m0 (Nat.le_of_ble_eq_true rfl) (by decide) (by omega) (by omega) hl.1 (fun r1 S1 ρ1 H1 locs1 q1 hρ1 hW1 => ?_)
  refine lv_aload_n hx hb dL_law_231 rfl (lv_at hl 1 rfl) ?_
  refine lv_aload_n hx hb dL_law_232 rfl (lv_at hl 3 rfl) ?_
  refine lv_iload_n hx hb dL_law_233 rfl (lv_at hl 0 rfl) ?_
  refine lv_iconst (v := 1) hx hb dL_law_234 (by decide) ?_
  refine lv_iadd hx hb dL_law_235 ?_
  refine va_sld hx hb hX hbl hbA hW1.2.2.2.2.2 v1 dL_law_236 ?_
  refine law_call (As := [.int (xs (nI i + 1).toNatClampNeg)]) (rest := [.int r1]) (o := 2000) X hK hW1.swap dL_law_237 lm_L_27 rfl (c_X9_drift (xs (nI i + 1).toNatClampNeg) T hs.m) rfl (fun _ => rfl) ⟨trivial, trivial⟩ m2 (Nat.le_of_ble_eq_true rfl) (by decide) (by omega) (by omega) hl.1 (fun r2 T1 σ1 H2 locs2 q2 hσ1 hW2 => ?_)
  obtain ⟨er, hs2⟩ := st_drift hs q1 q2
  refine lv_icmp_eq (tgt := 861) hx hb dL_law_240 (by decide) (fun _ => ?_) (fun z => absurd er z)
  refine W.widen (k := k + 528) (n := n + 5808) (by omega) (by omega) ?_
  exact h S1 T1 ρ1 σ1 H2 locs2 hs2 hW2.swap (hρ1 0 m0).1 (hσ1 2000 m2).1
set_option maxHeartbeats 1000000 in
theorem lw_boat {p : Program} {l : Launch} {e : Env} {s : State} {m : MethodId} {below : List Frame} {meth : Method} {c : Code} {bs L i k n : Nat} {xs : Nat → Int32} {G : va_G} {cy : Nat → ClassId} {H : Heap} {locs : List Loc} {ls : Array Slot} {S T : HS} {ρ σ : Nat → Nat} {Z : State → Prop} (X : Cl p s m c bs) (hK : KK G cy s) (hX : va_X bs L xs s s.heap) (hbl : bs < s.heap.size) (hi : i + 6 ≤ L) (hL : L ≤ 3072) (hW : W2 G cy s ρ σ S T H locs) (hs : Sim S T) (hl : lv_has ls 4 [(3, .int (nI i)), (2, .ref (σ 2000)), (1, .ref (ρ 0)), (0, .ref bs)]) (h1 : k + 528 ≤ 600000) (h2 : n + 5808 ≤ 7302250)
    (h : ∀ (S' T' : HS) (ρ' σ' : Nat → Nat) (H' : Heap) (locs' : List Loc), Sim S' T' → W2 G cy s ρ' σ' S' T' H' locs' → ρ' 0 = ρ 0 → σ' 2000 = σ 2000 → W p l e room_1 s m #[Value.ref bs] below meth c H' locs' (k + 528) (n + 5808) Z (F0 m 861 ls [])) : W p l e room_1 s m #[Value.ref bs] below meth c H locs k n Z (F0 m 245 ls []) := by
  obtain ⟨hx, hb, hml, hown, hts⟩ := id X
  have hbA : ¬ (fun q : Nat => s.heap.size ≤ q) bs := Nat.not_le.mpr hbl
  have v1 : vp_in (nI i + 1) L := by rw [show nI i + 1 = nI (i + 1) from nI_add i 1]; exact vp_in_nI (by omega) (by omega)
  have m0 : 0 ∈ sL S := shL_0 hs.1.F
  have m2 : 2000 ∈ sL T := hs.m.1
  refine lv_aload_n hx hb dL_law_245 rfl (lv_at hl 2 rfl) ?_
  refine lv_aload_n hx hb dL_law_246 rfl (lv_at hl 3 rfl) ?_
  refine lv_iload_n hx hb dL_law_247 rfl (lv_at hl 0 rfl) ?_
  refine lv_iconst (v := 1) hx hb dL_law_248 (by decide) ?_
  refine lv_iadd hx hb dL_law_249 ?_
  refine va_sld hx hb hX hbl hbA hW.2.2.2.2.2 v1 dL_law_250 ?_
  refine law_call (As := [.int (xs (nI i + 1).toNatClampNeg)]) (rest := []) (o := 0) X hK hW dL_law_251 lm_L_28 rfl (c_X8_boat (xs (nI i + 1).toNatClampNeg) S hs.1) rfl (fun _ => rfl) ⟨trivial, trivial⟩ m0 (Nat.le_of_ble_eq_true rfl) (by decide) (by omega) (by omega) hl.1 (fun r1 S1 ρ1 H1 locs1 q1 hρ1 hW1 => ?_)
  refine lv_aload_n hx hb dL_law_254 rfl (lv_at hl 1 rfl) ?_
  refine lv_aload_n hx hb dL_law_255 rfl (lv_at hl 3 rfl) ?_
  refine lv_iload_n hx hb dL_law_256 rfl (lv_at hl 0 rfl) ?_
  refine lv_iconst (v := 1) hx hb dL_law_257 (by decide) ?_
  refine lv_iadd hx hb dL_law_258 ?_
  refine va_sld hx hb hX hbl hbA hW1.2.2.2.2.2 v1 dL_law_259 ?_
  refine law_call (As := [.int (xs (nI i + 1).toNatClampNeg)]) (rest := [.int r1]) (o := 2000) X hK hW1.swap dL_law_260 lm_L_32 rfl (c_X9_boat (xs (nI i + 1).toNatClampNeg) T hs.m hs.rn.1) rfl (fun _ => rfl) ⟨trivial, trivial⟩ m2 (Nat.le_of_ble_eq_true rfl) (by decide) (by omega) (by omega) hl.1 (fun r2 T1 σ1 H2 locs2 q2 hσ1 hW2 => ?_)
  obtain ⟨er, hs2⟩ := st_boat hs q1 q2
  refine lv_icmp_eq (tgt := 861) hx hb dL_law_263 (by decide) (fun _ => ?_) (fun z => absurd er z)
  refine W.widen (k := k + 528) (n := n + 5808) (by omega) (by omega) ?_
  exact h S1 T1 ρ1 σ1 H2 locs2 hs2 hW2.swap (hρ1 0 m0).1 (hσ1 2000 m2).1
set_option maxHeartbeats 1000000 in
theorem lw_go {p : Program} {l : Launch} {e : Env} {s : State} {m : MethodId} {below : List Frame} {meth : Method} {c : Code} {bs L i k n : Nat} {xs : Nat → Int32} {G : va_G} {cy : Nat → ClassId} {H : Heap} {locs : List Loc} {ls : Array Slot} {S T : HS} {ρ σ : Nat → Nat} {Z : State → Prop} (X : Cl p s m c bs) (hK : KK G cy s) (hX : va_X bs L xs s s.heap) (hbl : bs < s.heap.size) (hi : i + 6 ≤ L) (hL : L ≤ 3072) (hW : W2 G cy s ρ σ S T H locs) (hs : Sim S T) (hl : lv_has ls 4 [(3, .int (nI i)), (2, .ref (σ 2000)), (1, .ref (ρ 0)), (0, .ref bs)]) (h1 : k + 528 ≤ 600000) (h2 : n + 5808 ≤ 7302250)
    (h : ∀ (S' T' : HS) (ρ' σ' : Nat → Nat) (H' : Heap) (locs' : List Loc), Sim S' T' → W2 G cy s ρ' σ' S' T' H' locs' → ρ' 0 = ρ 0 → σ' 2000 = σ 2000 → W p l e room_1 s m #[Value.ref bs] below meth c H' locs' (k + 528) (n + 5808) Z (F0 m 861 ls [])) : W p l e room_1 s m #[Value.ref bs] below meth c H locs k n Z (F0 m 268 ls []) := by
  obtain ⟨hx, hb, hml, hown, hts⟩ := id X
  have hbA : ¬ (fun q : Nat => s.heap.size ≤ q) bs := Nat.not_le.mpr hbl
  have v1 : vp_in (nI i + 1) L := by rw [show nI i + 1 = nI (i + 1) from nI_add i 1]; exact vp_in_nI (by omega) (by omega)
  have v2 : vp_in (nI i + 2) L := by rw [show nI i + 2 = nI (i + 2) from nI_add i 2]; exact vp_in_nI (by omega) (by omega)
  have m0 : 0 ∈ sL S := shL_0 hs.1.F
  have m2 : 2000 ∈ sL T := hs.m.1
  refine lv_aload_n hx hb dL_law_268 rfl (lv_at hl 2 rfl) ?_
  refine lv_aload_n hx hb dL_law_269 rfl (lv_at hl 3 rfl) ?_
  refine lv_iload_n hx hb dL_law_270 rfl (lv_at hl 0 rfl) ?_
  refine lv_iconst (v := 1) hx hb dL_law_271 (by decide) ?_
  refine lv_iadd hx hb dL_law_272 ?_
  refine va_sld hx hb hX hbl hbA hW.2.2.2.2.2 v1 dL_law_273 ?_
  refine lv_aload_n hx hb dL_law_274 rfl (lv_at hl 3 rfl) ?_
  refine lv_iload_n hx hb dL_law_275 rfl (lv_at hl 0 rfl) ?_
  refine lv_iconst (v := 2) hx hb dL_law_276 (by decide) ?_
  refine lv_iadd hx hb dL_law_277 ?_
  refine va_sld hx hb hX hbl hbA hW.2.2.2.2.2 v2 dL_law_278 ?_
  refine law_call (As := [.int (xs (nI i + 1).toNatClampNeg), .int (xs (nI i + 2).toNatClampNeg)]) (rest := []) (o := 0) X hK hW dL_law_279 lm_L_33 rfl (c_X8_go (xs (nI i + 1).toNatClampNeg) (xs (nI i + 2).toNatClampNeg) S hs.1) rfl (fun _ => rfl) ⟨trivial, trivial, trivial⟩ m0 (Nat.le_of_ble_eq_true rfl) (by decide) (by omega) (by omega) hl.1 (fun r1 S1 ρ1 H1 locs1 q1 hρ1 hW1 => ?_)
  refine lv_aload_n hx hb dL_law_282 rfl (lv_at hl 1 rfl) ?_
  refine lv_aload_n hx hb dL_law_283 rfl (lv_at hl 3 rfl) ?_
  refine lv_iload_n hx hb dL_law_284 rfl (lv_at hl 0 rfl) ?_
  refine lv_iconst (v := 1) hx hb dL_law_285 (by decide) ?_
  refine lv_iadd hx hb dL_law_286 ?_
  refine va_sld hx hb hX hbl hbA hW1.2.2.2.2.2 v1 dL_law_287 ?_
  refine lv_aload_n hx hb dL_law_288 rfl (lv_at hl 3 rfl) ?_
  refine lv_iload_n hx hb dL_law_289 rfl (lv_at hl 0 rfl) ?_
  refine lv_iconst (v := 2) hx hb dL_law_290 (by decide) ?_
  refine lv_iadd hx hb dL_law_291 ?_
  refine va_sld hx hb hX hbl hbA hW1.2.2.2.2.2 v2 dL_law_292 ?_
  refine law_call (As := [.int (xs (nI i + 1).toNatClampNeg), .int (xs (nI i + 2).toNatClampNeg)]) (rest := [.int r1]) (o := 2000) X hK hW1.swap dL_law_293 lm_L_36 rfl (c_X9_go (xs (nI i + 1).toNatClampNeg) (xs (nI i + 2).toNatClampNeg) T hs.m hs.rn.1) rfl (fun _ => rfl) ⟨trivial, trivial, trivial⟩ m2 (Nat.le_of_ble_eq_true rfl) (by decide) (by omega) (by omega) hl.1 (fun r2 T1 σ1 H2 locs2 q2 hσ1 hW2 => ?_)
  obtain ⟨er, hs2⟩ := st_go hs q1 q2
  refine lv_icmp_eq (tgt := 861) hx hb dL_law_296 (by decide) (fun _ => ?_) (fun z => absurd er z)
  refine W.widen (k := k + 528) (n := n + 5808) (by omega) (by omega) ?_
  exact h S1 T1 ρ1 σ1 H2 locs2 hs2 hW2.swap (hρ1 0 m0).1 (hσ1 2000 m2).1
set_option maxHeartbeats 1000000 in
theorem lw_mend {p : Program} {l : Launch} {e : Env} {s : State} {m : MethodId} {below : List Frame} {meth : Method} {c : Code} {bs L i k n : Nat} {xs : Nat → Int32} {G : va_G} {cy : Nat → ClassId} {H : Heap} {locs : List Loc} {ls : Array Slot} {S T : HS} {ρ σ : Nat → Nat} {Z : State → Prop} (X : Cl p s m c bs) (hK : KK G cy s) (hX : va_X bs L xs s s.heap) (hbl : bs < s.heap.size) (hi : i + 6 ≤ L) (hL : L ≤ 3072) (hW : W2 G cy s ρ σ S T H locs) (hs : Sim S T) (hl : lv_has ls 4 [(3, .int (nI i)), (2, .ref (σ 2000)), (1, .ref (ρ 0)), (0, .ref bs)]) (h1 : k + 528 ≤ 600000) (h2 : n + 5808 ≤ 7302250)
    (h : ∀ (S' T' : HS) (ρ' σ' : Nat → Nat) (H' : Heap) (locs' : List Loc), Sim S' T' → W2 G cy s ρ' σ' S' T' H' locs' → ρ' 0 = ρ 0 → σ' 2000 = σ 2000 → W p l e room_1 s m #[Value.ref bs] below meth c H' locs' (k + 528) (n + 5808) Z (F0 m 861 ls [])) : W p l e room_1 s m #[Value.ref bs] below meth c H locs k n Z (F0 m 301 ls []) := by
  obtain ⟨hx, hb, hml, hown, hts⟩ := id X
  have hbA : ¬ (fun q : Nat => s.heap.size ≤ q) bs := Nat.not_le.mpr hbl
  have v1 : vp_in (nI i + 1) L := by rw [show nI i + 1 = nI (i + 1) from nI_add i 1]; exact vp_in_nI (by omega) (by omega)
  have v2 : vp_in (nI i + 2) L := by rw [show nI i + 2 = nI (i + 2) from nI_add i 2]; exact vp_in_nI (by omega) (by omega)
  have m0 : 0 ∈ sL S := shL_0 hs.1.F
  have m2 : 2000 ∈ sL T := hs.m.1
  refine lv_aload_n hx hb dL_law_301 rfl (lv_at hl 2 rfl) ?_
  refine lv_aload_n hx hb dL_law_302 rfl (lv_at hl 3 rfl) ?_
  refine lv_iload_n hx hb dL_law_303 rfl (lv_at hl 0 rfl) ?_
  refine lv_iconst (v := 1) hx hb dL_law_304 (by decide) ?_
  refine lv_iadd hx hb dL_law_305 ?_
  refine va_sld hx hb hX hbl hbA hW.2.2.2.2.2 v1 dL_law_306 ?_
  refine lv_aload_n hx hb dL_law_307 rfl (lv_at hl 3 rfl) ?_
  refine lv_iload_n hx hb dL_law_308 rfl (lv_at hl 0 rfl) ?_
  refine lv_iconst (v := 2) hx hb dL_law_309 (by decide) ?_
  refine lv_iadd hx hb dL_law_310 ?_
  refine va_sld hx hb hX hbl hbA hW.2.2.2.2.2 v2 dL_law_311 ?_
  refine law_call (As := [.int (xs (nI i + 1).toNatClampNeg), .int (xs (nI i + 2).toNatClampNeg)]) (rest := []) (o := 0) X hK hW dL_law_312 lm_L_37 rfl (c_X8_mend (xs (nI i + 1).toNatClampNeg) (xs (nI i + 2).toNatClampNeg) S hs.1) rfl (fun _ => rfl) ⟨trivial, trivial, trivial⟩ m0 (Nat.le_of_ble_eq_true rfl) (by decide) (by omega) (by omega) hl.1 (fun r1 S1 ρ1 H1 locs1 q1 hρ1 hW1 => ?_)
  refine lv_aload_n hx hb dL_law_315 rfl (lv_at hl 1 rfl) ?_
  refine lv_aload_n hx hb dL_law_316 rfl (lv_at hl 3 rfl) ?_
  refine lv_iload_n hx hb dL_law_317 rfl (lv_at hl 0 rfl) ?_
  refine lv_iconst (v := 1) hx hb dL_law_318 (by decide) ?_
  refine lv_iadd hx hb dL_law_319 ?_
  refine va_sld hx hb hX hbl hbA hW1.2.2.2.2.2 v1 dL_law_320 ?_
  refine lv_aload_n hx hb dL_law_321 rfl (lv_at hl 3 rfl) ?_
  refine lv_iload_n hx hb dL_law_322 rfl (lv_at hl 0 rfl) ?_
  refine lv_iconst (v := 2) hx hb dL_law_323 (by decide) ?_
  refine lv_iadd hx hb dL_law_324 ?_
  refine va_sld hx hb hX hbl hbA hW1.2.2.2.2.2 v2 dL_law_325 ?_
  refine law_call (As := [.int (xs (nI i + 1).toNatClampNeg), .int (xs (nI i + 2).toNatClampNeg)]) (rest := [.int r1]) (o := 2000) X hK hW1.swap dL_law_326 lm_L_41 rfl (c_X9_mend (xs (nI i + 1).toNatClampNeg) (xs (nI i + 2).toNatClampNeg) T hs.m hs.rn.1) rfl (fun _ => rfl) ⟨trivial, trivial, trivial⟩ m2 (Nat.le_of_ble_eq_true rfl) (by decide) (by omega) (by omega) hl.1 (fun r2 T1 σ1 H2 locs2 q2 hσ1 hW2 => ?_)
  obtain ⟨er, hs2⟩ := st_mend hs q1 q2
  refine lv_icmp_eq (tgt := 861) hx hb dL_law_329 (by decide) (fun _ => ?_) (fun z => absurd er z)
  refine W.widen (k := k + 528) (n := n + 5808) (by omega) (by omega) ?_
  exact h S1 T1 ρ1 σ1 H2 locs2 hs2 hW2.swap (hρ1 0 m0).1 (hσ1 2000 m2).1
set_option maxHeartbeats 1000000 in
theorem lw_yard {p : Program} {l : Launch} {e : Env} {s : State} {m : MethodId} {below : List Frame} {meth : Method} {c : Code} {bs L i k n : Nat} {xs : Nat → Int32} {G : va_G} {cy : Nat → ClassId} {H : Heap} {locs : List Loc} {ls : Array Slot} {S T : HS} {ρ σ : Nat → Nat} {Z : State → Prop} (X : Cl p s m c bs) (hK : KK G cy s) (hX : va_X bs L xs s s.heap) (hbl : bs < s.heap.size) (hi : i + 6 ≤ L) (hL : L ≤ 3072) (hW : W2 G cy s ρ σ S T H locs) (hs : Sim S T) (hl : lv_has ls 4 [(3, .int (nI i)), (2, .ref (σ 2000)), (1, .ref (ρ 0)), (0, .ref bs)]) (h1 : k + 528 ≤ 600000) (h2 : n + 5808 ≤ 7302250)
    (h : ∀ (S' T' : HS) (ρ' σ' : Nat → Nat) (H' : Heap) (locs' : List Loc), Sim S' T' → W2 G cy s ρ' σ' S' T' H' locs' → ρ' 0 = ρ 0 → σ' 2000 = σ 2000 → W p l e room_1 s m #[Value.ref bs] below meth c H' locs' (k + 528) (n + 5808) Z (F0 m 861 ls [])) : W p l e room_1 s m #[Value.ref bs] below meth c H locs k n Z (F0 m 334 ls []) := by
  obtain ⟨hx, hb, hml, hown, hts⟩ := id X
  have hbA : ¬ (fun q : Nat => s.heap.size ≤ q) bs := Nat.not_le.mpr hbl
  have v1 : vp_in (nI i + 1) L := by rw [show nI i + 1 = nI (i + 1) from nI_add i 1]; exact vp_in_nI (by omega) (by omega)
  have v2 : vp_in (nI i + 2) L := by rw [show nI i + 2 = nI (i + 2) from nI_add i 2]; exact vp_in_nI (by omega) (by omega)
  have m0 : 0 ∈ sL S := shL_0 hs.1.F
  have m2 : 2000 ∈ sL T := hs.m.1
  refine lv_aload_n hx hb dL_law_334 rfl (lv_at hl 2 rfl) ?_
  refine lv_aload_n hx hb dL_law_335 rfl (lv_at hl 3 rfl) ?_
  refine lv_iload_n hx hb dL_law_336 rfl (lv_at hl 0 rfl) ?_
  refine lv_iconst (v := 1) hx hb dL_law_337 (by decide) ?_
  refine lv_iadd hx hb dL_law_338 ?_
  refine va_sld hx hb hX hbl hbA hW.2.2.2.2.2 v1 dL_law_339 ?_
  refine lv_aload_n hx hb dL_law_340 rfl (lv_at hl 3 rfl) ?_
  refine lv_iload_n hx hb dL_law_341 rfl (lv_at hl 0 rfl) ?_
  refine lv_iconst (v := 2) hx hb dL_law_342 (by decide) ?_
  refine lv_iadd hx hb dL_law_343 ?_
  refine va_sld hx hb hX hbl hbA hW.2.2.2.2.2 v2 dL_law_344 ?_
  refine law_call (As := [.int (xs (nI i + 1).toNatClampNeg), .int (xs (nI i + 2).toNatClampNeg)]) (rest := []) (o := 0) X hK hW dL_law_345 lm_L_42 rfl (c_X8_yard (xs (nI i + 1).toNatClampNeg) (xs (nI i + 2).toNatClampNeg) S hs.1) rfl (fun _ => rfl) ⟨trivial, trivial, trivial⟩ m0 (Nat.le_of_ble_eq_true rfl) (by decide) (by omega) (by omega) hl.1 (fun r1 S1 ρ1 H1 locs1 q1 hρ1 hW1 => ?_)
  refine lv_aload_n hx hb dL_law_348 rfl (lv_at hl 1 rfl) ?_
  refine lv_aload_n hx hb dL_law_349 rfl (lv_at hl 3 rfl) ?_
  refine lv_iload_n hx hb dL_law_350 rfl (lv_at hl 0 rfl) ?_
  refine lv_iconst (v := 1) hx hb dL_law_351 (by decide) ?_
  refine lv_iadd hx hb dL_law_352 ?_
  refine va_sld hx hb hX hbl hbA hW1.2.2.2.2.2 v1 dL_law_353 ?_
  refine lv_aload_n hx hb dL_law_354 rfl (lv_at hl 3 rfl) ?_
  refine lv_iload_n hx hb dL_law_355 rfl (lv_at hl 0 rfl) ?_
  refine lv_iconst (v := 2) hx hb dL_law_356 (by decide) ?_
  refine lv_iadd hx hb dL_law_357 ?_
  refine va_sld hx hb hX hbl hbA hW1.2.2.2.2.2 v2 dL_law_358 ?_
  refine law_call (As := [.int (xs (nI i + 1).toNatClampNeg), .int (xs (nI i + 2).toNatClampNeg)]) (rest := [.int r1]) (o := 2000) X hK hW1.swap dL_law_359 lm_L_45 rfl (c_X9_yard (xs (nI i + 1).toNatClampNeg) (xs (nI i + 2).toNatClampNeg) T hs.m hs.rn.2.1) rfl (fun _ => rfl) ⟨trivial, trivial, trivial⟩ m2 (Nat.le_of_ble_eq_true rfl) (by decide) (by omega) (by omega) hl.1 (fun r2 T1 σ1 H2 locs2 q2 hσ1 hW2 => ?_)
  obtain ⟨er, hs2⟩ := st_yard hs q1 q2
  refine lv_icmp_eq (tgt := 861) hx hb dL_law_362 (by decide) (fun _ => ?_) (fun z => absurd er z)
  refine W.widen (k := k + 528) (n := n + 5808) (by omega) (by omega) ?_
  exact h S1 T1 ρ1 σ1 H2 locs2 hs2 hW2.swap (hρ1 0 m0).1 (hσ1 2000 m2).1
set_option maxHeartbeats 1000000 in
theorem lw_bid {p : Program} {l : Launch} {e : Env} {s : State} {m : MethodId} {below : List Frame} {meth : Method} {c : Code} {bs L i k n : Nat} {xs : Nat → Int32} {G : va_G} {cy : Nat → ClassId} {H : Heap} {locs : List Loc} {ls : Array Slot} {S T : HS} {ρ σ : Nat → Nat} {Z : State → Prop} (X : Cl p s m c bs) (hK : KK G cy s) (hX : va_X bs L xs s s.heap) (hbl : bs < s.heap.size) (hi : i + 6 ≤ L) (hL : L ≤ 3072) (hW : W2 G cy s ρ σ S T H locs) (hs : Sim S T) (hl : lv_has ls 4 [(3, .int (nI i)), (2, .ref (σ 2000)), (1, .ref (ρ 0)), (0, .ref bs)]) (h1 : k + 528 ≤ 600000) (h2 : n + 5808 ≤ 7302250)
    (h : ∀ (S' T' : HS) (ρ' σ' : Nat → Nat) (H' : Heap) (locs' : List Loc), Sim S' T' → W2 G cy s ρ' σ' S' T' H' locs' → ρ' 0 = ρ 0 → σ' 2000 = σ 2000 → W p l e room_1 s m #[Value.ref bs] below meth c H' locs' (k + 528) (n + 5808) Z (F0 m 861 ls [])) : W p l e room_1 s m #[Value.ref bs] below meth c H locs k n Z (F0 m 367 ls []) := by
  obtain ⟨hx, hb, hml, hown, hts⟩ := id X
  have hbA : ¬ (fun q : Nat => s.heap.size ≤ q) bs := Nat.not_le.mpr hbl
  have v1 : vp_in (nI i + 1) L := by rw [show nI i + 1 = nI (i + 1) from nI_add i 1]; exact vp_in_nI (by omega) (by omega)
  have v2 : vp_in (nI i + 2) L := by rw [show nI i + 2 = nI (i + 2) from nI_add i 2]; exact vp_in_nI (by omega) (by omega)
  have m0 : 0 ∈ sL S := shL_0 hs.1.F
  have m2 : 2000 ∈ sL T := hs.m.1
  refine lv_aload_n hx hb dL_law_367 rfl (lv_at hl 2 rfl) ?_
  refine lv_aload_n hx hb dL_law_368 rfl (lv_at hl 3 rfl) ?_
  refine lv_iload_n hx hb dL_law_369 rfl (lv_at hl 0 rfl) ?_
  refine lv_iconst (v := 1) hx hb dL_law_370 (by decide) ?_
  refine lv_iadd hx hb dL_law_371 ?_
  refine va_sld hx hb hX hbl hbA hW.2.2.2.2.2 v1 dL_law_372 ?_
  refine lv_aload_n hx hb dL_law_373 rfl (lv_at hl 3 rfl) ?_
  refine lv_iload_n hx hb dL_law_374 rfl (lv_at hl 0 rfl) ?_
  refine lv_iconst (v := 2) hx hb dL_law_375 (by decide) ?_
  refine lv_iadd hx hb dL_law_376 ?_
  refine va_sld hx hb hX hbl hbA hW.2.2.2.2.2 v2 dL_law_377 ?_
  refine law_call (As := [.int (xs (nI i + 1).toNatClampNeg), .int (xs (nI i + 2).toNatClampNeg)]) (rest := []) (o := 0) X hK hW dL_law_378 lm_L_46 rfl (c_X8_bid (xs (nI i + 1).toNatClampNeg) (xs (nI i + 2).toNatClampNeg) S hs.1) rfl (fun _ => rfl) ⟨trivial, trivial, trivial⟩ m0 (Nat.le_of_ble_eq_true rfl) (by decide) (by omega) (by omega) hl.1 (fun r1 S1 ρ1 H1 locs1 q1 hρ1 hW1 => ?_)
  refine lv_aload_n hx hb dL_law_381 rfl (lv_at hl 1 rfl) ?_
  refine lv_aload_n hx hb dL_law_382 rfl (lv_at hl 3 rfl) ?_
  refine lv_iload_n hx hb dL_law_383 rfl (lv_at hl 0 rfl) ?_
  refine lv_iconst (v := 1) hx hb dL_law_384 (by decide) ?_
  refine lv_iadd hx hb dL_law_385 ?_
  refine va_sld hx hb hX hbl hbA hW1.2.2.2.2.2 v1 dL_law_386 ?_
  refine lv_aload_n hx hb dL_law_387 rfl (lv_at hl 3 rfl) ?_
  refine lv_iload_n hx hb dL_law_388 rfl (lv_at hl 0 rfl) ?_
  refine lv_iconst (v := 2) hx hb dL_law_389 (by decide) ?_
  refine lv_iadd hx hb dL_law_390 ?_
  refine va_sld hx hb hX hbl hbA hW1.2.2.2.2.2 v2 dL_law_391 ?_
  refine law_call (As := [.int (xs (nI i + 1).toNatClampNeg), .int (xs (nI i + 2).toNatClampNeg)]) (rest := [.int r1]) (o := 2000) X hK hW1.swap dL_law_392 lm_L_49 rfl (c_X9_bid (xs (nI i + 1).toNatClampNeg) (xs (nI i + 2).toNatClampNeg) T hs.m hs.rn.2.1) rfl (fun _ => rfl) ⟨trivial, trivial, trivial⟩ m2 (Nat.le_of_ble_eq_true rfl) (by decide) (by omega) (by omega) hl.1 (fun r2 T1 σ1 H2 locs2 q2 hσ1 hW2 => ?_)
  obtain ⟨er, hs2⟩ := st_bid hs q1 q2
  refine lv_icmp_eq (tgt := 861) hx hb dL_law_395 (by decide) (fun _ => ?_) (fun z => absurd er z)
  refine W.widen (k := k + 528) (n := n + 5808) (by omega) (by omega) ?_
  exact h S1 T1 ρ1 σ1 H2 locs2 hs2 hW2.swap (hρ1 0 m0).1 (hσ1 2000 m2).1
set_option maxHeartbeats 1000000 in
theorem lw_soft {p : Program} {l : Launch} {e : Env} {s : State} {m : MethodId} {below : List Frame} {meth : Method} {c : Code} {bs L i k n : Nat} {xs : Nat → Int32} {G : va_G} {cy : Nat → ClassId} {H : Heap} {locs : List Loc} {ls : Array Slot} {S T : HS} {ρ σ : Nat → Nat} {Z : State → Prop} (X : Cl p s m c bs) (hK : KK G cy s) (hX : va_X bs L xs s s.heap) (hbl : bs < s.heap.size) (hi : i + 6 ≤ L) (hL : L ≤ 3072) (hW : W2 G cy s ρ σ S T H locs) (hs : Sim S T) (hl : lv_has ls 4 [(3, .int (nI i)), (2, .ref (σ 2000)), (1, .ref (ρ 0)), (0, .ref bs)]) (h1 : k + 528 ≤ 600000) (h2 : n + 5808 ≤ 7302250)
    (h : ∀ (S' T' : HS) (ρ' σ' : Nat → Nat) (H' : Heap) (locs' : List Loc), Sim S' T' → W2 G cy s ρ' σ' S' T' H' locs' → ρ' 0 = ρ 0 → σ' 2000 = σ 2000 → W p l e room_1 s m #[Value.ref bs] below meth c H' locs' (k + 528) (n + 5808) Z (F0 m 861 ls [])) : W p l e room_1 s m #[Value.ref bs] below meth c H locs k n Z (F0 m 400 ls []) := by
  obtain ⟨hx, hb, hml, hown, hts⟩ := id X
  have hbA : ¬ (fun q : Nat => s.heap.size ≤ q) bs := Nat.not_le.mpr hbl
  have v1 : vp_in (nI i + 1) L := by rw [show nI i + 1 = nI (i + 1) from nI_add i 1]; exact vp_in_nI (by omega) (by omega)
  have m0 : 0 ∈ sL S := shL_0 hs.1.F
  have m2 : 2000 ∈ sL T := hs.m.1
  refine lv_aload_n hx hb dL_law_400 rfl (lv_at hl 2 rfl) ?_
  refine lv_aload_n hx hb dL_law_401 rfl (lv_at hl 3 rfl) ?_
  refine lv_iload_n hx hb dL_law_402 rfl (lv_at hl 0 rfl) ?_
  refine lv_iconst (v := 1) hx hb dL_law_403 (by decide) ?_
  refine lv_iadd hx hb dL_law_404 ?_
  refine va_sld hx hb hX hbl hbA hW.2.2.2.2.2 v1 dL_law_405 ?_
  refine law_call (As := [.int (xs (nI i + 1).toNatClampNeg)]) (rest := []) (o := 0) X hK hW dL_law_406 lm_L_50 rfl (c_X8_soft (xs (nI i + 1).toNatClampNeg) S hs.1.F) rfl (fun _ => rfl) ⟨trivial, trivial⟩ m0 (Nat.le_of_ble_eq_true rfl) (by decide) (by omega) (by omega) hl.1 (fun r1 S1 ρ1 H1 locs1 q1 hρ1 hW1 => ?_)
  refine lv_aload_n hx hb dL_law_409 rfl (lv_at hl 1 rfl) ?_
  refine lv_aload_n hx hb dL_law_410 rfl (lv_at hl 3 rfl) ?_
  refine lv_iload_n hx hb dL_law_411 rfl (lv_at hl 0 rfl) ?_
  refine lv_iconst (v := 1) hx hb dL_law_412 (by decide) ?_
  refine lv_iadd hx hb dL_law_413 ?_
  refine va_sld hx hb hX hbl hbA hW1.2.2.2.2.2 v1 dL_law_414 ?_
  refine law_call (As := [.int (xs (nI i + 1).toNatClampNeg)]) (rest := [.int r1]) (o := 2000) X hK hW1.swap dL_law_415 lm_L_53 rfl (c_X9_soft (xs (nI i + 1).toNatClampNeg) T hs.m) rfl (fun _ => rfl) ⟨trivial, trivial⟩ m2 (Nat.le_of_ble_eq_true rfl) (by decide) (by omega) (by omega) hl.1 (fun r2 T1 σ1 H2 locs2 q2 hσ1 hW2 => ?_)
  obtain ⟨er, hs2⟩ := st_soft hs q1 q2
  refine lv_icmp_eq (tgt := 861) hx hb dL_law_418 (by decide) (fun _ => ?_) (fun z => absurd er z)
  refine W.widen (k := k + 528) (n := n + 5808) (by omega) (by omega) ?_
  exact h S1 T1 ρ1 σ1 H2 locs2 hs2 hW2.swap (hρ1 0 m0).1 (hσ1 2000 m2).1
set_option maxHeartbeats 1000000 in
theorem lw_night {p : Program} {l : Launch} {e : Env} {s : State} {m : MethodId} {below : List Frame} {meth : Method} {c : Code} {bs L i k n : Nat} {xs : Nat → Int32} {G : va_G} {cy : Nat → ClassId} {H : Heap} {locs : List Loc} {ls : Array Slot} {S T : HS} {ρ σ : Nat → Nat} {Z : State → Prop} (X : Cl p s m c bs) (hK : KK G cy s) (hX : va_X bs L xs s s.heap) (hbl : bs < s.heap.size) (hi : i + 6 ≤ L) (hL : L ≤ 3072) (hW : W2 G cy s ρ σ S T H locs) (hs : Sim S T) (hl : lv_has ls 4 [(3, .int (nI i)), (2, .ref (σ 2000)), (1, .ref (ρ 0)), (0, .ref bs)]) (h1 : k + 528 ≤ 600000) (h2 : n + 5808 ≤ 7302250)
    (h : ∀ (S' T' : HS) (ρ' σ' : Nat → Nat) (H' : Heap) (locs' : List Loc), Sim S' T' → W2 G cy s ρ' σ' S' T' H' locs' → ρ' 0 = ρ 0 → σ' 2000 = σ 2000 → W p l e room_1 s m #[Value.ref bs] below meth c H' locs' (k + 528) (n + 5808) Z (F0 m 861 ls [])) : W p l e room_1 s m #[Value.ref bs] below meth c H locs k n Z (F0 m 423 ls []) := by
  obtain ⟨hx, hb, hml, hown, hts⟩ := id X
  have hbA : ¬ (fun q : Nat => s.heap.size ≤ q) bs := Nat.not_le.mpr hbl
  have v1 : vp_in (nI i + 1) L := by rw [show nI i + 1 = nI (i + 1) from nI_add i 1]; exact vp_in_nI (by omega) (by omega)
  have m0 : 0 ∈ sL S := shL_0 hs.1.F
  have m2 : 2000 ∈ sL T := hs.m.1
  refine lv_aload_n hx hb dL_law_423 rfl (lv_at hl 2 rfl) ?_
  refine lv_aload_n hx hb dL_law_424 rfl (lv_at hl 3 rfl) ?_
  refine lv_iload_n hx hb dL_law_425 rfl (lv_at hl 0 rfl) ?_
  refine lv_iconst (v := 1) hx hb dL_law_426 (by decide) ?_
  refine lv_iadd hx hb dL_law_427 ?_
  refine va_sld hx hb hX hbl hbA hW.2.2.2.2.2 v1 dL_law_428 ?_
  refine law_bool hx hb dL_law_429 dL_law_432 dL_law_433 dL_law_436 ?_
  refine law_call (As := [.int (b2i (¬ (xs (nI i + 1).toNatClampNeg) = 0))]) (rest := []) (o := 0) X hK hW dL_law_437 lm_L_54 rfl (c_X8_night (b2i (¬ (xs (nI i + 1).toNatClampNeg) = 0)) S hs.1 hs.invG) rfl (fun _ => rfl) ⟨trivial, trivial⟩ m0 (Nat.le_of_ble_eq_true rfl) (by decide) (by omega) (by omega) hl.1 (fun r1 S1 ρ1 H1 locs1 q1 hρ1 hW1 => ?_)
  refine lv_aload_n hx hb dL_law_440 rfl (lv_at hl 1 rfl) ?_
  refine lv_aload_n hx hb dL_law_441 rfl (lv_at hl 3 rfl) ?_
  refine lv_iload_n hx hb dL_law_442 rfl (lv_at hl 0 rfl) ?_
  refine lv_iconst (v := 1) hx hb dL_law_443 (by decide) ?_
  refine lv_iadd hx hb dL_law_444 ?_
  refine va_sld hx hb hX hbl hbA hW1.2.2.2.2.2 v1 dL_law_445 ?_
  refine law_bool hx hb dL_law_446 dL_law_449 dL_law_450 dL_law_453 ?_
  refine law_call (As := [.int (b2i (¬ (xs (nI i + 1).toNatClampNeg) = 0))]) (rest := [.int r1]) (o := 2000) X hK hW1.swap dL_law_454 lm_L_58 rfl (c_X9_night (b2i (¬ (xs (nI i + 1).toNatClampNeg) = 0)) T hs.m hs.rn.1 hs.rn.2.1 hs.rn.2.2.1 (fun b hb => (hs.2.2.1.2.2.2.1 b hb).1) (fun j hj => (hs.2.2.1.2.2.1 j hj).1) (fun b hb => (hs.2.2.1.2.2.2.1 b hb).2.1) (fun y hy => ((hs.2.2.1.2.2.2.2.2.1 y (by have := hs.rn.2.1; unfold nn at hy; omega)).2.1 hy).1) (fun q hq => ((hs.2.2.1.2.2.2.2.2.2 q (by have := hs.rn.2.2.1; unfold nn at hq; omega)).1 hq).2)) rfl (fun _ => rfl) ⟨trivial, trivial⟩ m2 (Nat.le_of_ble_eq_true rfl) (by decide) (by omega) (by omega) hl.1 (fun r2 T1 σ1 H2 locs2 q2 hσ1 hW2 => ?_)
  obtain ⟨er, hs2⟩ := st_night hs q1 q2
  refine lv_icmp_eq (tgt := 861) hx hb dL_law_457 (by decide) (fun _ => ?_) (fun z => absurd er z)
  refine W.widen (k := k + 528) (n := n + 5808) (by omega) (by omega) ?_
  exact h S1 T1 ρ1 σ1 H2 locs2 hs2 hW2.swap (hρ1 0 m0).1 (hσ1 2000 m2).1
set_option maxHeartbeats 1000000 in
theorem lw_feed {p : Program} {l : Launch} {e : Env} {s : State} {m : MethodId} {below : List Frame} {meth : Method} {c : Code} {bs L i k n : Nat} {xs : Nat → Int32} {G : va_G} {cy : Nat → ClassId} {H : Heap} {locs : List Loc} {ls : Array Slot} {S T : HS} {ρ σ : Nat → Nat} {Z : State → Prop} (X : Cl p s m c bs) (hK : KK G cy s) (hX : va_X bs L xs s s.heap) (hbl : bs < s.heap.size) (hi : i + 6 ≤ L) (hL : L ≤ 3072) (hW : W2 G cy s ρ σ S T H locs) (hs : Sim S T) (hl : lv_has ls 4 [(3, .int (nI i)), (2, .ref (σ 2000)), (1, .ref (ρ 0)), (0, .ref bs)]) (h1 : k + 528 ≤ 600000) (h2 : n + 5808 ≤ 7302250)
    (h : ∀ (S' T' : HS) (ρ' σ' : Nat → Nat) (H' : Heap) (locs' : List Loc), Sim S' T' → W2 G cy s ρ' σ' S' T' H' locs' → ρ' 0 = ρ 0 → σ' 2000 = σ 2000 → W p l e room_1 s m #[Value.ref bs] below meth c H' locs' (k + 528) (n + 5808) Z (F0 m 861 ls [])) : W p l e room_1 s m #[Value.ref bs] below meth c H locs k n Z (F0 m 462 ls []) := by
  obtain ⟨hx, hb, hml, hown, hts⟩ := id X
  have hbA : ¬ (fun q : Nat => s.heap.size ≤ q) bs := Nat.not_le.mpr hbl
  have v1 : vp_in (nI i + 1) L := by rw [show nI i + 1 = nI (i + 1) from nI_add i 1]; exact vp_in_nI (by omega) (by omega)
  have v2 : vp_in (nI i + 2) L := by rw [show nI i + 2 = nI (i + 2) from nI_add i 2]; exact vp_in_nI (by omega) (by omega)
  have v3 : vp_in (nI i + 3) L := by rw [show nI i + 3 = nI (i + 3) from nI_add i 3]; exact vp_in_nI (by omega) (by omega)
  have v4 : vp_in (nI i + 4) L := by rw [show nI i + 4 = nI (i + 4) from nI_add i 4]; exact vp_in_nI (by omega) (by omega)
  have v5 : vp_in (nI i + 5) L := by rw [show nI i + 5 = nI (i + 5) from nI_add i 5]; exact vp_in_nI (by omega) (by omega)
  have m0 : 0 ∈ sL S := shL_0 hs.1.F
  have m2 : 2000 ∈ sL T := hs.m.1
  refine lv_aload_n hx hb dL_law_462 rfl (lv_at hl 2 rfl) ?_
  refine lv_aload_n hx hb dL_law_463 rfl (lv_at hl 3 rfl) ?_
  refine lv_iload_n hx hb dL_law_464 rfl (lv_at hl 0 rfl) ?_
  refine lv_iconst (v := 1) hx hb dL_law_465 (by decide) ?_
  refine lv_iadd hx hb dL_law_466 ?_
  refine va_sld hx hb hX hbl hbA hW.2.2.2.2.2 v1 dL_law_467 ?_
  refine lv_aload_n hx hb dL_law_468 rfl (lv_at hl 3 rfl) ?_
  refine lv_iload_n hx hb dL_law_469 rfl (lv_at hl 0 rfl) ?_
  refine lv_iconst (v := 2) hx hb dL_law_470 (by decide) ?_
  refine lv_iadd hx hb dL_law_471 ?_
  refine va_sld hx hb hX hbl hbA hW.2.2.2.2.2 v2 dL_law_472 ?_
  refine lv_aload_n hx hb dL_law_473 rfl (lv_at hl 3 rfl) ?_
  refine lv_iload_n hx hb dL_law_474 rfl (lv_at hl 0 rfl) ?_
  refine lv_iconst (v := 3) hx hb dL_law_475 (by decide) ?_
  refine lv_iadd hx hb dL_law_476 ?_
  refine va_sld hx hb hX hbl hbA hW.2.2.2.2.2 v3 dL_law_477 ?_
  refine lv_aload_n hx hb dL_law_478 rfl (lv_at hl 3 rfl) ?_
  refine lv_iload_n hx hb dL_law_479 rfl (lv_at hl 0 rfl) ?_
  refine lv_iconst (v := 4) hx hb dL_law_480 (by decide) ?_
  refine lv_iadd hx hb dL_law_481 ?_
  refine va_sld hx hb hX hbl hbA hW.2.2.2.2.2 v4 dL_law_482 ?_
  refine lv_aload_n hx hb dL_law_483 rfl (lv_at hl 3 rfl) ?_
  refine lv_iload_n hx hb dL_law_484 rfl (lv_at hl 0 rfl) ?_
  refine lv_iconst (v := 5) hx hb dL_law_485 (by decide) ?_
  refine lv_iadd hx hb dL_law_486 ?_
  refine va_sld hx hb hX hbl hbA hW.2.2.2.2.2 v5 dL_law_487 ?_
  refine law_call (As := [.int (xs (nI i + 1).toNatClampNeg), .int (xs (nI i + 2).toNatClampNeg), .int (xs (nI i + 3).toNatClampNeg), .int (xs (nI i + 4).toNatClampNeg), .int (xs (nI i + 5).toNatClampNeg)]) (rest := []) (o := 0) X hK hW dL_law_488 lm_L_59 rfl (c_X8_feed (xs (nI i + 1).toNatClampNeg) (xs (nI i + 2).toNatClampNeg) (xs (nI i + 3).toNatClampNeg) (xs (nI i + 4).toNatClampNeg) (xs (nI i + 5).toNatClampNeg) S hs.1.F (hs.2.1 8)) rfl (fun _ => rfl) ⟨trivial, trivial, trivial, trivial, trivial, trivial⟩ m0 (Nat.le_of_ble_eq_true rfl) (by decide) (by omega) (by omega) hl.1 (fun r1 S1 ρ1 H1 locs1 q1 hρ1 hW1 => ?_)
  refine lv_aload_n hx hb dL_law_491 rfl (lv_at hl 1 rfl) ?_
  refine lv_aload_n hx hb dL_law_492 rfl (lv_at hl 3 rfl) ?_
  refine lv_iload_n hx hb dL_law_493 rfl (lv_at hl 0 rfl) ?_
  refine lv_iconst (v := 1) hx hb dL_law_494 (by decide) ?_
  refine lv_iadd hx hb dL_law_495 ?_
  refine va_sld hx hb hX hbl hbA hW1.2.2.2.2.2 v1 dL_law_496 ?_
  refine lv_aload_n hx hb dL_law_497 rfl (lv_at hl 3 rfl) ?_
  refine lv_iload_n hx hb dL_law_498 rfl (lv_at hl 0 rfl) ?_
  refine lv_iconst (v := 2) hx hb dL_law_499 (by decide) ?_
  refine lv_iadd hx hb dL_law_500 ?_
  refine va_sld hx hb hX hbl hbA hW1.2.2.2.2.2 v2 dL_law_501 ?_
  refine lv_aload_n hx hb dL_law_502 rfl (lv_at hl 3 rfl) ?_
  refine lv_iload_n hx hb dL_law_503 rfl (lv_at hl 0 rfl) ?_
  refine lv_iconst (v := 3) hx hb dL_law_504 (by decide) ?_
  refine lv_iadd hx hb dL_law_505 ?_
  refine va_sld hx hb hX hbl hbA hW1.2.2.2.2.2 v3 dL_law_506 ?_
  refine lv_aload_n hx hb dL_law_507 rfl (lv_at hl 3 rfl) ?_
  refine lv_iload_n hx hb dL_law_508 rfl (lv_at hl 0 rfl) ?_
  refine lv_iconst (v := 4) hx hb dL_law_509 (by decide) ?_
  refine lv_iadd hx hb dL_law_510 ?_
  refine va_sld hx hb hX hbl hbA hW1.2.2.2.2.2 v4 dL_law_511 ?_
  refine lv_aload_n hx hb dL_law_512 rfl (lv_at hl 3 rfl) ?_
  refine lv_iload_n hx hb dL_law_513 rfl (lv_at hl 0 rfl) ?_
  refine lv_iconst (v := 5) hx hb dL_law_514 (by decide) ?_
  refine lv_iadd hx hb dL_law_515 ?_
  refine va_sld hx hb hX hbl hbA hW1.2.2.2.2.2 v5 dL_law_516 ?_
  refine law_call (As := [.int (xs (nI i + 1).toNatClampNeg), .int (xs (nI i + 2).toNatClampNeg), .int (xs (nI i + 3).toNatClampNeg), .int (xs (nI i + 4).toNatClampNeg), .int (xs (nI i + 5).toNatClampNeg)]) (rest := [.int r1]) (o := 2000) X hK hW1.swap dL_law_517 lm_L_63 rfl (c_X9_feed (xs (nI i + 1).toNatClampNeg) (xs (nI i + 2).toNatClampNeg) (xs (nI i + 3).toNatClampNeg) (xs (nI i + 4).toNatClampNeg) (xs (nI i + 5).toNatClampNeg) T hs.m hs.rn.2.2.2.2.2.2) rfl (fun _ => rfl) ⟨trivial, trivial, trivial, trivial, trivial, trivial⟩ m2 (Nat.le_of_ble_eq_true rfl) (by decide) (by omega) (by omega) hl.1 (fun r2 T1 σ1 H2 locs2 q2 hσ1 hW2 => ?_)
  obtain ⟨er, hs2⟩ := st_feed hs q1 q2
  refine lv_icmp_eq (tgt := 861) hx hb dL_law_520 (by decide) (fun _ => ?_) (fun z => absurd er z)
  refine W.widen (k := k + 528) (n := n + 5808) (by omega) (by omega) ?_
  exact h S1 T1 ρ1 σ1 H2 locs2 hs2 hW2.swap (hρ1 0 m0).1 (hσ1 2000 m2).1
set_option maxHeartbeats 1000000 in
theorem lw_end {p : Program} {l : Launch} {e : Env} {s : State} {m : MethodId} {below : List Frame} {meth : Method} {c : Code} {bs L i k n : Nat} {xs : Nat → Int32} {G : va_G} {cy : Nat → ClassId} {H : Heap} {locs : List Loc} {ls : Array Slot} {S T : HS} {ρ σ : Nat → Nat} {Z : State → Prop} (X : Cl p s m c bs) (hK : KK G cy s) (hX : va_X bs L xs s s.heap) (hbl : bs < s.heap.size) (hi : i + 6 ≤ L) (hL : L ≤ 3072) (hW : W2 G cy s ρ σ S T H locs) (hs : Sim S T) (hl : lv_has ls 4 [(3, .int (nI i)), (2, .ref (σ 2000)), (1, .ref (ρ 0)), (0, .ref bs)]) (h1 : k + 528 ≤ 600000) (h2 : n + 5808 ≤ 7302250)
    (h : ∀ (S' T' : HS) (ρ' σ' : Nat → Nat) (H' : Heap) (locs' : List Loc), Sim S' T' → W2 G cy s ρ' σ' S' T' H' locs' → ρ' 0 = ρ 0 → σ' 2000 = σ 2000 → W p l e room_1 s m #[Value.ref bs] below meth c H' locs' (k + 528) (n + 5808) Z (F0 m 861 ls [])) : W p l e room_1 s m #[Value.ref bs] below meth c H locs k n Z (F0 m 525 ls []) := by
  obtain ⟨hx, hb, hml, hown, hts⟩ := id X
  have hbA : ¬ (fun q : Nat => s.heap.size ≤ q) bs := Nat.not_le.mpr hbl
  have v1 : vp_in (nI i + 1) L := by rw [show nI i + 1 = nI (i + 1) from nI_add i 1]; exact vp_in_nI (by omega) (by omega)
  have m0 : 0 ∈ sL S := shL_0 hs.1.F
  have m2 : 2000 ∈ sL T := hs.m.1
  refine lv_aload_n hx hb dL_law_525 rfl (lv_at hl 2 rfl) ?_
  refine lv_aload_n hx hb dL_law_526 rfl (lv_at hl 3 rfl) ?_
  refine lv_iload_n hx hb dL_law_527 rfl (lv_at hl 0 rfl) ?_
  refine lv_iconst (v := 1) hx hb dL_law_528 (by decide) ?_
  refine lv_iadd hx hb dL_law_529 ?_
  refine va_sld hx hb hX hbl hbA hW.2.2.2.2.2 v1 dL_law_530 ?_
  refine law_call (As := [.int (xs (nI i + 1).toNatClampNeg)]) (rest := []) (o := 0) X hK hW dL_law_531 lm_L_64 rfl (c_X8_end (xs (nI i + 1).toNatClampNeg) S hs.1.F) rfl (fun _ => rfl) ⟨trivial, trivial⟩ m0 (Nat.le_of_ble_eq_true rfl) (by decide) (by omega) (by omega) hl.1 (fun r1 S1 ρ1 H1 locs1 q1 hρ1 hW1 => ?_)
  refine lv_aload_n hx hb dL_law_534 rfl (lv_at hl 1 rfl) ?_
  refine lv_aload_n hx hb dL_law_535 rfl (lv_at hl 3 rfl) ?_
  refine lv_iload_n hx hb dL_law_536 rfl (lv_at hl 0 rfl) ?_
  refine lv_iconst (v := 1) hx hb dL_law_537 (by decide) ?_
  refine lv_iadd hx hb dL_law_538 ?_
  refine va_sld hx hb hX hbl hbA hW1.2.2.2.2.2 v1 dL_law_539 ?_
  refine law_call (As := [.int (xs (nI i + 1).toNatClampNeg)]) (rest := [.int r1]) (o := 2000) X hK hW1.swap dL_law_540 lm_L_67 rfl (c_X9_end (xs (nI i + 1).toNatClampNeg) T hs.m) rfl (fun _ => rfl) ⟨trivial, trivial⟩ m2 (Nat.le_of_ble_eq_true rfl) (by decide) (by omega) (by omega) hl.1 (fun r2 T1 σ1 H2 locs2 q2 hσ1 hW2 => ?_)
  obtain ⟨er, hs2⟩ := st_end hs q1 q2
  refine lv_icmp_eq (tgt := 861) hx hb dL_law_543 (by decide) (fun _ => ?_) (fun z => absurd er z)
  refine W.widen (k := k + 528) (n := n + 5808) (by omega) (by omega) ?_
  exact h S1 T1 ρ1 σ1 H2 locs2 hs2 hW2.swap (hρ1 0 m0).1 (hσ1 2000 m2).1
set_option maxHeartbeats 1000000 in
theorem lw_fault {p : Program} {l : Launch} {e : Env} {s : State} {m : MethodId} {below : List Frame} {meth : Method} {c : Code} {bs L i k n : Nat} {xs : Nat → Int32} {G : va_G} {cy : Nat → ClassId} {H : Heap} {locs : List Loc} {ls : Array Slot} {S T : HS} {ρ σ : Nat → Nat} {Z : State → Prop} (X : Cl p s m c bs) (hK : KK G cy s) (hX : va_X bs L xs s s.heap) (hbl : bs < s.heap.size) (hi : i + 6 ≤ L) (hL : L ≤ 3072) (hW : W2 G cy s ρ σ S T H locs) (hs : Sim S T) (hl : lv_has ls 4 [(3, .int (nI i)), (2, .ref (σ 2000)), (1, .ref (ρ 0)), (0, .ref bs)]) (h1 : k + 528 ≤ 600000) (h2 : n + 5808 ≤ 7302250)
    (h : ∀ (S' T' : HS) (ρ' σ' : Nat → Nat) (H' : Heap) (locs' : List Loc), Sim S' T' → W2 G cy s ρ' σ' S' T' H' locs' → ρ' 0 = ρ 0 → σ' 2000 = σ 2000 → W p l e room_1 s m #[Value.ref bs] below meth c H' locs' (k + 528) (n + 5808) Z (F0 m 861 ls [])) : W p l e room_1 s m #[Value.ref bs] below meth c H locs k n Z (F0 m 548 ls []) := by
  obtain ⟨hx, hb, hml, hown, hts⟩ := id X
  have hbA : ¬ (fun q : Nat => s.heap.size ≤ q) bs := Nat.not_le.mpr hbl
  have m0 : 0 ∈ sL S := shL_0 hs.1.F
  have m2 : 2000 ∈ sL T := hs.m.1
  refine lv_aload_n hx hb dL_law_548 rfl (lv_at hl 2 rfl) ?_
  refine law_call (As := []) (rest := []) (o := 0) X hK hW dL_law_549 lm_L_68 rfl (c_X8_fault S hs.1.F (hs.2.1 8)) rfl (fun _ => rfl) trivial m0 (Nat.le_of_ble_eq_true rfl) (by decide) (by omega) (by omega) hl.1 (fun r1 S1 ρ1 H1 locs1 q1 hρ1 hW1 => ?_)
  refine lv_aload_n hx hb dL_law_552 rfl (lv_at hl 1 rfl) ?_
  refine law_call (As := []) (rest := [.int r1]) (o := 2000) X hK hW1.swap dL_law_553 lm_L_72 rfl (c_X9_fault T hs.m hs.rn.2.2.2.2.2.2) rfl (fun _ => rfl) trivial m2 (Nat.le_of_ble_eq_true rfl) (by decide) (by omega) (by omega) hl.1 (fun r2 T1 σ1 H2 locs2 q2 hσ1 hW2 => ?_)
  obtain ⟨er, hs2⟩ := st_fault hs q1 q2
  refine lv_icmp_eq (tgt := 861) hx hb dL_law_556 (by decide) (fun _ => ?_) (fun z => absurd er z)
  refine W.widen (k := k + 528) (n := n + 5808) (by omega) (by omega) ?_
  exact h S1 T1 ρ1 σ1 H2 locs2 hs2 hW2.swap (hρ1 0 m0).1 (hσ1 2000 m2).1
set_option maxHeartbeats 1000000 in
theorem lw_brand {p : Program} {l : Launch} {e : Env} {s : State} {m : MethodId} {below : List Frame} {meth : Method} {c : Code} {bs L i k n : Nat} {xs : Nat → Int32} {G : va_G} {cy : Nat → ClassId} {H : Heap} {locs : List Loc} {ls : Array Slot} {S T : HS} {ρ σ : Nat → Nat} {Z : State → Prop} (X : Cl p s m c bs) (hK : KK G cy s) (hX : va_X bs L xs s s.heap) (hbl : bs < s.heap.size) (hi : i + 6 ≤ L) (hL : L ≤ 3072) (hW : W2 G cy s ρ σ S T H locs) (hs : Sim S T) (hl : lv_has ls 4 [(3, .int (nI i)), (2, .ref (σ 2000)), (1, .ref (ρ 0)), (0, .ref bs)]) (h1 : k + 528 ≤ 600000) (h2 : n + 5808 ≤ 7302250)
    (h : ∀ (S' T' : HS) (ρ' σ' : Nat → Nat) (H' : Heap) (locs' : List Loc), Sim S' T' → W2 G cy s ρ' σ' S' T' H' locs' → ρ' 0 = ρ 0 → σ' 2000 = σ 2000 → W p l e room_1 s m #[Value.ref bs] below meth c H' locs' (k + 528) (n + 5808) Z (F0 m 861 ls [])) : W p l e room_1 s m #[Value.ref bs] below meth c H locs k n Z (F0 m 561 ls []) := by
  obtain ⟨hx, hb, hml, hown, hts⟩ := id X
  have hbA : ¬ (fun q : Nat => s.heap.size ≤ q) bs := Nat.not_le.mpr hbl
  have v1 : vp_in (nI i + 1) L := by rw [show nI i + 1 = nI (i + 1) from nI_add i 1]; exact vp_in_nI (by omega) (by omega)
  have m0 : 0 ∈ sL S := shL_0 hs.1.F
  have m2 : 2000 ∈ sL T := hs.m.1
  refine lv_aload_n hx hb dL_law_561 rfl (lv_at hl 2 rfl) ?_
  refine lv_aload_n hx hb dL_law_562 rfl (lv_at hl 3 rfl) ?_
  refine lv_iload_n hx hb dL_law_563 rfl (lv_at hl 0 rfl) ?_
  refine lv_iconst (v := 1) hx hb dL_law_564 (by decide) ?_
  refine lv_iadd hx hb dL_law_565 ?_
  refine va_sld hx hb hX hbl hbA hW.2.2.2.2.2 v1 dL_law_566 ?_
  refine law_call (As := [.int (xs (nI i + 1).toNatClampNeg)]) (rest := []) (o := 0) X hK hW dL_law_567 lm_L_73 rfl (c_X8_brand (xs (nI i + 1).toNatClampNeg) S hs.1 (hs.2.1 8)) rfl (fun _ => rfl) ⟨trivial, trivial⟩ m0 (Nat.le_of_ble_eq_true rfl) (by decide) (by omega) (by omega) hl.1 (fun r1 S1 ρ1 H1 locs1 q1 hρ1 hW1 => ?_)
  refine lv_aload_n hx hb dL_law_570 rfl (lv_at hl 1 rfl) ?_
  refine lv_aload_n hx hb dL_law_571 rfl (lv_at hl 3 rfl) ?_
  refine lv_iload_n hx hb dL_law_572 rfl (lv_at hl 0 rfl) ?_
  refine lv_iconst (v := 1) hx hb dL_law_573 (by decide) ?_
  refine lv_iadd hx hb dL_law_574 ?_
  refine va_sld hx hb hX hbl hbA hW1.2.2.2.2.2 v1 dL_law_575 ?_
  by_cases ho : 0 ≤ (xs (nI i + 1).toNatClampNeg).toInt ∧ (xs (nI i + 1).toNatClampNeg).toInt ≤ 3
  · have hC := c_X9_brand (l := l) (G := G) (cy := cy) (nn (xs (nI i + 1).toNatClampNeg)) T hs.m hs.rn.2.2.2.2.2.2 (by unfold nn; omega)
    rw [nI_nn ho.1] at hC
    refine law_call (As := [.int (xs (nI i + 1).toNatClampNeg)]) (rest := [.int r1]) (o := 2000) X hK hW1.swap dL_law_576 lm_L_76 rfl hC rfl (fun _ => rfl) ⟨trivial, trivial⟩ m2 (Nat.le_of_ble_eq_true rfl) (by decide) (by omega) (by omega) hl.1 (fun r2 T1 σ1 H2 locs2 q2 hσ1 hW2 => ?_)
    obtain ⟨er, hs2⟩ := st_brand hs ho q1 q2 (fun w => brM_sh hs.m _ w)
    refine lv_icmp_eq (tgt := 861) hx hb dL_law_579 (by decide) (fun _ => ?_) (fun z => absurd er z)
    refine W.widen (k := k + 528) (n := n + 5808) (by omega) (by omega) ?_
    exact h S1 T1 ρ1 σ1 H2 locs2 hs2 hW2.swap (hρ1 0 m0).1 (hσ1 2000 m2).1
  · refine law_call (As := [.int (xs (nI i + 1).toNatClampNeg)]) (rest := [.int r1]) (o := 2000) X hK hW1.swap dL_law_576 lm_L_76 rfl (c_X9_brandN (xs (nI i + 1).toNatClampNeg) T hs.m hs.rn.2.2.2.2.2.2 ho) rfl (fun _ => rfl) ⟨trivial, trivial⟩ m2 (Nat.le_of_ble_eq_true rfl) (by decide) (by omega) (by omega) hl.1 (fun r2 T1 σ1 H2 locs2 q2 hσ1 hW2 => ?_)
    obtain ⟨er, hs2⟩ := st_brandN hs ho q1 q2
    refine lv_icmp_eq (tgt := 861) hx hb dL_law_579 (by decide) (fun _ => ?_) (fun z => absurd er z)
    refine W.widen (k := k + 528) (n := n + 5808) (by omega) (by omega) ?_
    exact h S1 T1 ρ1 σ1 H2 locs2 hs2 hW2.swap (hρ1 0 m0).1 (hσ1 2000 m2).1
set_option maxHeartbeats 1000000 in
theorem lw_judge {p : Program} {l : Launch} {e : Env} {s : State} {m : MethodId} {below : List Frame} {meth : Method} {c : Code} {bs L i k n : Nat} {xs : Nat → Int32} {G : va_G} {cy : Nat → ClassId} {H : Heap} {locs : List Loc} {ls : Array Slot} {S T : HS} {ρ σ : Nat → Nat} {Z : State → Prop} (X : Cl p s m c bs) (hK : KK G cy s) (hX : va_X bs L xs s s.heap) (hbl : bs < s.heap.size) (hi : i + 6 ≤ L) (hL : L ≤ 3072) (hW : W2 G cy s ρ σ S T H locs) (hs : Sim S T) (hl : lv_has ls 4 [(3, .int (nI i)), (2, .ref (σ 2000)), (1, .ref (ρ 0)), (0, .ref bs)]) (h1 : k + 528 ≤ 600000) (h2 : n + 5808 ≤ 7302250)
    (h : ∀ (S' T' : HS) (ρ' σ' : Nat → Nat) (H' : Heap) (locs' : List Loc), Sim S' T' → W2 G cy s ρ' σ' S' T' H' locs' → ρ' 0 = ρ 0 → σ' 2000 = σ 2000 → W p l e room_1 s m #[Value.ref bs] below meth c H' locs' (k + 528) (n + 5808) Z (F0 m 861 ls [])) : W p l e room_1 s m #[Value.ref bs] below meth c H locs k n Z (F0 m 584 ls []) := by
  obtain ⟨hx, hb, hml, hown, hts⟩ := id X
  have hbA : ¬ (fun q : Nat => s.heap.size ≤ q) bs := Nat.not_le.mpr hbl
  have v1 : vp_in (nI i + 1) L := by rw [show nI i + 1 = nI (i + 1) from nI_add i 1]; exact vp_in_nI (by omega) (by omega)
  have v2 : vp_in (nI i + 2) L := by rw [show nI i + 2 = nI (i + 2) from nI_add i 2]; exact vp_in_nI (by omega) (by omega)
  have m0 : 0 ∈ sL S := shL_0 hs.1.F
  have m2 : 2000 ∈ sL T := hs.m.1
  refine lv_aload_n hx hb dL_law_584 rfl (lv_at hl 2 rfl) ?_
  refine lv_aload_n hx hb dL_law_585 rfl (lv_at hl 3 rfl) ?_
  refine lv_iload_n hx hb dL_law_586 rfl (lv_at hl 0 rfl) ?_
  refine lv_iconst (v := 1) hx hb dL_law_587 (by decide) ?_
  refine lv_iadd hx hb dL_law_588 ?_
  refine va_sld hx hb hX hbl hbA hW.2.2.2.2.2 v1 dL_law_589 ?_
  refine lv_aload_n hx hb dL_law_590 rfl (lv_at hl 3 rfl) ?_
  refine lv_iload_n hx hb dL_law_591 rfl (lv_at hl 0 rfl) ?_
  refine lv_iconst (v := 2) hx hb dL_law_592 (by decide) ?_
  refine lv_iadd hx hb dL_law_593 ?_
  refine va_sld hx hb hX hbl hbA hW.2.2.2.2.2 v2 dL_law_594 ?_
  refine law_call (As := [.int (xs (nI i + 1).toNatClampNeg), .int (xs (nI i + 2).toNatClampNeg)]) (rest := []) (o := 0) X hK hW dL_law_595 lm_L_77 rfl (c_X8_judge (xs (nI i + 1).toNatClampNeg) (xs (nI i + 2).toNatClampNeg) S hs.1 hs.2.1) rfl (fun _ => rfl) ⟨trivial, trivial, trivial⟩ m0 (Nat.le_of_ble_eq_true rfl) (by decide) (by omega) (by omega) hl.1 (fun r1 S1 ρ1 H1 locs1 q1 hρ1 hW1 => ?_)
  refine lv_aload_n hx hb dL_law_598 rfl (lv_at hl 1 rfl) ?_
  refine lv_aload_n hx hb dL_law_599 rfl (lv_at hl 3 rfl) ?_
  refine lv_iload_n hx hb dL_law_600 rfl (lv_at hl 0 rfl) ?_
  refine lv_iconst (v := 1) hx hb dL_law_601 (by decide) ?_
  refine lv_iadd hx hb dL_law_602 ?_
  refine va_sld hx hb hX hbl hbA hW1.2.2.2.2.2 v1 dL_law_603 ?_
  refine lv_aload_n hx hb dL_law_604 rfl (lv_at hl 3 rfl) ?_
  refine lv_iload_n hx hb dL_law_605 rfl (lv_at hl 0 rfl) ?_
  refine lv_iconst (v := 2) hx hb dL_law_606 (by decide) ?_
  refine lv_iadd hx hb dL_law_607 ?_
  refine va_sld hx hb hX hbl hbA hW1.2.2.2.2.2 v2 dL_law_608 ?_
  by_cases ho : (0 ≤ (xs (nI i + 1).toNatClampNeg).toInt ∧ (xs (nI i + 1).toNatClampNeg).toInt ≤ 3) ∧ ¬ mA T 46 (xs (nI i + 1).toNatClampNeg).toNatClampNeg = 0 ∧ 0 ≤ (xs (nI i + 2).toNatClampNeg).toInt ∧ (xs (nI i + 2).toNatClampNeg).toInt < (mI T 27).toInt
  · have hC := c_X9_judge (l := l) (G := G) (cy := cy) (nn (xs (nI i + 1).toNatClampNeg)) (nn (xs (nI i + 2).toNatClampNeg)) T hs.m hs.rn.2.2.1 (by unfold nn; omega) (by unfold nn; omega) ho.2.1 hs.allE
    rw [nI_nn ho.1.1, nI_nn ho.2.2.1] at hC
    refine law_call (As := [.int (xs (nI i + 1).toNatClampNeg), .int (xs (nI i + 2).toNatClampNeg)]) (rest := [.int r1]) (o := 2000) X hK hW1.swap dL_law_609 lm_L_80 rfl hC rfl (fun _ => rfl) ⟨trivial, trivial, trivial⟩ m2 (Nat.le_of_ble_eq_true rfl) (by decide) (by omega) (by omega) hl.1 (fun r2 T1 σ1 H2 locs2 q2 hσ1 hW2 => ?_)
    obtain ⟨er, hs2⟩ := st_judge hs ho.1 ho.2.1 ho.2.2 q1 q2
    refine lv_icmp_eq (tgt := 861) hx hb dL_law_612 (by decide) (fun _ => ?_) (fun z => absurd er z)
    refine W.widen (k := k + 528) (n := n + 5808) (by omega) (by omega) ?_
    exact h S1 T1 ρ1 σ1 H2 locs2 hs2 hW2.swap (hρ1 0 m0).1 (hσ1 2000 m2).1
  · refine law_call (As := [.int (xs (nI i + 1).toNatClampNeg), .int (xs (nI i + 2).toNatClampNeg)]) (rest := [.int r1]) (o := 2000) X hK hW1.swap dL_law_609 lm_L_80 rfl (c_X9_judgeN (xs (nI i + 1).toNatClampNeg) (xs (nI i + 2).toNatClampNeg) T hs.m hs.rn.2.2.1 ho) rfl (fun _ => rfl) ⟨trivial, trivial, trivial⟩ m2 (Nat.le_of_ble_eq_true rfl) (by decide) (by omega) (by omega) hl.1 (fun r2 T1 σ1 H2 locs2 q2 hσ1 hW2 => ?_)
    obtain ⟨er, hs2⟩ := st_judgeN hs ho q1 q2
    refine lv_icmp_eq (tgt := 861) hx hb dL_law_612 (by decide) (fun _ => ?_) (fun z => absurd er z)
    refine W.widen (k := k + 528) (n := n + 5808) (by omega) (by omega) ?_
    exact h S1 T1 ρ1 σ1 H2 locs2 hs2 hW2.swap (hρ1 0 m0).1 (hσ1 2000 m2).1
set_option maxHeartbeats 1000000 in
theorem lw_branded {p : Program} {l : Launch} {e : Env} {s : State} {m : MethodId} {below : List Frame} {meth : Method} {c : Code} {bs L i k n : Nat} {xs : Nat → Int32} {G : va_G} {cy : Nat → ClassId} {H : Heap} {locs : List Loc} {ls : Array Slot} {S T : HS} {ρ σ : Nat → Nat} {Z : State → Prop} (X : Cl p s m c bs) (hK : KK G cy s) (hX : va_X bs L xs s s.heap) (hbl : bs < s.heap.size) (hi : i + 6 ≤ L) (hL : L ≤ 3072) (hW : W2 G cy s ρ σ S T H locs) (hs : Sim S T) (hl : lv_has ls 4 [(3, .int (nI i)), (2, .ref (σ 2000)), (1, .ref (ρ 0)), (0, .ref bs)]) (h1 : k + 528 ≤ 600000) (h2 : n + 5808 ≤ 7302250)
    (h : ∀ (S' T' : HS) (ρ' σ' : Nat → Nat) (H' : Heap) (locs' : List Loc), Sim S' T' → W2 G cy s ρ' σ' S' T' H' locs' → ρ' 0 = ρ 0 → σ' 2000 = σ 2000 → W p l e room_1 s m #[Value.ref bs] below meth c H' locs' (k + 528) (n + 5808) Z (F0 m 861 ls [])) : W p l e room_1 s m #[Value.ref bs] below meth c H locs k n Z (F0 m 617 ls []) := by
  obtain ⟨hx, hb, hml, hown, hts⟩ := id X
  have hbA : ¬ (fun q : Nat => s.heap.size ≤ q) bs := Nat.not_le.mpr hbl
  have v1 : vp_in (nI i + 1) L := by rw [show nI i + 1 = nI (i + 1) from nI_add i 1]; exact vp_in_nI (by omega) (by omega)
  have m0 : 0 ∈ sL S := shL_0 hs.1.F
  have m2 : 2000 ∈ sL T := hs.m.1
  refine lv_aload_n hx hb dL_law_617 rfl (lv_at hl 2 rfl) ?_
  refine lv_aload_n hx hb dL_law_618 rfl (lv_at hl 3 rfl) ?_
  refine lv_iload_n hx hb dL_law_619 rfl (lv_at hl 0 rfl) ?_
  refine lv_iconst (v := 1) hx hb dL_law_620 (by decide) ?_
  refine lv_iadd hx hb dL_law_621 ?_
  refine va_sld hx hb hX hbl hbA hW.2.2.2.2.2 v1 dL_law_622 ?_
  refine law_call (As := [.int (xs (nI i + 1).toNatClampNeg)]) (rest := []) (o := 0) X hK hW dL_law_623 lm_L_81 rfl (c_X8_branded (xs (nI i + 1).toNatClampNeg) S hs.1 hs.2.1) rfl (fun _ => rfl) ⟨trivial, trivial⟩ m0 (Nat.le_of_ble_eq_true rfl) (by decide) (by omega) (by omega) hl.1 (fun r1 S1 ρ1 H1 locs1 q1 hρ1 hW1 => ?_)
  refine lv_aload_n hx hb dL_law_626 rfl (lv_at hl 1 rfl) ?_
  refine lv_aload_n hx hb dL_law_627 rfl (lv_at hl 3 rfl) ?_
  refine lv_iload_n hx hb dL_law_628 rfl (lv_at hl 0 rfl) ?_
  refine lv_iconst (v := 1) hx hb dL_law_629 (by decide) ?_
  refine lv_iadd hx hb dL_law_630 ?_
  refine va_sld hx hb hX hbl hbA hW1.2.2.2.2.2 v1 dL_law_631 ?_
  by_cases ho : 0 ≤ (xs (nI i + 1).toNatClampNeg).toInt ∧ (xs (nI i + 1).toNatClampNeg).toInt < (mI T 27).toInt
  · have hC := c_X9_branded (l := l) (G := G) (cy := cy) (nn (xs (nI i + 1).toNatClampNeg)) T hs.m hs.rn.2.2.1 (by unfold nn; omega) hs.allE
    rw [nI_nn ho.1] at hC
    refine law_call (As := [.int (xs (nI i + 1).toNatClampNeg)]) (rest := [.int r1]) (o := 2000) X hK hW1.swap dL_law_632 lm_L_84 rfl hC rfl (fun _ => rfl) ⟨trivial, trivial⟩ m2 (Nat.le_of_ble_eq_true rfl) (by decide) (by omega) (by omega) hl.1 (fun r2 T1 σ1 H2 locs2 q2 hσ1 hW2 => ?_)
    obtain ⟨er, hs2⟩ := st_branded hs ho q1 q2
    refine lv_icmp_eq (tgt := 861) hx hb dL_law_635 (by decide) (fun _ => ?_) (fun z => absurd er z)
    refine W.widen (k := k + 528) (n := n + 5808) (by omega) (by omega) ?_
    exact h S1 T1 ρ1 σ1 H2 locs2 hs2 hW2.swap (hρ1 0 m0).1 (hσ1 2000 m2).1
  · refine law_call (As := [.int (xs (nI i + 1).toNatClampNeg)]) (rest := [.int r1]) (o := 2000) X hK hW1.swap dL_law_632 lm_L_84 rfl (c_X9_brandedN (xs (nI i + 1).toNatClampNeg) T hs.m hs.rn.2.2.1 ho) rfl (fun _ => rfl) ⟨trivial, trivial⟩ m2 (Nat.le_of_ble_eq_true rfl) (by decide) (by omega) (by omega) hl.1 (fun r2 T1 σ1 H2 locs2 q2 hσ1 hW2 => ?_)
    obtain ⟨er, hs2⟩ := st_brandedN hs ho q1 q2
    refine lv_icmp_eq (tgt := 861) hx hb dL_law_635 (by decide) (fun _ => ?_) (fun z => absurd er z)
    refine W.widen (k := k + 528) (n := n + 5808) (by omega) (by omega) ?_
    exact h S1 T1 ρ1 σ1 H2 locs2 hs2 hW2.swap (hρ1 0 m0).1 (hσ1 2000 m2).1
set_option maxHeartbeats 1000000 in
theorem lw_share {p : Program} {l : Launch} {e : Env} {s : State} {m : MethodId} {below : List Frame} {meth : Method} {c : Code} {bs L i k n : Nat} {xs : Nat → Int32} {G : va_G} {cy : Nat → ClassId} {H : Heap} {locs : List Loc} {ls : Array Slot} {S T : HS} {ρ σ : Nat → Nat} {Z : State → Prop} (X : Cl p s m c bs) (hK : KK G cy s) (hX : va_X bs L xs s s.heap) (hbl : bs < s.heap.size) (hi : i + 6 ≤ L) (hL : L ≤ 3072) (hW : W2 G cy s ρ σ S T H locs) (hs : Sim S T) (hl : lv_has ls 4 [(3, .int (nI i)), (2, .ref (σ 2000)), (1, .ref (ρ 0)), (0, .ref bs)]) (h1 : k + 528 ≤ 600000) (h2 : n + 5808 ≤ 7302250)
    (h : ∀ (S' T' : HS) (ρ' σ' : Nat → Nat) (H' : Heap) (locs' : List Loc), Sim S' T' → W2 G cy s ρ' σ' S' T' H' locs' → ρ' 0 = ρ 0 → σ' 2000 = σ 2000 → W p l e room_1 s m #[Value.ref bs] below meth c H' locs' (k + 528) (n + 5808) Z (F0 m 861 ls [])) : W p l e room_1 s m #[Value.ref bs] below meth c H locs k n Z (F0 m 640 ls []) := by
  obtain ⟨hx, hb, hml, hown, hts⟩ := id X
  have hbA : ¬ (fun q : Nat => s.heap.size ≤ q) bs := Nat.not_le.mpr hbl
  have v1 : vp_in (nI i + 1) L := by rw [show nI i + 1 = nI (i + 1) from nI_add i 1]; exact vp_in_nI (by omega) (by omega)
  have v2 : vp_in (nI i + 2) L := by rw [show nI i + 2 = nI (i + 2) from nI_add i 2]; exact vp_in_nI (by omega) (by omega)
  have v3 : vp_in (nI i + 3) L := by rw [show nI i + 3 = nI (i + 3) from nI_add i 3]; exact vp_in_nI (by omega) (by omega)
  have m0 : 0 ∈ sL S := shL_0 hs.1.F
  have m2 : 2000 ∈ sL T := hs.m.1
  refine lv_aload_n hx hb dL_law_640 rfl (lv_at hl 2 rfl) ?_
  refine lv_aload_n hx hb dL_law_641 rfl (lv_at hl 3 rfl) ?_
  refine lv_iload_n hx hb dL_law_642 rfl (lv_at hl 0 rfl) ?_
  refine lv_iconst (v := 1) hx hb dL_law_643 (by decide) ?_
  refine lv_iadd hx hb dL_law_644 ?_
  refine va_sld hx hb hX hbl hbA hW.2.2.2.2.2 v1 dL_law_645 ?_
  refine lv_aload_n hx hb dL_law_646 rfl (lv_at hl 3 rfl) ?_
  refine lv_iload_n hx hb dL_law_647 rfl (lv_at hl 0 rfl) ?_
  refine lv_iconst (v := 2) hx hb dL_law_648 (by decide) ?_
  refine lv_iadd hx hb dL_law_649 ?_
  refine va_sld hx hb hX hbl hbA hW.2.2.2.2.2 v2 dL_law_650 ?_
  refine lv_aload_n hx hb dL_law_651 rfl (lv_at hl 3 rfl) ?_
  refine lv_iload_n hx hb dL_law_652 rfl (lv_at hl 0 rfl) ?_
  refine lv_iconst (v := 3) hx hb dL_law_653 (by decide) ?_
  refine lv_iadd hx hb dL_law_654 ?_
  refine va_sld hx hb hX hbl hbA hW.2.2.2.2.2 v3 dL_law_655 ?_
  refine law_call (As := [.int (xs (nI i + 1).toNatClampNeg), .int (xs (nI i + 2).toNatClampNeg), .int (xs (nI i + 3).toNatClampNeg)]) (rest := []) (o := 0) X hK hW dL_law_656 lm_L_85 rfl (c_X8_share (xs (nI i + 1).toNatClampNeg) (xs (nI i + 2).toNatClampNeg) (xs (nI i + 3).toNatClampNeg) S hs.1) rfl (fun _ => rfl) ⟨trivial, trivial, trivial, trivial⟩ m0 (Nat.le_of_ble_eq_true rfl) (by decide) (by omega) (by omega) hl.1 (fun r1 S1 ρ1 H1 locs1 q1 hρ1 hW1 => ?_)
  refine lv_aload_n hx hb dL_law_659 rfl (lv_at hl 1 rfl) ?_
  refine lv_aload_n hx hb dL_law_660 rfl (lv_at hl 3 rfl) ?_
  refine lv_iload_n hx hb dL_law_661 rfl (lv_at hl 0 rfl) ?_
  refine lv_iconst (v := 1) hx hb dL_law_662 (by decide) ?_
  refine lv_iadd hx hb dL_law_663 ?_
  refine va_sld hx hb hX hbl hbA hW1.2.2.2.2.2 v1 dL_law_664 ?_
  refine lv_aload_n hx hb dL_law_665 rfl (lv_at hl 3 rfl) ?_
  refine lv_iload_n hx hb dL_law_666 rfl (lv_at hl 0 rfl) ?_
  refine lv_iconst (v := 2) hx hb dL_law_667 (by decide) ?_
  refine lv_iadd hx hb dL_law_668 ?_
  refine va_sld hx hb hX hbl hbA hW1.2.2.2.2.2 v2 dL_law_669 ?_
  refine lv_aload_n hx hb dL_law_670 rfl (lv_at hl 3 rfl) ?_
  refine lv_iload_n hx hb dL_law_671 rfl (lv_at hl 0 rfl) ?_
  refine lv_iconst (v := 3) hx hb dL_law_672 (by decide) ?_
  refine lv_iadd hx hb dL_law_673 ?_
  refine va_sld hx hb hX hbl hbA hW1.2.2.2.2.2 v3 dL_law_674 ?_
  refine law_call (As := [.int (xs (nI i + 1).toNatClampNeg), .int (xs (nI i + 2).toNatClampNeg), .int (xs (nI i + 3).toNatClampNeg)]) (rest := [.int r1]) (o := 2000) X hK hW1.swap dL_law_675 lm_L_89 rfl (c_X9_share (xs (nI i + 1).toNatClampNeg) (xs (nI i + 2).toNatClampNeg) (xs (nI i + 3).toNatClampNeg) T hs.m hs.rn.1) rfl (fun _ => rfl) ⟨trivial, trivial, trivial, trivial⟩ m2 (Nat.le_of_ble_eq_true rfl) (by decide) (by omega) (by omega) hl.1 (fun r2 T1 σ1 H2 locs2 q2 hσ1 hW2 => ?_)
  obtain ⟨er, hs2⟩ := st_share hs q1 q2
  refine lv_icmp_eq (tgt := 861) hx hb dL_law_678 (by decide) (fun _ => ?_) (fun z => absurd er z)
  refine W.widen (k := k + 528) (n := n + 5808) (by omega) (by omega) ?_
  exact h S1 T1 ρ1 σ1 H2 locs2 hs2 hW2.swap (hρ1 0 m0).1 (hσ1 2000 m2).1
set_option maxHeartbeats 1000000 in
theorem lw_settle {p : Program} {l : Launch} {e : Env} {s : State} {m : MethodId} {below : List Frame} {meth : Method} {c : Code} {bs L i k n : Nat} {xs : Nat → Int32} {G : va_G} {cy : Nat → ClassId} {H : Heap} {locs : List Loc} {ls : Array Slot} {S T : HS} {ρ σ : Nat → Nat} {Z : State → Prop} (X : Cl p s m c bs) (hK : KK G cy s) (hX : va_X bs L xs s s.heap) (hbl : bs < s.heap.size) (hi : i + 6 ≤ L) (hL : L ≤ 3072) (hW : W2 G cy s ρ σ S T H locs) (hs : Sim S T) (hl : lv_has ls 4 [(3, .int (nI i)), (2, .ref (σ 2000)), (1, .ref (ρ 0)), (0, .ref bs)]) (h1 : k + 528 ≤ 600000) (h2 : n + 5808 ≤ 7302250)
    (h : ∀ (S' T' : HS) (ρ' σ' : Nat → Nat) (H' : Heap) (locs' : List Loc), Sim S' T' → W2 G cy s ρ' σ' S' T' H' locs' → ρ' 0 = ρ 0 → σ' 2000 = σ 2000 → W p l e room_1 s m #[Value.ref bs] below meth c H' locs' (k + 528) (n + 5808) Z (F0 m 861 ls [])) : W p l e room_1 s m #[Value.ref bs] below meth c H locs k n Z (F0 m 683 ls []) := by
  obtain ⟨hx, hb, hml, hown, hts⟩ := id X
  have hbA : ¬ (fun q : Nat => s.heap.size ≤ q) bs := Nat.not_le.mpr hbl
  have v1 : vp_in (nI i + 1) L := by rw [show nI i + 1 = nI (i + 1) from nI_add i 1]; exact vp_in_nI (by omega) (by omega)
  have m0 : 0 ∈ sL S := shL_0 hs.1.F
  have m2 : 2000 ∈ sL T := hs.m.1
  refine lv_aload_n hx hb dL_law_683 rfl (lv_at hl 2 rfl) ?_
  refine lv_aload_n hx hb dL_law_684 rfl (lv_at hl 3 rfl) ?_
  refine lv_iload_n hx hb dL_law_685 rfl (lv_at hl 0 rfl) ?_
  refine lv_iconst (v := 1) hx hb dL_law_686 (by decide) ?_
  refine lv_iadd hx hb dL_law_687 ?_
  refine va_sld hx hb hX hbl hbA hW.2.2.2.2.2 v1 dL_law_688 ?_
  refine law_call (As := [.int (xs (nI i + 1).toNatClampNeg)]) (rest := []) (o := 0) X hK hW dL_law_689 lm_L_90 rfl (c_X8_settle (xs (nI i + 1).toNatClampNeg) S hs.1) rfl (fun _ => rfl) ⟨trivial, trivial⟩ m0 (Nat.le_of_ble_eq_true rfl) (by decide) (by omega) (by omega) hl.1 (fun r1 S1 ρ1 H1 locs1 q1 hρ1 hW1 => ?_)
  refine lv_aload_n hx hb dL_law_692 rfl (lv_at hl 1 rfl) ?_
  refine lv_aload_n hx hb dL_law_693 rfl (lv_at hl 3 rfl) ?_
  refine lv_iload_n hx hb dL_law_694 rfl (lv_at hl 0 rfl) ?_
  refine lv_iconst (v := 1) hx hb dL_law_695 (by decide) ?_
  refine lv_iadd hx hb dL_law_696 ?_
  refine va_sld hx hb hX hbl hbA hW1.2.2.2.2.2 v1 dL_law_697 ?_
  by_cases ho : 0 ≤ (xs (nI i + 1).toNatClampNeg).toInt ∧ (xs (nI i + 1).toNatClampNeg).toInt < (mI T 25).toInt
  · have r25 := hs.rn.1
    have h12 : nn (xs (nI i + 1).toNatClampNeg) < 12 := by unfold nn; omega
    have hC := c_X9_settle (l := l) (G := G) (cy := cy) (nn (xs (nI i + 1).toNatClampNeg)) T hs.m hs.rn.1 (by rw [nn_int ho.1]; exact ho.2) (fun j hj => by
      have := (hs.2.2.1.2.2.2.2.1 (j / 8) (by omega) (j % 8) (by omega)).1
      rw [show 8 * (j / 8) + j % 8 = j by omega] at this
      exact this) (hs.2.2.1.2.2.2.1 _ h12).2.2.1.1
    rw [nI_nn ho.1] at hC
    refine law_call (As := [.int (xs (nI i + 1).toNatClampNeg)]) (rest := [.int r1]) (o := 2000) X hK hW1.swap dL_law_698 lm_L_93 rfl hC rfl (fun _ => rfl) ⟨trivial, trivial⟩ m2 (Nat.le_of_ble_eq_true rfl) (by decide) (by omega) (by omega) hl.1 (fun r2 T1 σ1 H2 locs2 q2 hσ1 hW2 => ?_)
    obtain ⟨er, hs2⟩ := st_settle hs ho q1 q2
    refine lv_icmp_eq (tgt := 861) hx hb dL_law_701 (by decide) (fun _ => ?_) (fun z => absurd er z)
    refine W.widen (k := k + 528) (n := n + 5808) (by omega) (by omega) ?_
    exact h S1 T1 ρ1 σ1 H2 locs2 hs2 hW2.swap (hρ1 0 m0).1 (hσ1 2000 m2).1
  · refine law_call (As := [.int (xs (nI i + 1).toNatClampNeg)]) (rest := [.int r1]) (o := 2000) X hK hW1.swap dL_law_698 lm_L_93 rfl (c_X9_settleN (xs (nI i + 1).toNatClampNeg) T hs.m hs.rn.1 ho) rfl (fun _ => rfl) ⟨trivial, trivial⟩ m2 (Nat.le_of_ble_eq_true rfl) (by decide) (by omega) (by omega) hl.1 (fun r2 T1 σ1 H2 locs2 q2 hσ1 hW2 => ?_)
    obtain ⟨er, hs2⟩ := st_settleN hs ho q1 q2
    refine lv_icmp_eq (tgt := 861) hx hb dL_law_701 (by decide) (fun _ => ?_) (fun z => absurd er z)
    refine W.widen (k := k + 528) (n := n + 5808) (by omega) (by omega) ?_
    exact h S1 T1 ρ1 σ1 H2 locs2 hs2 hW2.swap (hρ1 0 m0).1 (hσ1 2000 m2).1
set_option maxHeartbeats 1000000 in
theorem lw_coins {p : Program} {l : Launch} {e : Env} {s : State} {m : MethodId} {below : List Frame} {meth : Method} {c : Code} {bs L i k n : Nat} {xs : Nat → Int32} {G : va_G} {cy : Nat → ClassId} {H : Heap} {locs : List Loc} {ls : Array Slot} {S T : HS} {ρ σ : Nat → Nat} {Z : State → Prop} (X : Cl p s m c bs) (hK : KK G cy s) (hX : va_X bs L xs s s.heap) (hbl : bs < s.heap.size) (hi : i + 6 ≤ L) (hL : L ≤ 3072) (hW : W2 G cy s ρ σ S T H locs) (hs : Sim S T) (hl : lv_has ls 4 [(3, .int (nI i)), (2, .ref (σ 2000)), (1, .ref (ρ 0)), (0, .ref bs)]) (h1 : k + 528 ≤ 600000) (h2 : n + 5808 ≤ 7302250)
    (h : ∀ (S' T' : HS) (ρ' σ' : Nat → Nat) (H' : Heap) (locs' : List Loc), Sim S' T' → W2 G cy s ρ' σ' S' T' H' locs' → ρ' 0 = ρ 0 → σ' 2000 = σ 2000 → W p l e room_1 s m #[Value.ref bs] below meth c H' locs' (k + 528) (n + 5808) Z (F0 m 861 ls [])) : W p l e room_1 s m #[Value.ref bs] below meth c H locs k n Z (F0 m 706 ls []) := by
  obtain ⟨hx, hb, hml, hown, hts⟩ := id X
  have hbA : ¬ (fun q : Nat => s.heap.size ≤ q) bs := Nat.not_le.mpr hbl
  have v1 : vp_in (nI i + 1) L := by rw [show nI i + 1 = nI (i + 1) from nI_add i 1]; exact vp_in_nI (by omega) (by omega)
  have v2 : vp_in (nI i + 2) L := by rw [show nI i + 2 = nI (i + 2) from nI_add i 2]; exact vp_in_nI (by omega) (by omega)
  have m0 : 0 ∈ sL S := shL_0 hs.1.F
  have m2 : 2000 ∈ sL T := hs.m.1
  refine lv_aload_n hx hb dL_law_706 rfl (lv_at hl 2 rfl) ?_
  refine lv_aload_n hx hb dL_law_707 rfl (lv_at hl 3 rfl) ?_
  refine lv_iload_n hx hb dL_law_708 rfl (lv_at hl 0 rfl) ?_
  refine lv_iconst (v := 1) hx hb dL_law_709 (by decide) ?_
  refine lv_iadd hx hb dL_law_710 ?_
  refine va_sld hx hb hX hbl hbA hW.2.2.2.2.2 v1 dL_law_711 ?_
  refine lv_aload_n hx hb dL_law_712 rfl (lv_at hl 3 rfl) ?_
  refine lv_iload_n hx hb dL_law_713 rfl (lv_at hl 0 rfl) ?_
  refine lv_iconst (v := 2) hx hb dL_law_714 (by decide) ?_
  refine lv_iadd hx hb dL_law_715 ?_
  refine va_sld hx hb hX hbl hbA hW.2.2.2.2.2 v2 dL_law_716 ?_
  refine law_call (As := [.int (xs (nI i + 1).toNatClampNeg), .int (xs (nI i + 2).toNatClampNeg)]) (rest := []) (o := 0) X hK hW dL_law_717 lm_L_94 rfl (c_X8_coins (xs (nI i + 1).toNatClampNeg) (xs (nI i + 2).toNatClampNeg) S hs.1) rfl (fun _ => rfl) ⟨trivial, trivial, trivial⟩ m0 (Nat.le_of_ble_eq_true rfl) (by decide) (by omega) (by omega) hl.1 (fun r1 S1 ρ1 H1 locs1 q1 hρ1 hW1 => ?_)
  refine lv_aload_n hx hb dL_law_720 rfl (lv_at hl 1 rfl) ?_
  refine lv_aload_n hx hb dL_law_721 rfl (lv_at hl 3 rfl) ?_
  refine lv_iload_n hx hb dL_law_722 rfl (lv_at hl 0 rfl) ?_
  refine lv_iconst (v := 1) hx hb dL_law_723 (by decide) ?_
  refine lv_iadd hx hb dL_law_724 ?_
  refine va_sld hx hb hX hbl hbA hW1.2.2.2.2.2 v1 dL_law_725 ?_
  refine lv_aload_n hx hb dL_law_726 rfl (lv_at hl 3 rfl) ?_
  refine lv_iload_n hx hb dL_law_727 rfl (lv_at hl 0 rfl) ?_
  refine lv_iconst (v := 2) hx hb dL_law_728 (by decide) ?_
  refine lv_iadd hx hb dL_law_729 ?_
  refine va_sld hx hb hX hbl hbA hW1.2.2.2.2.2 v2 dL_law_730 ?_
  refine law_call (As := [.int (xs (nI i + 1).toNatClampNeg), .int (xs (nI i + 2).toNatClampNeg)]) (rest := [.int r1]) (o := 2000) X hK hW1.swap dL_law_731 lm_L_97 rfl (c_X9_coins (xs (nI i + 1).toNatClampNeg) (xs (nI i + 2).toNatClampNeg) T hs.m hs.rn.1) rfl (fun _ => rfl) ⟨trivial, trivial, trivial⟩ m2 (Nat.le_of_ble_eq_true rfl) (by decide) (by omega) (by omega) hl.1 (fun r2 T1 σ1 H2 locs2 q2 hσ1 hW2 => ?_)
  obtain ⟨er, hs2⟩ := st_coins hs q1 q2
  refine lv_icmp_eq (tgt := 861) hx hb dL_law_734 (by decide) (fun _ => ?_) (fun z => absurd er z)
  refine W.widen (k := k + 528) (n := n + 5808) (by omega) (by omega) ?_
  exact h S1 T1 ρ1 σ1 H2 locs2 hs2 hW2.swap (hρ1 0 m0).1 (hσ1 2000 m2).1
set_option maxHeartbeats 1000000 in
theorem lw_cell {p : Program} {l : Launch} {e : Env} {s : State} {m : MethodId} {below : List Frame} {meth : Method} {c : Code} {bs L i k n : Nat} {xs : Nat → Int32} {G : va_G} {cy : Nat → ClassId} {H : Heap} {locs : List Loc} {ls : Array Slot} {S T : HS} {ρ σ : Nat → Nat} {Z : State → Prop} (X : Cl p s m c bs) (hK : KK G cy s) (hX : va_X bs L xs s s.heap) (hbl : bs < s.heap.size) (hi : i + 6 ≤ L) (hL : L ≤ 3072) (hW : W2 G cy s ρ σ S T H locs) (hs : Sim S T) (hl : lv_has ls 4 [(3, .int (nI i)), (2, .ref (σ 2000)), (1, .ref (ρ 0)), (0, .ref bs)]) (h1 : k + 528 ≤ 600000) (h2 : n + 5808 ≤ 7302250)
    (h : ∀ (S' T' : HS) (ρ' σ' : Nat → Nat) (H' : Heap) (locs' : List Loc), Sim S' T' → W2 G cy s ρ' σ' S' T' H' locs' → ρ' 0 = ρ 0 → σ' 2000 = σ 2000 → W p l e room_1 s m #[Value.ref bs] below meth c H' locs' (k + 528) (n + 5808) Z (F0 m 861 ls [])) : W p l e room_1 s m #[Value.ref bs] below meth c H locs k n Z (F0 m 739 ls []) := by
  obtain ⟨hx, hb, hml, hown, hts⟩ := id X
  have hbA : ¬ (fun q : Nat => s.heap.size ≤ q) bs := Nat.not_le.mpr hbl
  have v1 : vp_in (nI i + 1) L := by rw [show nI i + 1 = nI (i + 1) from nI_add i 1]; exact vp_in_nI (by omega) (by omega)
  have v2 : vp_in (nI i + 2) L := by rw [show nI i + 2 = nI (i + 2) from nI_add i 2]; exact vp_in_nI (by omega) (by omega)
  have m0 : 0 ∈ sL S := shL_0 hs.1.F
  have m2 : 2000 ∈ sL T := hs.m.1
  refine lv_aload_n hx hb dL_law_739 rfl (lv_at hl 2 rfl) ?_
  refine lv_aload_n hx hb dL_law_740 rfl (lv_at hl 3 rfl) ?_
  refine lv_iload_n hx hb dL_law_741 rfl (lv_at hl 0 rfl) ?_
  refine lv_iconst (v := 1) hx hb dL_law_742 (by decide) ?_
  refine lv_iadd hx hb dL_law_743 ?_
  refine va_sld hx hb hX hbl hbA hW.2.2.2.2.2 v1 dL_law_744 ?_
  refine lv_aload_n hx hb dL_law_745 rfl (lv_at hl 3 rfl) ?_
  refine lv_iload_n hx hb dL_law_746 rfl (lv_at hl 0 rfl) ?_
  refine lv_iconst (v := 2) hx hb dL_law_747 (by decide) ?_
  refine lv_iadd hx hb dL_law_748 ?_
  refine va_sld hx hb hX hbl hbA hW.2.2.2.2.2 v2 dL_law_749 ?_
  refine law_call (As := [.int (xs (nI i + 1).toNatClampNeg), .int (xs (nI i + 2).toNatClampNeg)]) (rest := []) (o := 0) X hK hW dL_law_750 lm_L_98 rfl (c_X8_cell (xs (nI i + 1).toNatClampNeg) (xs (nI i + 2).toNatClampNeg) S hs.1.F) rfl (fun _ => rfl) ⟨trivial, trivial, trivial⟩ m0 (Nat.le_of_ble_eq_true rfl) (by decide) (by omega) (by omega) hl.1 (fun r1 S1 ρ1 H1 locs1 q1 hρ1 hW1 => ?_)
  refine lv_aload_n hx hb dL_law_753 rfl (lv_at hl 1 rfl) ?_
  refine lv_aload_n hx hb dL_law_754 rfl (lv_at hl 3 rfl) ?_
  refine lv_iload_n hx hb dL_law_755 rfl (lv_at hl 0 rfl) ?_
  refine lv_iconst (v := 1) hx hb dL_law_756 (by decide) ?_
  refine lv_iadd hx hb dL_law_757 ?_
  refine va_sld hx hb hX hbl hbA hW1.2.2.2.2.2 v1 dL_law_758 ?_
  refine lv_aload_n hx hb dL_law_759 rfl (lv_at hl 3 rfl) ?_
  refine lv_iload_n hx hb dL_law_760 rfl (lv_at hl 0 rfl) ?_
  refine lv_iconst (v := 2) hx hb dL_law_761 (by decide) ?_
  refine lv_iadd hx hb dL_law_762 ?_
  refine va_sld hx hb hX hbl hbA hW1.2.2.2.2.2 v2 dL_law_763 ?_
  refine law_call (As := [.int (xs (nI i + 1).toNatClampNeg), .int (xs (nI i + 2).toNatClampNeg)]) (rest := [.int r1]) (o := 2000) X hK hW1.swap dL_law_764 lm_L_101 rfl (c_X9_cell (xs (nI i + 1).toNatClampNeg) (xs (nI i + 2).toNatClampNeg) T hs.m) rfl (fun _ => rfl) ⟨trivial, trivial, trivial⟩ m2 (Nat.le_of_ble_eq_true rfl) (by decide) (by omega) (by omega) hl.1 (fun r2 T1 σ1 H2 locs2 q2 hσ1 hW2 => ?_)
  obtain ⟨er, hs2⟩ := st_cell hs q1 q2
  refine lv_icmp_eq (tgt := 861) hx hb dL_law_767 (by decide) (fun _ => ?_) (fun z => absurd er z)
  refine W.widen (k := k + 528) (n := n + 5808) (by omega) (by omega) ?_
  exact h S1 T1 ρ1 σ1 H2 locs2 hs2 hW2.swap (hρ1 0 m0).1 (hσ1 2000 m2).1
set_option maxHeartbeats 1000000 in
theorem lw_told {p : Program} {l : Launch} {e : Env} {s : State} {m : MethodId} {below : List Frame} {meth : Method} {c : Code} {bs L i k n : Nat} {xs : Nat → Int32} {G : va_G} {cy : Nat → ClassId} {H : Heap} {locs : List Loc} {ls : Array Slot} {S T : HS} {ρ σ : Nat → Nat} {Z : State → Prop} (X : Cl p s m c bs) (hK : KK G cy s) (hX : va_X bs L xs s s.heap) (hbl : bs < s.heap.size) (hi : i + 6 ≤ L) (hL : L ≤ 3072) (hW : W2 G cy s ρ σ S T H locs) (hs : Sim S T) (hl : lv_has ls 4 [(3, .int (nI i)), (2, .ref (σ 2000)), (1, .ref (ρ 0)), (0, .ref bs)]) (h1 : k + 528 ≤ 600000) (h2 : n + 5808 ≤ 7302250)
    (h : ∀ (S' T' : HS) (ρ' σ' : Nat → Nat) (H' : Heap) (locs' : List Loc), Sim S' T' → W2 G cy s ρ' σ' S' T' H' locs' → ρ' 0 = ρ 0 → σ' 2000 = σ 2000 → W p l e room_1 s m #[Value.ref bs] below meth c H' locs' (k + 528) (n + 5808) Z (F0 m 861 ls [])) : W p l e room_1 s m #[Value.ref bs] below meth c H locs k n Z (F0 m 772 ls []) := by
  obtain ⟨hx, hb, hml, hown, hts⟩ := id X
  have hbA : ¬ (fun q : Nat => s.heap.size ≤ q) bs := Nat.not_le.mpr hbl
  have v1 : vp_in (nI i + 1) L := by rw [show nI i + 1 = nI (i + 1) from nI_add i 1]; exact vp_in_nI (by omega) (by omega)
  have v2 : vp_in (nI i + 2) L := by rw [show nI i + 2 = nI (i + 2) from nI_add i 2]; exact vp_in_nI (by omega) (by omega)
  have m0 : 0 ∈ sL S := shL_0 hs.1.F
  have m2 : 2000 ∈ sL T := hs.m.1
  refine lv_aload_n hx hb dL_law_772 rfl (lv_at hl 2 rfl) ?_
  refine lv_aload_n hx hb dL_law_773 rfl (lv_at hl 3 rfl) ?_
  refine lv_iload_n hx hb dL_law_774 rfl (lv_at hl 0 rfl) ?_
  refine lv_iconst (v := 1) hx hb dL_law_775 (by decide) ?_
  refine lv_iadd hx hb dL_law_776 ?_
  refine va_sld hx hb hX hbl hbA hW.2.2.2.2.2 v1 dL_law_777 ?_
  refine lv_aload_n hx hb dL_law_778 rfl (lv_at hl 3 rfl) ?_
  refine lv_iload_n hx hb dL_law_779 rfl (lv_at hl 0 rfl) ?_
  refine lv_iconst (v := 2) hx hb dL_law_780 (by decide) ?_
  refine lv_iadd hx hb dL_law_781 ?_
  refine va_sld hx hb hX hbl hbA hW.2.2.2.2.2 v2 dL_law_782 ?_
  refine law_call (As := [.int (xs (nI i + 1).toNatClampNeg), .int (xs (nI i + 2).toNatClampNeg)]) (rest := []) (o := 0) X hK hW dL_law_783 lm_L_102 rfl (c_X8_told (xs (nI i + 1).toNatClampNeg) (xs (nI i + 2).toNatClampNeg) S hs.1) rfl (fun _ => rfl) ⟨trivial, trivial, trivial⟩ m0 (Nat.le_of_ble_eq_true rfl) (by decide) (by omega) (by omega) hl.1 (fun r1 S1 ρ1 H1 locs1 q1 hρ1 hW1 => ?_)
  refine lv_aload_n hx hb dL_law_786 rfl (lv_at hl 1 rfl) ?_
  refine lv_aload_n hx hb dL_law_787 rfl (lv_at hl 3 rfl) ?_
  refine lv_iload_n hx hb dL_law_788 rfl (lv_at hl 0 rfl) ?_
  refine lv_iconst (v := 1) hx hb dL_law_789 (by decide) ?_
  refine lv_iadd hx hb dL_law_790 ?_
  refine va_sld hx hb hX hbl hbA hW1.2.2.2.2.2 v1 dL_law_791 ?_
  refine lv_aload_n hx hb dL_law_792 rfl (lv_at hl 3 rfl) ?_
  refine lv_iload_n hx hb dL_law_793 rfl (lv_at hl 0 rfl) ?_
  refine lv_iconst (v := 2) hx hb dL_law_794 (by decide) ?_
  refine lv_iadd hx hb dL_law_795 ?_
  refine va_sld hx hb hX hbl hbA hW1.2.2.2.2.2 v2 dL_law_796 ?_
  refine law_call (As := [.int (xs (nI i + 1).toNatClampNeg), .int (xs (nI i + 2).toNatClampNeg)]) (rest := [.int r1]) (o := 2000) X hK hW1.swap dL_law_797 lm_L_105 rfl (c_X9_told (xs (nI i + 1).toNatClampNeg) (xs (nI i + 2).toNatClampNeg) T hs.m hs.rn.1) rfl (fun _ => rfl) ⟨trivial, trivial, trivial⟩ m2 (Nat.le_of_ble_eq_true rfl) (by decide) (by omega) (by omega) hl.1 (fun r2 T1 σ1 H2 locs2 q2 hσ1 hW2 => ?_)
  obtain ⟨er, hs2⟩ := st_told hs q1 q2
  refine lv_icmp_eq (tgt := 861) hx hb dL_law_800 (by decide) (fun _ => ?_) (fun z => absurd er z)
  refine W.widen (k := k + 528) (n := n + 5808) (by omega) (by omega) ?_
  exact h S1 T1 ρ1 σ1 H2 locs2 hs2 hW2.swap (hρ1 0 m0).1 (hσ1 2000 m2).1
set_option maxHeartbeats 1000000 in
theorem lw_lot {p : Program} {l : Launch} {e : Env} {s : State} {m : MethodId} {below : List Frame} {meth : Method} {c : Code} {bs L i k n : Nat} {xs : Nat → Int32} {G : va_G} {cy : Nat → ClassId} {H : Heap} {locs : List Loc} {ls : Array Slot} {S T : HS} {ρ σ : Nat → Nat} {Z : State → Prop} (X : Cl p s m c bs) (hK : KK G cy s) (hX : va_X bs L xs s s.heap) (hbl : bs < s.heap.size) (hi : i + 6 ≤ L) (hL : L ≤ 3072) (hW : W2 G cy s ρ σ S T H locs) (hs : Sim S T) (hl : lv_has ls 4 [(3, .int (nI i)), (2, .ref (σ 2000)), (1, .ref (ρ 0)), (0, .ref bs)]) (h1 : k + 528 ≤ 600000) (h2 : n + 5808 ≤ 7302250)
    (h : ∀ (S' T' : HS) (ρ' σ' : Nat → Nat) (H' : Heap) (locs' : List Loc), Sim S' T' → W2 G cy s ρ' σ' S' T' H' locs' → ρ' 0 = ρ 0 → σ' 2000 = σ 2000 → W p l e room_1 s m #[Value.ref bs] below meth c H' locs' (k + 528) (n + 5808) Z (F0 m 861 ls [])) : W p l e room_1 s m #[Value.ref bs] below meth c H locs k n Z (F0 m 805 ls []) := by
  obtain ⟨hx, hb, hml, hown, hts⟩ := id X
  have hbA : ¬ (fun q : Nat => s.heap.size ≤ q) bs := Nat.not_le.mpr hbl
  have v1 : vp_in (nI i + 1) L := by rw [show nI i + 1 = nI (i + 1) from nI_add i 1]; exact vp_in_nI (by omega) (by omega)
  have v2 : vp_in (nI i + 2) L := by rw [show nI i + 2 = nI (i + 2) from nI_add i 2]; exact vp_in_nI (by omega) (by omega)
  have m0 : 0 ∈ sL S := shL_0 hs.1.F
  have m2 : 2000 ∈ sL T := hs.m.1
  refine lv_aload_n hx hb dL_law_805 rfl (lv_at hl 2 rfl) ?_
  refine lv_aload_n hx hb dL_law_806 rfl (lv_at hl 3 rfl) ?_
  refine lv_iload_n hx hb dL_law_807 rfl (lv_at hl 0 rfl) ?_
  refine lv_iconst (v := 1) hx hb dL_law_808 (by decide) ?_
  refine lv_iadd hx hb dL_law_809 ?_
  refine va_sld hx hb hX hbl hbA hW.2.2.2.2.2 v1 dL_law_810 ?_
  refine lv_aload_n hx hb dL_law_811 rfl (lv_at hl 3 rfl) ?_
  refine lv_iload_n hx hb dL_law_812 rfl (lv_at hl 0 rfl) ?_
  refine lv_iconst (v := 2) hx hb dL_law_813 (by decide) ?_
  refine lv_iadd hx hb dL_law_814 ?_
  refine va_sld hx hb hX hbl hbA hW.2.2.2.2.2 v2 dL_law_815 ?_
  refine law_call (As := [.int (xs (nI i + 1).toNatClampNeg), .int (xs (nI i + 2).toNatClampNeg)]) (rest := []) (o := 0) X hK hW dL_law_816 lm_L_106 rfl (c_X8_lot (xs (nI i + 1).toNatClampNeg) (xs (nI i + 2).toNatClampNeg) S hs.1) rfl (fun _ => rfl) ⟨trivial, trivial, trivial⟩ m0 (Nat.le_of_ble_eq_true rfl) (by decide) (by omega) (by omega) hl.1 (fun r1 S1 ρ1 H1 locs1 q1 hρ1 hW1 => ?_)
  refine lv_aload_n hx hb dL_law_819 rfl (lv_at hl 1 rfl) ?_
  refine lv_aload_n hx hb dL_law_820 rfl (lv_at hl 3 rfl) ?_
  refine lv_iload_n hx hb dL_law_821 rfl (lv_at hl 0 rfl) ?_
  refine lv_iconst (v := 1) hx hb dL_law_822 (by decide) ?_
  refine lv_iadd hx hb dL_law_823 ?_
  refine va_sld hx hb hX hbl hbA hW1.2.2.2.2.2 v1 dL_law_824 ?_
  refine lv_aload_n hx hb dL_law_825 rfl (lv_at hl 3 rfl) ?_
  refine lv_iload_n hx hb dL_law_826 rfl (lv_at hl 0 rfl) ?_
  refine lv_iconst (v := 2) hx hb dL_law_827 (by decide) ?_
  refine lv_iadd hx hb dL_law_828 ?_
  refine va_sld hx hb hX hbl hbA hW1.2.2.2.2.2 v2 dL_law_829 ?_
  refine law_call (As := [.int (xs (nI i + 1).toNatClampNeg), .int (xs (nI i + 2).toNatClampNeg)]) (rest := [.int r1]) (o := 2000) X hK hW1.swap dL_law_830 lm_L_109 rfl (c_X9_lot (xs (nI i + 1).toNatClampNeg) (xs (nI i + 2).toNatClampNeg) T hs.m hs.rn.2.2.1) rfl (fun _ => rfl) ⟨trivial, trivial, trivial⟩ m2 (Nat.le_of_ble_eq_true rfl) (by decide) (by omega) (by omega) hl.1 (fun r2 T1 σ1 H2 locs2 q2 hσ1 hW2 => ?_)
  obtain ⟨er, hs2⟩ := st_lot hs q1 q2
  refine lv_icmp_eq (tgt := 861) hx hb dL_law_833 (by decide) (fun _ => ?_) (fun z => absurd er z)
  refine W.widen (k := k + 528) (n := n + 5808) (by omega) (by omega) ?_
  exact h S1 T1 ρ1 σ1 H2 locs2 hs2 hW2.swap (hρ1 0 m0).1 (hσ1 2000 m2).1
set_option maxHeartbeats 1000000 in
theorem lw_count {p : Program} {l : Launch} {e : Env} {s : State} {m : MethodId} {below : List Frame} {meth : Method} {c : Code} {bs L i k n : Nat} {xs : Nat → Int32} {G : va_G} {cy : Nat → ClassId} {H : Heap} {locs : List Loc} {ls : Array Slot} {S T : HS} {ρ σ : Nat → Nat} {Z : State → Prop} (X : Cl p s m c bs) (hK : KK G cy s) (hX : va_X bs L xs s s.heap) (hbl : bs < s.heap.size) (hi : i + 6 ≤ L) (hL : L ≤ 3072) (hW : W2 G cy s ρ σ S T H locs) (hs : Sim S T) (hl : lv_has ls 4 [(3, .int (nI i)), (2, .ref (σ 2000)), (1, .ref (ρ 0)), (0, .ref bs)]) (h1 : k + 528 ≤ 600000) (h2 : n + 5808 ≤ 7302250)
    (h : ∀ (S' T' : HS) (ρ' σ' : Nat → Nat) (H' : Heap) (locs' : List Loc), Sim S' T' → W2 G cy s ρ' σ' S' T' H' locs' → ρ' 0 = ρ 0 → σ' 2000 = σ 2000 → W p l e room_1 s m #[Value.ref bs] below meth c H' locs' (k + 528) (n + 5808) Z (F0 m 861 ls [])) : W p l e room_1 s m #[Value.ref bs] below meth c H locs k n Z (F0 m 838 ls []) := by
  obtain ⟨hx, hb, hml, hown, hts⟩ := id X
  have hbA : ¬ (fun q : Nat => s.heap.size ≤ q) bs := Nat.not_le.mpr hbl
  have v1 : vp_in (nI i + 1) L := by rw [show nI i + 1 = nI (i + 1) from nI_add i 1]; exact vp_in_nI (by omega) (by omega)
  have m0 : 0 ∈ sL S := shL_0 hs.1.F
  have m2 : 2000 ∈ sL T := hs.m.1
  refine lv_aload_n hx hb dL_law_838 rfl (lv_at hl 2 rfl) ?_
  refine lv_aload_n hx hb dL_law_839 rfl (lv_at hl 3 rfl) ?_
  refine lv_iload_n hx hb dL_law_840 rfl (lv_at hl 0 rfl) ?_
  refine lv_iconst (v := 1) hx hb dL_law_841 (by decide) ?_
  refine lv_iadd hx hb dL_law_842 ?_
  refine va_sld hx hb hX hbl hbA hW.2.2.2.2.2 v1 dL_law_843 ?_
  refine law_call (As := [.int (xs (nI i + 1).toNatClampNeg)]) (rest := []) (o := 0) X hK hW dL_law_844 lm_L_110 rfl (c_X8_count (xs (nI i + 1).toNatClampNeg) S hs.1) rfl (fun _ => rfl) ⟨trivial, trivial⟩ m0 (Nat.le_of_ble_eq_true rfl) (by decide) (by omega) (by omega) hl.1 (fun r1 S1 ρ1 H1 locs1 q1 hρ1 hW1 => ?_)
  refine lv_aload_n hx hb dL_law_847 rfl (lv_at hl 1 rfl) ?_
  refine lv_aload_n hx hb dL_law_848 rfl (lv_at hl 3 rfl) ?_
  refine lv_iload_n hx hb dL_law_849 rfl (lv_at hl 0 rfl) ?_
  refine lv_iconst (v := 1) hx hb dL_law_850 (by decide) ?_
  refine lv_iadd hx hb dL_law_851 ?_
  refine va_sld hx hb hX hbl hbA hW1.2.2.2.2.2 v1 dL_law_852 ?_
  refine law_call (As := [.int (xs (nI i + 1).toNatClampNeg)]) (rest := [.int r1]) (o := 2000) X hK hW1.swap dL_law_853 lm_L_113 rfl (c_X9_count (xs (nI i + 1).toNatClampNeg) T hs.m hs.rn.1) rfl (fun _ => rfl) ⟨trivial, trivial⟩ m2 (Nat.le_of_ble_eq_true rfl) (by decide) (by omega) (by omega) hl.1 (fun r2 T1 σ1 H2 locs2 q2 hσ1 hW2 => ?_)
  obtain ⟨er, hs2⟩ := st_count hs q1 q2
  refine lv_icmp_eq (tgt := 861) hx hb dL_law_856 (by decide) (fun _ => ?_) (fun z => absurd er z)
  refine W.widen (k := k + 528) (n := n + 5808) (by omega) (by omega) ?_
  exact h S1 T1 ρ1 σ1 H2 locs2 hs2 hW2.swap (hρ1 0 m0).1 (hσ1 2000 m2).1
