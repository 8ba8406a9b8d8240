/-! ===== fields, arrays, new cells, calls ===== -/
def isRefTy : FieldType → Bool
  | .object _ => true
  | .array _ => true
  | _ => false
def ClsF (ci : Nat) (C : String) (T : u_T) (N : Nat) (ty : Nat → FieldType) : Prop := vwCl[ci]? = some (C, T, N) ∧ N = nF ci ∧ ci < 10 ∧ (∀ w ∈ u_ws C T N, w ∈ TB) ∧ (∀ k, k < N → parseFieldDescriptor (T k).2.2.1 = some (ty k)) ∧ (∀ a, a < N → ∀ b, b < N → a ≠ b → (T a).2.1 ≠ (T b).2.1) ∧ (∀ k, k < N → (fR ci k = false ∧ ty k = .int) ∨ (fR ci k = true ∧ isRefTy (ty k) = true))

theorem uwX0 : ∀ w ∈ u_ws RX0 TX0 8, w ∈ TB := by decide +kernel
theorem cfX0 : ClsF 0 RX0 TX0 8 tyX0 := ⟨rfl, rfl, by decide, uwX0, tyX0_ok, nmX0, by decide +kernel⟩
theorem uwX1 : ∀ w ∈ u_ws RX1 TX1 3, w ∈ TB := by decide +kernel
theorem cfX1 : ClsF 1 RX1 TX1 3 tyX1 := ⟨rfl, rfl, by decide, uwX1, tyX1_ok, nmX1, by decide +kernel⟩
theorem uwX2 : ∀ w ∈ u_ws RX2 TX2 11, w ∈ TB := by decide +kernel
theorem cfX2 : ClsF 2 RX2 TX2 11 tyX2 := ⟨rfl, rfl, by decide, uwX2, tyX2_ok, nmX2, by decide +kernel⟩
theorem uwX3 : ∀ w ∈ u_ws RX3 TX3 4, w ∈ TB := by decide +kernel
theorem cfX3 : ClsF 3 RX3 TX3 4 tyX3 := ⟨rfl, rfl, by decide, uwX3, tyX3_ok, nmX3, by decide +kernel⟩
theorem uwX4 : ∀ w ∈ u_ws RX4 TX4 5, w ∈ TB := by decide +kernel
theorem cfX4 : ClsF 4 RX4 TX4 5 tyX4 := ⟨rfl, rfl, by decide, uwX4, tyX4_ok, nmX4, by decide +kernel⟩
theorem uwX5 : ∀ w ∈ u_ws RX5 TX5 2, w ∈ TB := by decide +kernel
theorem cfX5 : ClsF 5 RX5 TX5 2 tyX5 := ⟨rfl, rfl, by decide, uwX5, tyX5_ok, nmX5, by decide +kernel⟩
theorem uwX6 : ∀ w ∈ u_ws RX6 TX6 5, w ∈ TB := by decide +kernel
theorem cfX6 : ClsF 6 RX6 TX6 5 tyX6 := ⟨rfl, rfl, by decide, uwX6, tyX6_ok, nmX6, by decide +kernel⟩
theorem uwX7 : ∀ w ∈ u_ws RX7 TX7 5, w ∈ TB := by decide +kernel
theorem cfX7 : ClsF 7 RX7 TX7 5 tyX7 := ⟨rfl, rfl, by decide, uwX7, tyX7_ok, nmX7, by decide +kernel⟩
theorem uwX8 : ∀ w ∈ u_ws RX8 TX8 18, w ∈ TB := by decide +kernel
theorem cfX8 : ClsF 8 RX8 TX8 18 tyX8 := ⟨rfl, rfl, by decide, uwX8, tyX8_ok, nmX8, by decide +kernel⟩
theorem uwX9 : ∀ w ∈ u_ws RX9 TX9 53, w ∈ TB := by decide +kernel
theorem cfX9 : ClsF 9 RX9 TX9 53 tyX9 := ⟨rfl, rfl, by decide, uwX9, tyX9_ok, nmX9, by decide +kernel⟩
/-- a field link: the class at place ci, its field j, under the index idx of the class own -/
def LkF (own : String) (idx ci j : Nat) : Prop := ∃ (C : String) (T : u_T) (N : Nat) (ty : Nat → FieldType), ClsF ci C T N ty ∧ j < N ∧ Cond.fieldLink own idx (T j).1 (T j).2.1 (T j).2.2.1 ∈ TB
def LkP (own nm : String) (idx ci j : Nat) : Prop := ∃ (C : String) (T : u_T) (N : Nat) (ty : Nat → FieldType), ClsF ci C T N ty ∧ j < N ∧ Cond.fieldLink own idx (T j).1 (T j).2.1 (T j).2.2.1 ∈ TB ∧ ((T j).2.2.2 = false ∨ ((T j).2.2.2 = true ∧ nm = "<init>" ∧ (T j).1 = own))
def LkN (own : String) (idx ci : Nat) : Prop := ∃ (C : String) (T : u_T) (N : Nat) (ty : Nat → FieldType), ClsF ci C T N ty ∧ Cond.classLink own idx C ∈ TB ∧ Cond.instantiable C N ∈ TB ∧ Cond.initialized C ∈ TB
theorem narrow_rf {ty : FieldType} {v : Option Nat} (h : isRefTy ty = true) : narrow ty (va_rf v) = va_rf v ∧ fits ty (va_rf v) = true := by
  cases ty <;> simp [isRefTy] at h <;> cases v <;> exact ⟨rfl, rfl⟩
theorem TBc {w : Cond} {y : MethodName} {b : ByteArray} {nL : Nat} {rt : Option FieldType} (h : w ∈ TB) : w ∈ (Cond.code y b nL rt :: TB) := List.mem_cons_of_mem _ h
section RH
variable {l : Launch} {G : va_G} {cy : Nat → ClassId} {y : MethodName} {b : ByteArray} {nL : Nat} {rt : Option FieldType} {d mc ms : Nat} {Q : Option Value → HS → Prop} {pc : Nat} {lv : List (Option Value)} {st : List Value} {S : HS} {k n : Nat}
theorem r_getI {a ci j idx : Nat} (hd : decode b pc = .ok (.getfield idx, 3)) (hk : LkF y.cls idx ci j) (hr0 : fR ci j = false) (hK0 : tk a = ci) (h : R l G cy y b nL rt d mc ms Q (pc + 3) lv (.int (sI S (fid ci j) a) :: st) S k n) : R l G cy y b nL rt d mc ms Q pc lv (.ref a :: st) S k n := by
  intro p e s m args below meth c H locs ls A ρ L0 ρ0 X hK hA hP hD hS hl hoL hoS hρ hLL
  obtain ⟨hx, hb, hr, hml, hown, hts, hlk, hnm⟩ := id X
  obtain ⟨C, T, N, ty, ⟨c1, c2, c3, c4, c5, c6, c7⟩, hj, hw⟩ := hk
  obtain ⟨q0, hq0⟩ := List.getElem?_of_mem hoS.1
  have hq := pool_at (cy := cy) (ρ := ρ) hq0
  rw [pf_obj hK0 c3] at hq
  refine va_get (v := .int (sI S (fid ci j) a)) hx hb hts (fun w h => TBc (c4 w h)) hown hK.1 hP q0 hq c1 j hj (hts _ (TBc hw)) (fun _ h9 => h9) ?_ hd (h p e s m args below meth c H locs ls A ρ L0 ρ0 X hK hA hP hD hS hl hoL ⟨trivial, hoS.2⟩ hρ hLL)
  rw [fvs_get (by omega)]
  simp [fv, hr0]
theorem r_getR {a ci j idx : Nat} {x : Nat} (hd : decode b pc = .ok (.getfield idx, 3)) (hk : LkF y.cls idx ci j) (hr0 : fR ci j = true) (hK0 : tk a = ci) (hx0 : sR S (fid ci j) a = some x) (hxL : x ∈ sL S) (h : R l G cy y b nL rt d mc ms Q (pc + 3) lv (.ref x :: st) S k n) : R l G cy y b nL rt d mc ms Q pc lv (.ref a :: st) S k n := by
  intro p e s m args below meth c H locs ls A ρ L0 ρ0 X hK hA hP hD hS hl hoL hoS hρ hLL
  obtain ⟨hx, hb, hr, hml, hown, hts, hlk, hnm⟩ := id X
  obtain ⟨C, T, N, ty, ⟨c1, c2, c3, c4, c5, c6, c7⟩, hj, hw⟩ := hk
  obtain ⟨q0, hq0⟩ := List.getElem?_of_mem hoS.1
  have hq := pool_at (cy := cy) (ρ := ρ) hq0
  rw [pf_obj hK0 c3] at hq
  refine va_get (v := .ref (ρ x)) hx hb hts (fun w h => TBc (c4 w h)) hown hK.1 hP q0 hq c1 j hj (hts _ (TBc hw)) (fun _ h9 => h9) ?_ hd (h p e s m args below meth c H locs ls A ρ L0 ρ0 X hK hA hP hD hS hl hoL ⟨hxL, hoS.2⟩ hρ hLL)
  rw [fvs_get (by omega)]
  simp [fv, hr0, hx0, va_rf]
theorem r_putI {a ci j idx : Nat} {v : Int32} (hd : decode b pc = .ok (.putfield idx, 3)) (hk : LkP y.cls y.name idx ci j) (hr0 : fR ci j = false) (hK0 : tk a = ci) (h : R l G cy y b nL rt d mc ms Q (pc + 3) lv st (setI S (fid ci j) a v) k n) : R l G cy y b nL rt d mc ms Q pc lv (.int v :: .ref a :: st) S k n := by
  intro p e s m args below meth c H locs ls A ρ L0 ρ0 X hK hA hP hD hS hl hoL hoS hρ hLL
  obtain ⟨hx, hb, hr, hml, hown, hts, hlk, hnm⟩ := id X
  obtain ⟨C, T, N, ty, ⟨c1, c2, c3, c4, c5, c6, c7⟩, hj, hw, hf⟩ := hk
  obtain ⟨q0, hq0⟩ := List.getElem?_of_mem hoS.2.1
  have hq' := pool_at (cy := cy) (ρ := ρ) hq0
  rw [pf_obj hK0 c3] at hq'
  have hj' : j < nF ci := by omega
  have e9 : ty j = .int := (c7 j hj).elim (fun h => h.2) (fun h => by rw [hr0] at h; cases h.1)
  have e8 : narrow (ty j) (.int v) = .int v ∧ fits (ty j) (.int v) = true := by rw [e9]; exact ⟨rfl, rfl⟩
  have key : ∀ (H1 : Heap) (locs1 : List Loc), va_P G vwCl ((pool cy ρ S).set q0 (ρ a, .inr (ci, (fvs ρ S ci a).set j (.int v)))) H1 → va_D A ((pool cy ρ S).set q0 (ρ a, .inr (ci, (fvs ρ S ci a).set j (.int v)))) → va_S A s.heap H1 locs1 → W p l e (rmO d mc ms) s m args below meth c H1 locs1 k n (MQ below (Qcn G cy Q A L0 ρ0) args s mc ms A) (F0 m (pc + 3) ls (st.map (rn ρ))) := by
    intro H1 locs1 hP1 hD1 hS1
    have e7 : (pool cy ρ S).set q0 (ρ a, .inr (ci, (fvs ρ S ci a).set j (.int v))) = pool cy ρ (setI S (fid ci j) a v) := pool_set hD hq0 rfl (pf_setI hK0 c3 hj' hr0) pf_setI2
    rw [e7] at hP1 hD1
    exact h p e s m args below meth c H1 locs1 ls A ρ L0 ρ0 X hK hA hP1 hD1 hS1 hl hoL hoS.2.2 hρ hLL
  rcases hf with hf | ⟨hf, hn1, hn2⟩
  · exact va_put hx hb hts (fun w h => TBc (c4 w h)) ty c5 c6 hown hK.1 hP hD hS q0 hq' c1 j hj (hts _ (TBc hw)) (fun _ h9 => h9) hf (c5 j hj) e8.1 e8.2 (by rw [fvs_len]; exact hj') hd key
  · exact va_putF hx hb hts (fun w h => TBc (c4 w h)) ty c5 c6 hown hK.1 hP hD hS q0 hq' c1 j hj (hts _ (TBc hw)) (fun _ h9 => h9) hf (hnm.trans hn1) hn2 (c5 j hj) e8.1 e8.2 (by rw [fvs_len]; exact hj') hd key
theorem r_putR {a ci j idx : Nat} {v : Option Nat} (hd : decode b pc = .ok (.putfield idx, 3)) (hk : LkP y.cls y.name idx ci j) (hr0 : fR ci j = true) (hK0 : tk a = ci) (h : R l G cy y b nL rt d mc ms Q (pc + 3) lv st (setR S (fid ci j) a v) k n) : R l G cy y b nL rt d mc ms Q pc lv (va_rf v :: .ref a :: st) S k n := by
  intro p e s m args below meth c H locs ls A ρ L0 ρ0 X hK hA hP hD hS hl hoL hoS hρ hLL
  obtain ⟨hx, hb, hr, hml, hown, hts, hlk, hnm⟩ := id X
  obtain ⟨C, T, N, ty, ⟨c1, c2, c3, c4, c5, c6, c7⟩, hj, hw, hf⟩ := hk
  obtain ⟨q0, hq0⟩ := List.getElem?_of_mem hoS.2.1
  have hq' := pool_at (cy := cy) (ρ := ρ) hq0
  rw [pf_obj hK0 c3] at hq'
  have hj' : j < nF ci := by omega
  have e8 : narrow (ty j) (va_rf (v.map ρ)) = va_rf (v.map ρ) ∧ fits (ty j) (va_rf (v.map ρ)) = true := narrow_rf ((c7 j hj).elim (fun h => by rw [hr0] at h; cases h.1) (fun h => h.2))
  have e6 : (va_rf v :: Value.ref a :: st).map (rn ρ) = va_rf (v.map ρ) :: .ref (ρ a) :: st.map (rn ρ) := by rw [List.map_cons, rn_rf]; rfl
  rw [e6]
  have key : ∀ (H1 : Heap) (locs1 : List Loc), va_P G vwCl ((pool cy ρ S).set q0 (ρ a, .inr (ci, (fvs ρ S ci a).set j (va_rf (v.map ρ))))) H1 → va_D A ((pool cy ρ S).set q0 (ρ a, .inr (ci, (fvs ρ S ci a).set j (va_rf (v.map ρ))))) → va_S A s.heap H1 locs1 → W p l e (rmO d mc ms) s m args below meth c H1 locs1 k n (MQ below (Qcn G cy Q A L0 ρ0) args s mc ms A) (F0 m (pc + 3) ls (st.map (rn ρ))) := by
    intro H1 locs1 hP1 hD1 hS1
    have e7 : (pool cy ρ S).set q0 (ρ a, .inr (ci, (fvs ρ S ci a).set j (va_rf (v.map ρ)))) = pool cy ρ (setR S (fid ci j) a v) := pool_set hD hq0 rfl (pf_setR hK0 c3 hj' hr0) pf_setR2
    rw [e7] at hP1 hD1
    exact h p e s m args below meth c H1 locs1 ls A ρ L0 ρ0 X hK hA hP1 hD1 hS1 hl hoL hoS.2.2 hρ hLL
  rcases hf with hf | ⟨hf, hn1, hn2⟩
  · exact va_put hx hb hts (fun w h => TBc (c4 w h)) ty c5 c6 hown hK.1 hP hD hS q0 hq' c1 j hj (hts _ (TBc hw)) (fun _ h9 => h9) hf (c5 j hj) e8.1 e8.2 (by rw [fvs_len]; exact hj') hd key
  · exact va_putF hx hb hts (fun w h => TBc (c4 w h)) ty c5 c6 hown hK.1 hP hD hS q0 hq' c1 j hj (hts _ (TBc hw)) (fun _ h9 => h9) hf (hnm.trans hn1) hn2 (c5 j hj) e8.1 e8.2 (by rw [fvs_len]; exact hj') hd key
theorem r_iald {a : Nat} {i : Int32} (hd : decode b pc = .ok (.iaload, 1)) (hK0 : tk a = 10) (hi : vp_in i (tn a)) (h : R l G cy y b nL rt d mc ms Q (pc + 1) lv (.int (sA S a i.toNatClampNeg) :: st) S k n) : R l G cy y b nL rt d mc ms Q pc lv (.int i :: .ref a :: st) S k n := by
  intro p e s m args below meth c H locs ls A ρ L0 ρ0 X hK hA hP hD hS hl hoL hoS hρ hLL
  obtain ⟨hx, hb, hr, hml, hown, hts, hlk, hnm⟩ := id X
  obtain ⟨q0, hq0⟩ := List.getElem?_of_mem hoS.2.1
  have hq := pool_at (cy := cy) (ρ := ρ) hq0
  rw [pf_arr (by omega) (by omega), hK0] at hq
  exact va_iald hx hb hK.1 hP q0 0 hq rfl hi hd (h p e s m args below meth c H locs ls A ρ L0 ρ0 X hK hA hP hD hS hl hoL ⟨trivial, hoS.2.2⟩ hρ hLL)
theorem r_zald {a : Nat} {i : Int32} (hd : decode b pc = .ok (.baload, 1)) (hK0 : tk a = 11) (hi : vp_in i (tn a)) (h : R l G cy y b nL rt d mc ms Q (pc + 1) lv (.int (sA S a i.toNatClampNeg) :: st) S k n) : R l G cy y b nL rt d mc ms Q pc lv (.int i :: .ref a :: st) S k n := by
  intro p e s m args below meth c H locs ls A ρ L0 ρ0 X hK hA hP hD hS hl hoL hoS hρ hLL
  obtain ⟨hx, hb, hr, hml, hown, hts, hlk, hnm⟩ := id X
  obtain ⟨q0, hq0⟩ := List.getElem?_of_mem hoS.2.1
  have hq := pool_at (cy := cy) (ρ := ρ) hq0
  rw [pf_arr (by omega) (by omega), hK0] at hq
  exact va_zald hx hb hK.1 hP q0 1 hq rfl hi hd (h p e s m args below meth c H locs ls A ρ L0 ρ0 X hK hA hP hD hS hl hoL ⟨trivial, hoS.2.2⟩ hρ hLL)
theorem r_iast {a : Nat} {i x : Int32} (hd : decode b pc = .ok (.iastore, 1)) (hK0 : tk a = 10) (hi : vp_in i (tn a)) (h : R l G cy y b nL rt d mc ms Q (pc + 1) lv st (setA S a (upd (sA S a) i.toNatClampNeg x)) k n) : R l G cy y b nL rt d mc ms Q pc lv (.int x :: .int i :: .ref a :: st) S k n := by
  intro p e s m args below meth c H locs ls A ρ L0 ρ0 X hK hA hP hD hS hl hoL hoS hρ hLL
  obtain ⟨hx, hb, hr, hml, hown, hts, hlk, hnm⟩ := id X
  obtain ⟨q0, hq0⟩ := List.getElem?_of_mem hoS.2.2.1
  have hq := pool_at (cy := cy) (ρ := ρ) hq0
  rw [pf_arr (by omega) (by omega), hK0] at hq
  refine va_iast hx hb hK.1 hP hD hS q0 0 hq rfl hi hd (fun H1 locs1 hP1 hD1 hS1 => ?_)
  have e7 : (pool cy ρ S).set q0 (ρ a, .inl (cy 10, tn a, .inl (upd (sA S a) i.toNatClampNeg x))) = pool cy ρ (setA S a (upd (sA S a) i.toNatClampNeg x)) := pool_set hD hq0 rfl (by rw [← hK0]; exact pf_setA (by omega) (by omega)) pf_setA2
  rw [e7] at hP1 hD1
  exact h p e s m args below meth c H1 locs1 ls A ρ L0 ρ0 X hK hA hP1 hD1 hS1 hl hoL hoS.2.2.2 hρ hLL
theorem r_zast {a : Nat} {i x : Int32} (hd : decode b pc = .ok (.bastore, 1)) (hK0 : tk a = 11) (hi : vp_in i (tn a)) (h : R l G cy y b nL rt d mc ms Q (pc + 1) lv st (setA S a (upd (sA S a) i.toNatClampNeg (vp_nar .boolean x))) k n) : R l G cy y b nL rt d mc ms Q pc lv (.int x :: .int i :: .ref a :: st) S k n := by
  intro p e s m args below meth c H locs ls A ρ L0 ρ0 X hK hA hP hD hS hl hoL hoS hρ hLL
  obtain ⟨hx, hb, hr, hml, hown, hts, hlk, hnm⟩ := id X
  obtain ⟨q0, hq0⟩ := List.getElem?_of_mem hoS.2.2.1
  have hq := pool_at (cy := cy) (ρ := ρ) hq0
  rw [pf_arr (by omega) (by omega), hK0] at hq
  refine va_zast hx hb hK.1 hP hD hS q0 1 hq rfl hi hd (fun H1 locs1 hP1 hD1 hS1 => ?_)
  have e7 : (pool cy ρ S).set q0 (ρ a, .inl (cy 11, tn a, .inl (upd (sA S a) i.toNatClampNeg (vp_nar .boolean x)))) = pool cy ρ (setA S a (upd (sA S a) i.toNatClampNeg (vp_nar .boolean x))) := pool_set hD hq0 rfl (by rw [← hK0]; exact pf_setA (by omega) (by omega)) pf_setA2
  rw [e7] at hP1 hD1
  exact h p e s m args below meth c H1 locs1 ls A ρ L0 ρ0 X hK hA hP1 hD1 hS1 hl hoL hoS.2.2.2 hρ hLL
theorem r_aald12 {a : Nat} {i : Int32} (hd : decode b pc = .ok (.aaload, 1)) (hK0 : tk a = 12) (hi : vp_in i (tn a)) (hv : okV (sL S) (va_rf (sQ S a i.toNatClampNeg))) (h : R l G cy y b nL rt d mc ms Q (pc + 1) lv (va_rf (sQ S a i.toNatClampNeg) :: st) S k n) : R l G cy y b nL rt d mc ms Q pc lv (.int i :: .ref a :: st) S k n := by
  intro p e s m args below meth c H locs ls A ρ L0 ρ0 X hK hA hP hD hS hl hoL hoS hρ hLL
  obtain ⟨hx, hb, hr, hml, hown, hts, hlk, hnm⟩ := id X
  obtain ⟨q0, hq0⟩ := List.getElem?_of_mem hoS.2.1
  have hq := pool_at (cy := cy) (ρ := ρ) hq0
  rw [pf_arq (by omega), hK0] at hq
  have h' := (h p e s m args below meth c H locs ls A ρ L0 ρ0 X hK hA hP hD hS hl hoL ⟨hv, hoS.2.2⟩ hρ hLL)
  rw [List.map_cons, rn_rf] at h'
  exact va_aldq hx hb hK.1 hP q0 2 hq rfl hi hd h'
theorem r_aast12 {a x : Nat} {i : Int32} (hd : decode b pc = .ok (.aastore, 1)) (hK0 : tk a = 12) (hK2 : tk x = 0) (hi : vp_in i (tn a)) (h : R l G cy y b nL rt d mc ms Q (pc + 1) lv st (setQ S a (va_up (sQ S a) i.toNatClampNeg (some x))) k n) : R l G cy y b nL rt d mc ms Q pc lv (.ref x :: .int i :: .ref a :: st) S k n := by
  intro p e s m args below meth c H locs ls A ρ L0 ρ0 X hK hA hP hD hS hl hoL hoS hρ hLL
  obtain ⟨hx, hb, hr, hml, hown, hts, hlk, hnm⟩ := id X
  obtain ⟨q0, hq0⟩ := List.getElem?_of_mem hoS.2.2.1
  have hq := pool_at (cy := cy) (ρ := ρ) hq0
  rw [pf_arq (by omega), hK0] at hq
  obtain ⟨q2, hq2⟩ := List.getElem?_of_mem hoS.1
  have hq2 := pool_at (cy := cy) (ρ := ρ) hq2
  rw [pf_obj hK2 (by omega)] at hq2
  refine va_astq (r := (RX0, TX0, 8)) hx hb hK.1 hP hD hS q0 2 q2 0 hq rfl hq2 rfl hi hd (fun H1 locs1 hP1 hD1 hS1 => ?_)
  have e6 : (va_up (fun i => (sQ S a i).map ρ) i.toNatClampNeg (some (ρ x))) = (fun j => (va_up (sQ S a) i.toNatClampNeg (some x) j).map ρ) := by
    funext j
    unfold va_up
    split <;> rfl
  rw [e6] at hP1 hD1
  have e7 : (pool cy ρ S).set q0 (ρ a, .inl (cy 12, tn a, .inr (.inr (.inr (.inr (fun j => (va_up (sQ S a) i.toNatClampNeg (some x) j).map ρ)))))) = pool cy ρ (setQ S a (va_up (sQ S a) i.toNatClampNeg (some x))) := pool_set hD hq0 rfl (by rw [← hK0]; exact pf_setQ (by omega)) pf_setQ2
  rw [e7] at hP1 hD1
  exact h p e s m args below meth c H1 locs1 ls A ρ L0 ρ0 X hK hA hP1 hD1 hS1 hl hoL hoS.2.2.2 hρ hLL
theorem r_aald13 {a : Nat} {i : Int32} (hd : decode b pc = .ok (.aaload, 1)) (hK0 : tk a = 13) (hi : vp_in i (tn a)) (hv : okV (sL S) (va_rf (sQ S a i.toNatClampNeg))) (h : R l G cy y b nL rt d mc ms Q (pc + 1) lv (va_rf (sQ S a i.toNatClampNeg) :: st) S k n) : R l G cy y b nL rt d mc ms Q pc lv (.int i :: .ref a :: st) S k n := by
  intro p e s m args below meth c H locs ls A ρ L0 ρ0 X hK hA hP hD hS hl hoL hoS hρ hLL
  obtain ⟨hx, hb, hr, hml, hown, hts, hlk, hnm⟩ := id X
  obtain ⟨q0, hq0⟩ := List.getElem?_of_mem hoS.2.1
  have hq := pool_at (cy := cy) (ρ := ρ) hq0
  rw [pf_arq (by omega), hK0] at hq
  have h' := (h p e s m args below meth c H locs ls A ρ L0 ρ0 X hK hA hP hD hS hl hoL ⟨hv, hoS.2.2⟩ hρ hLL)
  rw [List.map_cons, rn_rf] at h'
  exact va_aldq hx hb hK.1 hP q0 3 hq rfl hi hd h'
theorem r_aast13 {a x : Nat} {i : Int32} (hd : decode b pc = .ok (.aastore, 1)) (hK0 : tk a = 13) (hK2 : tk x = 2) (hi : vp_in i (tn a)) (h : R l G cy y b nL rt d mc ms Q (pc + 1) lv st (setQ S a (va_up (sQ S a) i.toNatClampNeg (some x))) k n) : R l G cy y b nL rt d mc ms Q pc lv (.ref x :: .int i :: .ref a :: st) S k n := by
  intro p e s m args below meth c H locs ls A ρ L0 ρ0 X hK hA hP hD hS hl hoL hoS hρ hLL
  obtain ⟨hx, hb, hr, hml, hown, hts, hlk, hnm⟩ := id X
  obtain ⟨q0, hq0⟩ := List.getElem?_of_mem hoS.2.2.1
  have hq := pool_at (cy := cy) (ρ := ρ) hq0
  rw [pf_arq (by omega), hK0] at hq
  obtain ⟨q2, hq2⟩ := List.getElem?_of_mem hoS.1
  have hq2 := pool_at (cy := cy) (ρ := ρ) hq2
  rw [pf_obj hK2 (by omega)] at hq2
  refine va_astq (r := (RX2, TX2, 11)) hx hb hK.1 hP hD hS q0 3 q2 2 hq rfl hq2 rfl hi hd (fun H1 locs1 hP1 hD1 hS1 => ?_)
  have e6 : (va_up (fun i => (sQ S a i).map ρ) i.toNatClampNeg (some (ρ x))) = (fun j => (va_up (sQ S a) i.toNatClampNeg (some x) j).map ρ) := by
    funext j
    unfold va_up
    split <;> rfl
  rw [e6] at hP1 hD1
  have e7 : (pool cy ρ S).set q0 (ρ a, .inl (cy 13, tn a, .inr (.inr (.inr (.inr (fun j => (va_up (sQ S a) i.toNatClampNeg (some x) j).map ρ)))))) = pool cy ρ (setQ S a (va_up (sQ S a) i.toNatClampNeg (some x))) := pool_set hD hq0 rfl (by rw [← hK0]; exact pf_setQ (by omega)) pf_setQ2
  rw [e7] at hP1 hD1
  exact h p e s m args below meth c H1 locs1 ls A ρ L0 ρ0 X hK hA hP1 hD1 hS1 hl hoL hoS.2.2.2 hρ hLL
theorem r_aald14 {a : Nat} {i : Int32} (hd : decode b pc = .ok (.aaload, 1)) (hK0 : tk a = 14) (hi : vp_in i (tn a)) (hv : okV (sL S) (va_rf (sQ S a i.toNatClampNeg))) (h : R l G cy y b nL rt d mc ms Q (pc + 1) lv (va_rf (sQ S a i.toNatClampNeg) :: st) S k n) : R l G cy y b nL rt d mc ms Q pc lv (.int i :: .ref a :: st) S k n := by
  intro p e s m args below meth c H locs ls A ρ L0 ρ0 X hK hA hP hD hS hl hoL hoS hρ hLL
  obtain ⟨hx, hb, hr, hml, hown, hts, hlk, hnm⟩ := id X
  obtain ⟨q0, hq0⟩ := List.getElem?_of_mem hoS.2.1
  have hq := pool_at (cy := cy) (ρ := ρ) hq0
  rw [pf_arq (by omega), hK0] at hq
  have h' := (h p e s m args below meth c H locs ls A ρ L0 ρ0 X hK hA hP hD hS hl hoL ⟨hv, hoS.2.2⟩ hρ hLL)
  rw [List.map_cons, rn_rf] at h'
  exact va_aldq hx hb hK.1 hP q0 4 hq rfl hi hd h'
theorem r_aast14 {a x : Nat} {i : Int32} (hd : decode b pc = .ok (.aastore, 1)) (hK0 : tk a = 14) (hK2 : tk x = 5) (hi : vp_in i (tn a)) (h : R l G cy y b nL rt d mc ms Q (pc + 1) lv st (setQ S a (va_up (sQ S a) i.toNatClampNeg (some x))) k n) : R l G cy y b nL rt d mc ms Q pc lv (.ref x :: .int i :: .ref a :: st) S k n := by
  intro p e s m args below meth c H locs ls A ρ L0 ρ0 X hK hA hP hD hS hl hoL hoS hρ hLL
  obtain ⟨hx, hb, hr, hml, hown, hts, hlk, hnm⟩ := id X
  obtain ⟨q0, hq0⟩ := List.getElem?_of_mem hoS.2.2.1
  have hq := pool_at (cy := cy) (ρ := ρ) hq0
  rw [pf_arq (by omega), hK0] at hq
  obtain ⟨q2, hq2⟩ := List.getElem?_of_mem hoS.1
  have hq2 := pool_at (cy := cy) (ρ := ρ) hq2
  rw [pf_obj hK2 (by omega)] at hq2
  refine va_astq (r := (RX5, TX5, 2)) hx hb hK.1 hP hD hS q0 4 q2 5 hq rfl hq2 rfl hi hd (fun H1 locs1 hP1 hD1 hS1 => ?_)
  have e6 : (va_up (fun i => (sQ S a i).map ρ) i.toNatClampNeg (some (ρ x))) = (fun j => (va_up (sQ S a) i.toNatClampNeg (some x) j).map ρ) := by
    funext j
    unfold va_up
    split <;> rfl
  rw [e6] at hP1 hD1
  have e7 : (pool cy ρ S).set q0 (ρ a, .inl (cy 14, tn a, .inr (.inr (.inr (.inr (fun j => (va_up (sQ S a) i.toNatClampNeg (some x) j).map ρ)))))) = pool cy ρ (setQ S a (va_up (sQ S a) i.toNatClampNeg (some x))) := pool_set hD hq0 rfl (by rw [← hK0]; exact pf_setQ (by omega)) pf_setQ2
  rw [e7] at hP1 hD1
  exact h p e s m args below meth c H1 locs1 ls A ρ L0 ρ0 X hK hA hP1 hD1 hS1 hl hoL hoS.2.2.2 hρ hLL
theorem r_aald15 {a : Nat} {i : Int32} (hd : decode b pc = .ok (.aaload, 1)) (hK0 : tk a = 15) (hi : vp_in i (tn a)) (hv : okV (sL S) (va_rf (sQ S a i.toNatClampNeg))) (h : R l G cy y b nL rt d mc ms Q (pc + 1) lv (va_rf (sQ S a i.toNatClampNeg) :: st) S k n) : R l G cy y b nL rt d mc ms Q pc lv (.int i :: .ref a :: st) S k n := by
  intro p e s m args below meth c H locs ls A ρ L0 ρ0 X hK hA hP hD hS hl hoL hoS hρ hLL
  obtain ⟨hx, hb, hr, hml, hown, hts, hlk, hnm⟩ := id X
  obtain ⟨q0, hq0⟩ := List.getElem?_of_mem hoS.2.1
  have hq := pool_at (cy := cy) (ρ := ρ) hq0
  rw [pf_arq (by omega), hK0] at hq
  have h' := (h p e s m args below meth c H locs ls A ρ L0 ρ0 X hK hA hP hD hS hl hoL ⟨hv, hoS.2.2⟩ hρ hLL)
  rw [List.map_cons, rn_rf] at h'
  exact va_aldq hx hb hK.1 hP q0 5 hq rfl hi hd h'
theorem r_aast15 {a x : Nat} {i : Int32} (hd : decode b pc = .ok (.aastore, 1)) (hK0 : tk a = 15) (hK2 : tk x = 7) (hi : vp_in i (tn a)) (h : R l G cy y b nL rt d mc ms Q (pc + 1) lv st (setQ S a (va_up (sQ S a) i.toNatClampNeg (some x))) k n) : R l G cy y b nL rt d mc ms Q pc lv (.ref x :: .int i :: .ref a :: st) S k n := by
  intro p e s m args below meth c H locs ls A ρ L0 ρ0 X hK hA hP hD hS hl hoL hoS hρ hLL
  obtain ⟨hx, hb, hr, hml, hown, hts, hlk, hnm⟩ := id X
  obtain ⟨q0, hq0⟩ := List.getElem?_of_mem hoS.2.2.1
  have hq := pool_at (cy := cy) (ρ := ρ) hq0
  rw [pf_arq (by omega), hK0] at hq
  obtain ⟨q2, hq2⟩ := List.getElem?_of_mem hoS.1
  have hq2 := pool_at (cy := cy) (ρ := ρ) hq2
  rw [pf_obj hK2 (by omega)] at hq2
  refine va_astq (r := (RX7, TX7, 5)) hx hb hK.1 hP hD hS q0 5 q2 7 hq rfl hq2 rfl hi hd (fun H1 locs1 hP1 hD1 hS1 => ?_)
  have e6 : (va_up (fun i => (sQ S a i).map ρ) i.toNatClampNeg (some (ρ x))) = (fun j => (va_up (sQ S a) i.toNatClampNeg (some x) j).map ρ) := by
    funext j
    unfold va_up
    split <;> rfl
  rw [e6] at hP1 hD1
  have e7 : (pool cy ρ S).set q0 (ρ a, .inl (cy 15, tn a, .inr (.inr (.inr (.inr (fun j => (va_up (sQ S a) i.toNatClampNeg (some x) j).map ρ)))))) = pool cy ρ (setQ S a (va_up (sQ S a) i.toNatClampNeg (some x))) := pool_set hD hq0 rfl (by rw [← hK0]; exact pf_setQ (by omega)) pf_setQ2
  rw [e7] at hP1 hD1
  exact h p e s m args below meth c H1 locs1 ls A ρ L0 ρ0 X hK hA hP1 hD1 hS1 hl hoL hoS.2.2.2 hρ hLL
theorem r_new (t : Nat) {ci idx : Nat} (hd : decode b pc = .ok (.new idx, 3)) (hk : LkN y.cls idx ci) (ht : tk t = ci) (hL : t ∉ sL S) (hF : Fr t S) (h1 : k + 1 ≤ mc) (h2 : n + nF ci ≤ ms) (h : R l G cy y b nL rt d mc ms Q (pc + 3) lv (.ref t :: st) (newO S t) (k + 1) (n + nF ci)) : R l G cy y b nL rt d mc ms Q pc lv st S k n := by
  intro p e s m args below meth c H locs ls A ρ L0 ρ0 X hK hA hP hD hS hl hoL hoS hρ hLL
  obtain ⟨hx, hb, hr, hml, hown, hts, hlk, hnm⟩ := id X
  obtain ⟨C, T, N, ty, ⟨c1, c2, c3, c4, c5, c6, c7⟩, w1, w2, w3⟩ := hk
  subst c2
  refine va_new (fs := dfs ci) hx hb hts (fun w h => TBc (c4 w h)) ty c5 hown (hts _ (TBc w1)) (hts _ (TBc w2)) (hts _ (TBc w3)) hK.1 hP hD hS hA c1 ?_ h1 h2 hd (fun q H1 hP1 hD1 hS1 => ?_)
  · intro j hj
    have e1 : vp_V (dfs ci) j = if fR ci j = true then Value.null else .int 0 := by simp [vp_V, dfs, List.getD, hj]
    rw [e1]
    rcases c7 j hj with ⟨a1, a2⟩ | ⟨a1, a2⟩
    · rw [a1, a2]; rfl
    · rw [a1, if_pos rfl]
      cases ht : ty j <;> rw [ht] at a2 <;> simp [isRefTy] at a2 <;> rfl
  · have hne : ∀ t' ∈ sL S, t' ≠ t := fun t' h1 h2 => hL (h2 ▸ h1)
    have hag : ∀ t' ∈ sL S, va_up ρ t q t' = ρ t' := fun t' h1 => va_up_ne _ _ (hne t' h1)
    have e7 : pool cy ρ S ++ [(q, .inr (ci, dfs ci))] = pool cy (va_up ρ t q) (newO S t) := pool_push rfl (va_up_self _ _ _) (pf_newO ht c3) (fun t' h1 => ⟨hag t' h1, pf_newO2 hF t' (hne t' h1)⟩)
    rw [e7] at hP1 hD1
    have hl' : lhm ls nL (va_up ρ t q) lv := by
      unfold lhm at hl ⊢
      rw [rnL_eq hag hoL]
      exact hl
    have hsub : ∀ t' ∈ sL S, t' ∈ sL (newO S t) := fun t' h1 => List.mem_append_left _ h1
    have h' := h p e s m args below meth c H1 locs ls A (va_up ρ t q) L0 ρ0 X hK hA hP1 hD1 hS1 hl' (okL_mono hsub hoL) ⟨List.mem_append_right _ (List.mem_singleton.mpr rfl), okS_mono hsub hoS⟩ (fun t' h1 => (hag t' (hLL t' h1)).trans (hρ t' h1)) (fun t' h1 => hsub t' (hLL t' h1))
    rw [List.map_cons, rnS_eq hag hoS] at h'
    have e5 : rn (va_up ρ t q) (.ref t) = .ref q := congrArg Value.ref (va_up_self _ _ _)
    rw [e5] at h'
    exact h'

theorem r_newI (t : Nat) {N : Nat} {z : Int32} (hd : decode b pc = .ok (.newarray .int, 2)) (hw : Cond.arrayClass .int ∈ TB) (hz : ¬ z < 0) (hN : z.toNatClampNeg = N) (hs : N * componentBytes .int ≤ 536870912) (ht : tk t = 10) (htn : tn t = N) (hL : t ∉ sL S) (hF : Fr t S) (h1 : k + 1 ≤ mc) (h2 : n + N ≤ ms) (h : R l G cy y b nL rt d mc ms Q (pc + 2) lv (.ref t :: st) (newA S t) (k + 1) (n + N)) : R l G cy y b nL rt d mc ms Q pc lv (.int z :: st) S k n := by
  intro p e s m args below meth c H locs ls A ρ L0 ρ0 X hK hA hP hD hS hl hoL hoS hρ hLL
  obtain ⟨hx, hb, hr, hml, hown, hts, hlk, hnm⟩ := id X
  refine va_newa (atype := .int) (ty := .int) (a0 := (N, .inl (fun _ => 0))) hx hb (hts _ (TBc hw)) rfl hK.1 hP hD hS hA (fun cA => by rw [vp_cell_i] <;> rfl) hz hN hs h1 h2 hd (fun q cA H1 hK1 hP1 hD1 hS1 => ?_)
  have hc : cA = cy 10 := by
    have e1 := (hK1.2 6 (cA, .int) rfl).2
    have e2 := (hK.1.2 0 (cy 10, .int) rfl).2
    exact Option.some.inj (e1.symm.trans e2)
  subst hc
  have hne : ∀ t' ∈ sL S, t' ≠ t := fun t' h1 h2 => hL (h2 ▸ h1)
  have hag : ∀ t' ∈ sL S, va_up ρ t q t' = ρ t' := fun t' h1 => va_up_ne _ _ (hne t' h1)
  have e7 : pool cy ρ S ++ [(q, .inl (cy 10, N, .inl (fun _ => 0)))] = pool cy (va_up ρ t q) (newA S t) := pool_push rfl (va_up_self _ _ _) (by rw [← htn, ← ht]; exact pf_newA (by omega) (by omega)) (fun t' h1 => ⟨hag t' h1, pf_newA2 hF t' (hne t' h1)⟩)
  rw [e7] at hP1 hD1
  have hl' : lhm ls nL (va_up ρ t q) lv := by
    unfold lhm at hl ⊢
    rw [rnL_eq hag hoL]
    exact hl
  have hsub : ∀ t' ∈ sL S, t' ∈ sL (newA S t) := fun t' h1 => List.mem_append_left _ h1
  have h' := h p e s m args below meth c H1 locs ls A (va_up ρ t q) L0 ρ0 X hK hA hP1 hD1 hS1 hl' (okL_mono hsub hoL) ⟨List.mem_append_right _ (List.mem_singleton.mpr rfl), okS_mono hsub hoS.2⟩ (fun t' h1 => (hag t' (hLL t' h1)).trans (hρ t' h1)) (fun t' h1 => hsub t' (hLL t' h1))
  rw [List.map_cons, rnS_eq hag hoS.2] at h'
  have e5 : rn (va_up ρ t q) (.ref t) = .ref q := congrArg Value.ref (va_up_self _ _ _)
  rw [e5] at h'
  exact h'

theorem r_newZ (t : Nat) {N : Nat} {z : Int32} (hd : decode b pc = .ok (.newarray .boolean, 2)) (hw : Cond.arrayClass .boolean ∈ TB) (hz : ¬ z < 0) (hN : z.toNatClampNeg = N) (hs : N * componentBytes .boolean ≤ 536870912) (ht : tk t = 11) (htn : tn t = N) (hL : t ∉ sL S) (hF : Fr t S) (h1 : k + 1 ≤ mc) (h2 : n + N ≤ ms) (h : R l G cy y b nL rt d mc ms Q (pc + 2) lv (.ref t :: st) (newA S t) (k + 1) (n + N)) : R l G cy y b nL rt d mc ms Q pc lv (.int z :: st) S k n := by
  intro p e s m args below meth c H locs ls A ρ L0 ρ0 X hK hA hP hD hS hl hoL hoS hρ hLL
  obtain ⟨hx, hb, hr, hml, hown, hts, hlk, hnm⟩ := id X
  refine va_newa (atype := .boolean) (ty := .boolean) (a0 := (N, .inl (fun _ => 0))) hx hb (hts _ (TBc hw)) rfl hK.1 hP hD hS hA (fun cA => by rw [vp_cell_i] <;> rfl) hz hN hs h1 h2 hd (fun q cA H1 hK1 hP1 hD1 hS1 => ?_)
  have hc : cA = cy 11 := by
    have e1 := (hK1.2 6 (cA, .boolean) rfl).2
    have e2 := (hK.1.2 1 (cy 11, .boolean) rfl).2
    exact Option.some.inj (e1.symm.trans e2)
  subst hc
  have hne : ∀ t' ∈ sL S, t' ≠ t := fun t' h1 h2 => hL (h2 ▸ h1)
  have hag : ∀ t' ∈ sL S, va_up ρ t q t' = ρ t' := fun t' h1 => va_up_ne _ _ (hne t' h1)
  have e7 : pool cy ρ S ++ [(q, .inl (cy 11, N, .inl (fun _ => 0)))] = pool cy (va_up ρ t q) (newA S t) := pool_push rfl (va_up_self _ _ _) (by rw [← htn, ← ht]; exact pf_newA (by omega) (by omega)) (fun t' h1 => ⟨hag t' h1, pf_newA2 hF t' (hne t' h1)⟩)
  rw [e7] at hP1 hD1
  have hl' : lhm ls nL (va_up ρ t q) lv := by
    unfold lhm at hl ⊢
    rw [rnL_eq hag hoL]
    exact hl
  have hsub : ∀ t' ∈ sL S, t' ∈ sL (newA S t) := fun t' h1 => List.mem_append_left _ h1
  have h' := h p e s m args below meth c H1 locs ls A (va_up ρ t q) L0 ρ0 X hK hA hP1 hD1 hS1 hl' (okL_mono hsub hoL) ⟨List.mem_append_right _ (List.mem_singleton.mpr rfl), okS_mono hsub hoS.2⟩ (fun t' h1 => (hag t' (hLL t' h1)).trans (hρ t' h1)) (fun t' h1 => hsub t' (hLL t' h1))
  rw [List.map_cons, rnS_eq hag hoS.2] at h'
  have e5 : rn (va_up ρ t q) (.ref t) = .ref q := congrArg Value.ref (va_up_self _ _ _)
  rw [e5] at h'
  exact h'

theorem r_newq12 (t : Nat) {N idx : Nat} {z : Int32} (hd : decode b pc = .ok (.anewarray idx, 3)) (hw : Cond.classLink y.cls idx RX0 ∈ TB) (hz : ¬ z < 0) (hN : z.toNatClampNeg = N) (hs : N * 4 ≤ 536870912) (ht : tk t = 12) (htn : tn t = N) (hL : t ∉ sL S) (hF : Fr t S) (h1 : k + 1 ≤ mc) (h2 : n + N ≤ ms) (h : R l G cy y b nL rt d mc ms Q (pc + 3) lv (.ref t :: st) (newA S t) (k + 1) (n + N)) : R l G cy y b nL rt d mc ms Q pc lv (.int z :: st) S k n := by
  intro p e s m args below meth c H locs ls A ρ L0 ρ0 X hK hA hP hD hS hl hoL hoS hρ hLL
  obtain ⟨hx, hb, hr, hml, hown, hts, hlk, hnm⟩ := id X
  refine va_newq hx hb hown (hts _ (TBc hw)) hK.2.2.1 hK.1 hP hD hS hA hz hN hs h1 h2 hd (fun q cA H1 hK1 hP1 hD1 hS1 => ?_)
  have hc : cA = cy 12 := by
    obtain ⟨_, _, _, _, _, e1⟩ := (hK1.2 6 (cA, .object RX0) rfl).2
    obtain ⟨_, _, _, _, _, e2⟩ := (hK.1.2 2 (cy 12, .object RX0) rfl).2
    exact Option.some.inj (e1.symm.trans e2)
  subst hc
  have hne : ∀ t' ∈ sL S, t' ≠ t := fun t' h1 h2 => hL (h2 ▸ h1)
  have hag : ∀ t' ∈ sL S, va_up ρ t q t' = ρ t' := fun t' h1 => va_up_ne _ _ (hne t' h1)
  have e7 : pool cy ρ S ++ [(q, .inl (cy 12, N, .inr (.inr (.inr (.inr (fun _ => none))))))] = pool cy (va_up ρ t q) (newA S t) := pool_push rfl (va_up_self _ _ _) (by rw [← htn, ← ht]; exact pf_newQ (by omega)) (fun t' h1 => ⟨hag t' h1, pf_newA2 hF t' (hne t' h1)⟩)
  rw [e7] at hP1 hD1
  have hl' : lhm ls nL (va_up ρ t q) lv := by
    unfold lhm at hl ⊢
    rw [rnL_eq hag hoL]
    exact hl
  have hsub : ∀ t' ∈ sL S, t' ∈ sL (newA S t) := fun t' h1 => List.mem_append_left _ h1
  have h' := h p e s m args below meth c H1 locs ls A (va_up ρ t q) L0 ρ0 X hK hA hP1 hD1 hS1 hl' (okL_mono hsub hoL) ⟨List.mem_append_right _ (List.mem_singleton.mpr rfl), okS_mono hsub hoS.2⟩ (fun t' h1 => (hag t' (hLL t' h1)).trans (hρ t' h1)) (fun t' h1 => hsub t' (hLL t' h1))
  rw [List.map_cons, rnS_eq hag hoS.2] at h'
  have e5 : rn (va_up ρ t q) (.ref t) = .ref q := congrArg Value.ref (va_up_self _ _ _)
  rw [e5] at h'
  exact h'

theorem r_newq13 (t : Nat) {N idx : Nat} {z : Int32} (hd : decode b pc = .ok (.anewarray idx, 3)) (hw : Cond.classLink y.cls idx RX2 ∈ TB) (hz : ¬ z < 0) (hN : z.toNatClampNeg = N) (hs : N * 4 ≤ 536870912) (ht : tk t = 13) (htn : tn t = N) (hL : t ∉ sL S) (hF : Fr t S) (h1 : k + 1 ≤ mc) (h2 : n + N ≤ ms) (h : R l G cy y b nL rt d mc ms Q (pc + 3) lv (.ref t :: st) (newA S t) (k + 1) (n + N)) : R l G cy y b nL rt d mc ms Q pc lv (.int z :: st) S k n := by
  intro p e s m args below meth c H locs ls A ρ L0 ρ0 X hK hA hP hD hS hl hoL hoS hρ hLL
  obtain ⟨hx, hb, hr, hml, hown, hts, hlk, hnm⟩ := id X
  refine va_newq hx hb hown (hts _ (TBc hw)) hK.2.2.2.1 hK.1 hP hD hS hA hz hN hs h1 h2 hd (fun q cA H1 hK1 hP1 hD1 hS1 => ?_)
  have hc : cA = cy 13 := by
    obtain ⟨_, _, _, _, _, e1⟩ := (hK1.2 6 (cA, .object RX2) rfl).2
    obtain ⟨_, _, _, _, _, e2⟩ := (hK.1.2 3 (cy 13, .object RX2) rfl).2
    exact Option.some.inj (e1.symm.trans e2)
  subst hc
  have hne : ∀ t' ∈ sL S, t' ≠ t := fun t' h1 h2 => hL (h2 ▸ h1)
  have hag : ∀ t' ∈ sL S, va_up ρ t q t' = ρ t' := fun t' h1 => va_up_ne _ _ (hne t' h1)
  have e7 : pool cy ρ S ++ [(q, .inl (cy 13, N, .inr (.inr (.inr (.inr (fun _ => none))))))] = pool cy (va_up ρ t q) (newA S t) := pool_push rfl (va_up_self _ _ _) (by rw [← htn, ← ht]; exact pf_newQ (by omega)) (fun t' h1 => ⟨hag t' h1, pf_newA2 hF t' (hne t' h1)⟩)
  rw [e7] at hP1 hD1
  have hl' : lhm ls nL (va_up ρ t q) lv := by
    unfold lhm at hl ⊢
    rw [rnL_eq hag hoL]
    exact hl
  have hsub : ∀ t' ∈ sL S, t' ∈ sL (newA S t) := fun t' h1 => List.mem_append_left _ h1
  have h' := h p e s m args below meth c H1 locs ls A (va_up ρ t q) L0 ρ0 X hK hA hP1 hD1 hS1 hl' (okL_mono hsub hoL) ⟨List.mem_append_right _ (List.mem_singleton.mpr rfl), okS_mono hsub hoS.2⟩ (fun t' h1 => (hag t' (hLL t' h1)).trans (hρ t' h1)) (fun t' h1 => hsub t' (hLL t' h1))
  rw [List.map_cons, rnS_eq hag hoS.2] at h'
  have e5 : rn (va_up ρ t q) (.ref t) = .ref q := congrArg Value.ref (va_up_self _ _ _)
  rw [e5] at h'
  exact h'

theorem r_newq14 (t : Nat) {N idx : Nat} {z : Int32} (hd : decode b pc = .ok (.anewarray idx, 3)) (hw : Cond.classLink y.cls idx RX5 ∈ TB) (hz : ¬ z < 0) (hN : z.toNatClampNeg = N) (hs : N * 4 ≤ 536870912) (ht : tk t = 14) (htn : tn t = N) (hL : t ∉ sL S) (hF : Fr t S) (h1 : k + 1 ≤ mc) (h2 : n + N ≤ ms) (h : R l G cy y b nL rt d mc ms Q (pc + 3) lv (.ref t :: st) (newA S t) (k + 1) (n + N)) : R l G cy y b nL rt d mc ms Q pc lv (.int z :: st) S k n := by
  intro p e s m args below meth c H locs ls A ρ L0 ρ0 X hK hA hP hD hS hl hoL hoS hρ hLL
  obtain ⟨hx, hb, hr, hml, hown, hts, hlk, hnm⟩ := id X
  refine va_newq hx hb hown (hts _ (TBc hw)) hK.2.2.2.2.1 hK.1 hP hD hS hA hz hN hs h1 h2 hd (fun q cA H1 hK1 hP1 hD1 hS1 => ?_)
  have hc : cA = cy 14 := by
    obtain ⟨_, _, _, _, _, e1⟩ := (hK1.2 6 (cA, .object RX5) rfl).2
    obtain ⟨_, _, _, _, _, e2⟩ := (hK.1.2 4 (cy 14, .object RX5) rfl).2
    exact Option.some.inj (e1.symm.trans e2)
  subst hc
  have hne : ∀ t' ∈ sL S, t' ≠ t := fun t' h1 h2 => hL (h2 ▸ h1)
  have hag : ∀ t' ∈ sL S, va_up ρ t q t' = ρ t' := fun t' h1 => va_up_ne _ _ (hne t' h1)
  have e7 : pool cy ρ S ++ [(q, .inl (cy 14, N, .inr (.inr (.inr (.inr (fun _ => none))))))] = pool cy (va_up ρ t q) (newA S t) := pool_push rfl (va_up_self _ _ _) (by rw [← htn, ← ht]; exact pf_newQ (by omega)) (fun t' h1 => ⟨hag t' h1, pf_newA2 hF t' (hne t' h1)⟩)
  rw [e7] at hP1 hD1
  have hl' : lhm ls nL (va_up ρ t q) lv := by
    unfold lhm at hl ⊢
    rw [rnL_eq hag hoL]
    exact hl
  have hsub : ∀ t' ∈ sL S, t' ∈ sL (newA S t) := fun t' h1 => List.mem_append_left _ h1
  have h' := h p e s m args below meth c H1 locs ls A (va_up ρ t q) L0 ρ0 X hK hA hP1 hD1 hS1 hl' (okL_mono hsub hoL) ⟨List.mem_append_right _ (List.mem_singleton.mpr rfl), okS_mono hsub hoS.2⟩ (fun t' h1 => (hag t' (hLL t' h1)).trans (hρ t' h1)) (fun t' h1 => hsub t' (hLL t' h1))
  rw [List.map_cons, rnS_eq hag hoS.2] at h'
  have e5 : rn (va_up ρ t q) (.ref t) = .ref q := congrArg Value.ref (va_up_self _ _ _)
  rw [e5] at h'
  exact h'

theorem r_newq15 (t : Nat) {N idx : Nat} {z : Int32} (hd : decode b pc = .ok (.anewarray idx, 3)) (hw : Cond.classLink y.cls idx RX7 ∈ TB) (hz : ¬ z < 0) (hN : z.toNatClampNeg = N) (hs : N * 4 ≤ 536870912) (ht : tk t = 15) (htn : tn t = N) (hL : t ∉ sL S) (hF : Fr t S) (h1 : k + 1 ≤ mc) (h2 : n + N ≤ ms) (h : R l G cy y b nL rt d mc ms Q (pc + 3) lv (.ref t :: st) (newA S t) (k + 1) (n + N)) : R l G cy y b nL rt d mc ms Q pc lv (.int z :: st) S k n := by
  intro p e s m args below meth c H locs ls A ρ L0 ρ0 X hK hA hP hD hS hl hoL hoS hρ hLL
  obtain ⟨hx, hb, hr, hml, hown, hts, hlk, hnm⟩ := id X
  refine va_newq hx hb hown (hts _ (TBc hw)) hK.2.2.2.2.2 hK.1 hP hD hS hA hz hN hs h1 h2 hd (fun q cA H1 hK1 hP1 hD1 hS1 => ?_)
  have hc : cA = cy 15 := by
    obtain ⟨_, _, _, _, _, e1⟩ := (hK1.2 6 (cA, .object RX7) rfl).2
    obtain ⟨_, _, _, _, _, e2⟩ := (hK.1.2 5 (cy 15, .object RX7) rfl).2
    exact Option.some.inj (e1.symm.trans e2)
  subst hc
  have hne : ∀ t' ∈ sL S, t' ≠ t := fun t' h1 h2 => hL (h2 ▸ h1)
  have hag : ∀ t' ∈ sL S, va_up ρ t q t' = ρ t' := fun t' h1 => va_up_ne _ _ (hne t' h1)
  have e7 : pool cy ρ S ++ [(q, .inl (cy 15, N, .inr (.inr (.inr (.inr (fun _ => none))))))] = pool cy (va_up ρ t q) (newA S t) := pool_push rfl (va_up_self _ _ _) (by rw [← htn, ← ht]; exact pf_newQ (by omega)) (fun t' h1 => ⟨hag t' h1, pf_newA2 hF t' (hne t' h1)⟩)
  rw [e7] at hP1 hD1
  have hl' : lhm ls nL (va_up ρ t q) lv := by
    unfold lhm at hl ⊢
    rw [rnL_eq hag hoL]
    exact hl
  have hsub : ∀ t' ∈ sL S, t' ∈ sL (newA S t) := fun t' h1 => List.mem_append_left _ h1
  have h' := h p e s m args below meth c H1 locs ls A (va_up ρ t q) L0 ρ0 X hK hA hP1 hD1 hS1 hl' (okL_mono hsub hoL) ⟨List.mem_append_right _ (List.mem_singleton.mpr rfl), okS_mono hsub hoS.2⟩ (fun t' h1 => (hag t' (hLL t' h1)).trans (hρ t' h1)) (fun t' h1 => hsub t' (hLL t' h1))
  rw [List.map_cons, rnS_eq hag hoS.2] at h'
  have e5 : rn (va_up ρ t q) (.ref t) = .ref q := congrArg Value.ref (va_up_self _ _ _)
  rw [e5] at h'
  exact h'

theorem cat_map (ρ : Nat → Nat) : ∀ (st : List Value), ((st.map (rn ρ)).map fun v => v.category).sum = (st.map fun v => v.category).sum
  | [] => rfl
  | v :: r => by
    have ih := cat_map ρ r
    simp only [List.map_cons, List.sum_cons, rn_cat] at ih ⊢
    rw [ih]
def LkMmin (own : String) (idx : Nat) : Prop := Cond.methodLink own idx Lib.Math.min.name ∈ TB ∧ Cond.static Lib.Math.min.name ∈ TB ∧ Cond.initialized "java/lang/Math" ∈ TB ∧ Cond.code Lib.Math.min.name Lib.Math.min.code 2 (some .int) ∈ TB
theorem r_mmin {idx : Nat} {x z : Int32} (hd : decode b pc = .ok (.invokestatic idx, 3)) (hw : LkMmin y.cls idx) (hd1 : 1 ≤ d) (hst : (st.map fun v => v.category).sum ≤ 8) (h1 : k ≤ mc) (h2 : n ≤ ms) (h : R l G cy y b nL rt d mc ms Q (pc + 3) lv (.int (if z < x then z else x) :: st) S k n) : R l G cy y b nL rt d mc ms Q pc lv (.int z :: .int x :: st) S k n := by
  intro p e s m args below meth c H locs ls A ρ L0 ρ0 X hK hA hP hD hS hl hoL hoS hρ hLL
  obtain ⟨hx, hb, hr, hml, hown, hts, hlk, hnm⟩ := id X
  have hl1 : c.maxLocals = ls.size := hml.trans hl.1.symm
  exact va_mmin hx hb hl1 hown (hts _ (TBc hw.1)) (hts _ (TBc hw.2.1)) (hts _ (TBc hw.2.2.1)) (hts _ (TBc hw.2.2.2)) hd1 (by rw [cat_map]; show _ ≤ 40 * d; omega) h1 h2 hd (h p e s m args below meth c H locs ls A ρ L0 ρ0 X hK hA hP hD hS hl hoL ⟨trivial, hoS.2.2⟩ hρ hLL)
def LkMmax (own : String) (idx : Nat) : Prop := Cond.methodLink own idx Lib.Math.max.name ∈ TB ∧ Cond.static Lib.Math.max.name ∈ TB ∧ Cond.initialized "java/lang/Math" ∈ TB ∧ Cond.code Lib.Math.max.name Lib.Math.max.code 2 (some .int) ∈ TB
theorem r_mmax {idx : Nat} {x z : Int32} (hd : decode b pc = .ok (.invokestatic idx, 3)) (hw : LkMmax y.cls idx) (hd1 : 1 ≤ d) (hst : (st.map fun v => v.category).sum ≤ 8) (h1 : k ≤ mc) (h2 : n ≤ ms) (h : R l G cy y b nL rt d mc ms Q (pc + 3) lv (.int (if x < z then z else x) :: st) S k n) : R l G cy y b nL rt d mc ms Q pc lv (.int z :: .int x :: st) S k n := by
  intro p e s m args below meth c H locs ls A ρ L0 ρ0 X hK hA hP hD hS hl hoL hoS hρ hLL
  obtain ⟨hx, hb, hr, hml, hown, hts, hlk, hnm⟩ := id X
  have hl1 : c.maxLocals = ls.size := hml.trans hl.1.symm
  exact va_mmax hx hb hl1 hown (hts _ (TBc hw.1)) (hts _ (TBc hw.2.1)) (hts _ (TBc hw.2.2.1)) (hts _ (TBc hw.2.2.2)) hd1 (by rw [cat_map]; show _ ≤ 40 * d; omega) h1 h2 hd (h p e s m args below meth c H locs ls A ρ L0 ρ0 X hK hA hP hD hS hl hoL ⟨trivial, hoS.2.2⟩ hρ hLL)
def LkO (own : String) (idx : Nat) : Prop := Cond.methodLink own idx objectInit ∈ TB ∧ Cond.instanceMethod objectInit ∈ TB ∧ Cond.code objectInit ⟨#[0xb1]⟩ 1 none ∈ TB
theorem r_objInit {idx a : Nat} (hd : decode b pc = .ok (.invokespecial idx, 3)) (hw : LkO y.cls idx) (hd1 : 1 ≤ d) (hst : (st.map fun v => v.category).sum ≤ 8) (h : R l G cy y b nL rt d mc ms Q (pc + 3) lv st S k n) : R l G cy y b nL rt d mc ms Q pc lv (.ref a :: st) S k n := by
  intro p e s m args below meth c H locs ls A ρ L0 ρ0 X hK hA hP hD hS hl hoL hoS hρ hLL
  obtain ⟨hx, hb, hr, hml, hown, hts, hlk, hnm⟩ := id X
  have hl1 : ls.size = c.maxLocals := hl.1.trans hml.symm
  exact W.objInit hx hb hown (hts _ (TBc hw.1)) (hts _ (TBc hw.2.1)) (hts _ (TBc hw.2.2)) rfl hl1 rfl hd hd1 (by have := lv_room (m := m) (pc := pc) (ls := ls) (rest := ((Value.ref a :: st).map (rn ρ))) (st := st.map (rn ρ)) (by rw [cat_map]; exact hst); show _ ≤ 40 * d; omega) (h p e s m args below meth c H locs ls A ρ L0 ρ0 X hK hA hP hD hS hl hoL hoS.2 hρ hLL)
theorem Pcn.blind {ρ : Nat → Nat} {args : List Value} {sz : Nat} : FrameBlind (Pcn G cy ρ args S sz) := by
  intro a U g mk q
  obtain ⟨q0, q1, qP, qK, qD⟩ := q
  exact ⟨q0, q1, qP, qK.calling, qD⟩
theorem TBgood (y b nL rt) (y' b' nL' rt') (h : Cond.code y' b' nL' rt' ∈ TB) : GoodIn (Cond.code y b nL rt :: TB) (Cond.code y' b' nL' rt' :: TB) := by
  intro w hw
  rcases List.mem_cons.mp hw with rfl | hw
  · exact ⟨TBc h, good_of_word (TB_good h)⟩
  · exact ⟨TBc hw, good_of_word (TB_good hw)⟩
theorem okS_app {L : List Nat} : ∀ {a b : List Value}, okS L (a ++ b) ↔ okS L a ∧ okS L b
  | [], b => ⟨fun h => ⟨trivial, h⟩, fun h => h.2⟩
  | v :: r, b => ⟨fun h => ⟨⟨h.1, (okS_app.mp h.2).1⟩, (okS_app.mp h.2).2⟩, fun h => ⟨h.1.1, okS_app.mpr ⟨h.1.2, h.2⟩⟩⟩
theorem okS_rev {L : List Nat} : ∀ {a : List Value}, okS L a.reverse → okS L a
  | [], h => trivial
  | v :: r, h => by
    rw [List.reverse_cons] at h
    exact ⟨(okS_app.mp h).2.1, okS_rev (okS_app.mp h).1⟩
/-- behind any call: the heap is the callee's -/
theorem r_behind {Q' : Option Value → HS → Prop} {mc' ms' : Nat} {st0 rest : List Value} {a : Array Value} {p : Program} {e : Env} {s : State} {m : MethodId} {args : Array Value} {below : List Frame} {meth : Method} {c : Code} {H : Heap} {locs : List Loc} {ls : Array Slot} {A : Nat → Prop} {ρ : Nat → Nat} {L0 : List Nat} {ρ0 : Nat → Nat} (X : Cx y b nL rt p s m args meth c) (hK : KK G cy s) (hA : ∀ q : Nat, s.heap.size ≤ q → A q) (hP : va_P G vwCl (pool cy ρ S) H) (hD : va_D A (pool cy ρ S)) (hS : va_S A s.heap H locs) (hl : lhm ls nL ρ lv) (hoL : okL (sL S) lv) (hoR : okS (sL S) rest) (hρ : ∀ t ∈ L0, ρ t = ρ0 t) (hLL : ∀ t ∈ L0, t ∈ sL S)
    (hr : va_Run p l e (rmO d mc ms) s m args below meth c H locs k n mc' ms' (F0 m pc ls st0) (rest.map (rn ρ)) (Qcn G cy Q' (va_A (pool cy ρ S) H.size) (sL S) ρ a) (va_A (pool cy ρ S) H.size))
    (h : ∀ (v : Option Value) (S' : HS), Q' v S' → R l G cy y b nL rt d mc ms Q (pc + 3) lv (v.toList ++ rest) S' (k + mc') (n + ms')) : W p l e (rmO d mc ms) s m args below meth c H locs k n (MQ below (Qcn G cy Q A L0 ρ0) args s mc ms A) (F0 m pc ls st0) := by
  have hF : ∀ q, va_A (pool cy ρ S) H.size q → A q := by
    intro q hq
    rcases hq with ⟨i, e1, h1⟩ | h1
    · exact hD.2 i (q, e1) h1
    · exact hA q (Nat.le_trans hS.1 h1)
  intro T hT hst
  obtain ⟨v, st₀, t, T', L, h0, X', hL, e1, e2, ⟨⟨v', S', ρ', hv, hq, hρ', hLL', hov, hP1, hD1⟩, hz, hk⟩, stp⟩ := hr T hT hst
  cases hv
  rw [h0] at hz hk
  have hS1 : va_S A s.heap T'.heap (locs ++ L) := by
    refine ⟨Nat.le_trans hS.1 (by rw [e1]; exact hz), fun q h1 h2 => ?_, fun q hq => ?_⟩
    · rw [e1, hk q (Nat.lt_of_lt_of_le h1 hS.1) (fun z => h2 (hF q z))]
      exact hS.2.1 q h1 h2
    · rcases List.mem_append.mp hq with h9 | h9
      · exact hS.2.2 q h9
      · exact hF _ (hL q h9)
  have hl' : lhm ls nL ρ' lv := by
    unfold lhm at hl ⊢
    rw [rnL_eq hρ' hoL]
    exact hl
  have hos : okS (sL S') (v'.toList ++ rest) := by
    refine okS_app.mpr ⟨?_, okS_mono hLL' hoR⟩
    cases v' with
    | none => trivial
    | some x => exact ⟨hov x rfl, trivial⟩
  have e9 : (v'.toList ++ rest).map (rn ρ') = (v'.map (rn ρ')).toList ++ rest.map (rn ρ) := by
    rw [List.map_append, rnS_eq hρ' hoR]
    cases v' <;> rfl
  have hW := h v' S' hq p e s m args below meth c T'.heap (locs ++ L) ls A ρ' L0 ρ0 X hK hA (by rw [e1]; exact hP1) (hD1.weaken (fun i q _ hz => hF q.1 hz)) hS1 hl' (okL_mono hLL' hoL) hos (fun t ht => (hρ' t (hLL t ht)).trans (hρ t ht)) (fun t ht => hLL' t (hLL t ht))
  rw [e9] at hW
  obtain ⟨t2, a1, b1⟩ := hW T' rfl X'
  exact ⟨t2, stp t2 a1, b1⟩
/-- what a call wants of the tables: an instance method (virtual or private), a static one, a constructor, a nest mate's constructor -/
def LkV (own : String) (idx : Nat) (y' : MethodName) (b' : ByteArray) (nL' : Nat) (rt' : Option FieldType) (np ci : Nat) : Prop := Cond.methodLink own idx y' ∈ TB ∧ Cond.instanceMethod y' ∈ TB ∧ Cond.selects y'.cls y' y' ∈ TB ∧ Cond.initialized y'.cls ∈ TB ∧ Cond.code y' b' nL' rt' ∈ TB ∧ (y'.cls ≠ "java/lang/invoke/MethodHandle" ∧ y'.cls ≠ "java/lang/invoke/VarHandle" ∧ (parseMethodDescriptor y'.desc).map (fun d => d.parameters.length) = some np) ∧ nL' ≤ 21 ∧ ci < 10 ∧ ∃ q : vw_C, vwCl[ci]? = some q ∧ q.1 = y'.cls
def LkS (own : String) (idx : Nat) (y' : MethodName) (b' : ByteArray) (nL' : Nat) (rt' : Option FieldType) (np : Nat) : Prop := Cond.methodLink own idx y' ∈ TB ∧ Cond.static y' ∈ TB ∧ Cond.initialized y'.cls ∈ TB ∧ Cond.code y' b' nL' rt' ∈ TB ∧ (y'.cls ≠ "java/lang/invoke/MethodHandle" ∧ y'.cls ≠ "java/lang/invoke/VarHandle" ∧ (parseMethodDescriptor y'.desc).map (fun d => d.parameters.length) = some np) ∧ nL' ≤ 21
def LkI (own : String) (idx : Nat) (y' : MethodName) (b' : ByteArray) (nL' : Nat) (np : Nat) : Prop := (Cond.methodLink own idx y' ∈ TB ∨ Cond.methodLinkNest own idx y' RX8 ∈ nestW) ∧ Cond.instanceMethod y' ∈ TB ∧ Cond.initialized y'.cls ∈ TB ∧ Cond.code y' b' nL' none ∈ TB ∧ (y'.cls ≠ "java/lang/invoke/MethodHandle" ∧ y'.cls ≠ "java/lang/invoke/VarHandle" ∧ (parseMethodDescriptor y'.desc).map (fun d => d.parameters.length) = some np) ∧ nL' ≤ 21 ∧ y'.name = "<init>"

theorem r_callV {y' : MethodName} {b' : ByteArray} {nL' : Nat} {rt' : Option FieldType} {d' mc' ms' np ci idx o : Nat} {As rest : List Value} {Q' : Option Value → HS → Prop} (hd : decode b pc = .ok (.invokevirtual idx, 3)) (hk : LkV y.cls idx y' b' nL' rt' np ci) (hK0 : tk o = ci) (hC : Cn l G cy y' b' nL' rt' d' (.ref o :: As) S mc' ms' Q') (hnp : As.length = np) (hc : (rest.map fun v => v.category).sum ≤ 8) (hdd : d' + 1 ≤ d) (h1 : k + mc' ≤ mc) (h2 : n + ms' ≤ ms) (h : ∀ (v : Option Value) (S' : HS), Q' v S' → R l G cy y b nL rt d mc ms Q (pc + 3) lv (v.toList ++ rest) S' (k + mc') (n + ms')) : R l G cy y b nL rt d mc ms Q pc lv (As.reverse ++ .ref o :: rest) S k n := by
  intro p e s m args below meth c H locs ls A ρ L0 ρ0 X hK hA hP hD hS hl hoL hoS hρ hLL
  obtain ⟨hx, hb, hr, hml, hown, hts, hlk, hnm⟩ := id X
  obtain ⟨w1, w2, w3, w4, w5, w6, w7, w8, vq, w9, w10⟩ := hk
  have ho1 := (okS_app.mp hoS).1
  have ho2 := (okS_app.mp hoS).2
  obtain ⟨q0, hq0⟩ := List.getElem?_of_mem ho2.1
  have hq := pool_at (cy := cy) (ρ := ρ) hq0
  rw [pf_obj hK0 w8] at hq
  have hre := va_recv hK.1 hP w9 hq
  rw [w10] at hre
  have hcb : CallB (rmO d mc ms) s args y.cls idx y' b' nL' rt' (Cond.code y' b' nL' rt' :: TB) (rmO d' mc' ms') mc' ms' np := callB_of np hts (TBgood y b nL rt y' b' nL' rt' w5) rfl rfl rfl (hts _ (TBc w4)) (hts _ (TBc w1)) w6 ⟨hdd, by show 8 + (nL' + 11) + 40 * d' ≤ 40 * d; omega⟩
  exact r_behind X hK hA hP hD hS hl hoL ho2.2 hρ hLL (va_runV (As := As.map (rn ρ)) (b := ρ o) ⟨hx, hb, hml, hown, hts⟩ (hC ⟨ho2.1, okS_rev ho1⟩ H.size ρ) ⟨hcb, hts _ (TBc w2), hts _ (TBc w3)⟩ ⟨Pcn.blind, hre, fun U hU hW => ⟨rfl, by rw [hU], by rw [hU]; exact hP, hK.warm hW, hD.weaken (fun _ _ _ _ => trivial)⟩⟩ rfl (by rw [List.length_map]; exact hnp) hl.1 (by show List.map _ _ = _; rw [List.map_append, List.map_reverse]; rfl) (lv_room (by rw [cat_map]; exact hc)) hd ⟨h1, h2⟩) h
theorem r_callS {y' : MethodName} {b' : ByteArray} {nL' : Nat} {rt' : Option FieldType} {d' mc' ms' np idx : Nat} {As rest : List Value} {Q' : Option Value → HS → Prop} (hd : decode b pc = .ok (.invokestatic idx, 3)) (hk : LkS y.cls idx y' b' nL' rt' np) (hC : Cn l G cy y' b' nL' rt' d' As S mc' ms' Q') (hnp : As.length = np) (hc : (rest.map fun v => v.category).sum ≤ 8) (hdd : d' + 1 ≤ d) (h1 : k + mc' ≤ mc) (h2 : n + ms' ≤ ms) (h : ∀ (v : Option Value) (S' : HS), Q' v S' → R l G cy y b nL rt d mc ms Q (pc + 3) lv (v.toList ++ rest) S' (k + mc') (n + ms')) : R l G cy y b nL rt d mc ms Q pc lv (As.reverse ++ rest) S k n := by
  intro p e s m args below meth c H locs ls A ρ L0 ρ0 X hK hA hP hD hS hl hoL hoS hρ hLL
  obtain ⟨hx, hb, hr, hml, hown, hts, hlk, hnm⟩ := id X
  obtain ⟨w1, w2, w4, w5, w6, w7⟩ := hk
  have ho1 := (okS_app.mp hoS).1
  have ho2 := (okS_app.mp hoS).2
  have hcb : CallB (rmO d mc ms) s args y.cls idx y' b' nL' rt' (Cond.code y' b' nL' rt' :: TB) (rmO d' mc' ms') mc' ms' np := callB_of np hts (TBgood y b nL rt y' b' nL' rt' w5) rfl rfl rfl (hts _ (TBc w4)) (hts _ (TBc w1)) w6 ⟨hdd, by show 8 + (nL' + 11) + 40 * d' ≤ 40 * d; omega⟩
  exact r_behind X hK hA hP hD hS hl hoL ho2 hρ hLL (va_runS (As := As.map (rn ρ)) ⟨hx, hb, hml, hown, hts⟩ (hC (okS_rev ho1) H.size ρ) ⟨hcb, hts _ (TBc w2)⟩ ⟨Pcn.blind, fun U hU hW => ⟨rfl, by rw [hU], by rw [hU]; exact hP, hK.warm hW, hD.weaken (fun _ _ _ _ => trivial)⟩⟩ rfl (by rw [List.length_map]; exact hnp) hl.1 (by show List.map _ _ = _; rw [List.map_append, List.map_reverse]) (lv_room (by rw [cat_map]; exact hc)) hd ⟨h1, h2⟩) h
theorem r_callI {y' : MethodName} {b' : ByteArray} {nL' : Nat} {d' mc' ms' np idx o : Nat} {As rest : List Value} {Q' : Option Value → HS → Prop} (hd : decode b pc = .ok (.invokespecial idx, 3)) (hk : LkI y.cls idx y' b' nL' np) (hC : Cn l G cy y' b' nL' none d' (.ref o :: As) S mc' ms' Q') (hnp : As.length = np) (hc : (rest.map fun v => v.category).sum ≤ 8) (hdd : d' + 1 ≤ d) (h1 : k + mc' ≤ mc) (h2 : n + ms' ≤ ms) (h : ∀ (v : Option Value) (S' : HS), Q' v S' → R l G cy y b nL rt d mc ms Q (pc + 3) lv (v.toList ++ rest) S' (k + mc') (n + ms')) : R l G cy y b nL rt d mc ms Q pc lv (As.reverse ++ .ref o :: rest) S k n := by
  intro p e s m args below meth c H locs ls A ρ L0 ρ0 X hK hA hP hD hS hl hoL hoS hρ hLL
  obtain ⟨hx, hb, hr, hml, hown, hts, hlk, hnm⟩ := id X
  obtain ⟨w1, w2, w4, w5, w6, w7, w8⟩ := hk
  have ho1 := (okS_app.mp hoS).1
  have ho2 := (okS_app.mp hoS).2
  have hM := hC ⟨ho2.1, okS_rev ho1⟩ H.size ρ
  have hpre : PreS s H (Pcn G cy ρ (.ref o :: As) S H.size) ((Value.ref (ρ o) :: As.map (rn ρ))) := ⟨Pcn.blind, fun U hU hW => ⟨rfl, by rw [hU], by rw [hU]; exact hP, hK.warm hW, hD.weaken (fun _ _ _ _ => trivial)⟩⟩
  have hro : (rmO d' mc' ms').frames + 1 ≤ (rmO d mc ms).frames ∧ 8 + (nL' + 11) + (rmO d' mc' ms').locals ≤ (rmO d mc ms).locals := ⟨hdd, by show 8 + (nL' + 11) + 40 * d' ≤ 40 * d; omega⟩
  have hstk : (F0 m pc ls ((As.reverse ++ Value.ref o :: rest).map (rn ρ))).stack = (As.map (rn ρ)).reverse ++ .ref (ρ o) :: rest.map (rn ρ) := by
    show List.map _ _ = _
    rw [List.map_append, List.map_reverse]
    rfl
  rcases w1 with w1 | w1
  · have hcb : CallB (rmO d mc ms) s args y.cls idx y' b' nL' none (Cond.code y' b' nL' none :: TB) (rmO d' mc' ms') mc' ms' np := callB_of np hts (TBgood y b nL rt y' b' nL' none w5) rfl rfl rfl (hts _ (TBc w4)) (hts _ (TBc w1)) w6 hro
    exact r_behind X hK hA hP hD hS hl hoL ho2.2 hρ hLL (va_runI (As := As.map (rn ρ)) (b := ρ o) ⟨hx, hb, hml, hown, hts⟩ hM ⟨hcb, w8, hts _ (TBc w2)⟩ hpre rfl (by rw [List.length_map]; exact hnp) hl.1 hstk (lv_room (by rw [cat_map]; exact hc)) hd ⟨h1, h2⟩) h
  · have hcb := va_cnB (R := rmO d mc ms) (rm := rmO d' mc' ms') (mc := mc') (ms := ms') np hts (TBgood y b nL rt y' b' nL' none w5) rfl rfl rfl (hK.2.1 _ w1) (hts _ (TBc w4)) w6 hro
    exact r_behind X hK hA hP hD hS hl hoL ho2.2 hρ hLL (va_runIN (As := As.map (rn ρ)) (b := ρ o) ⟨hx, hb, hml, hown, hts⟩ hM ⟨hcb, w8, hts _ (TBc w2)⟩ hpre rfl (by rw [List.length_map]; exact hnp) hl.1 hstk (lv_room (by rw [cat_map]; exact hc)) hd ⟨h1, h2⟩) h
-- calls by the number of arguments and the kind of the answer
theorem r_invV0i {y' : MethodName} {b' : ByteArray} {nL' : Nat} {rt' : Option FieldType} {d' mc' ms' idx : Nat} {ci : Nat} {o : Nat}  {Q0 : Int32 → HS → Prop} (hd : decode b pc = .ok (.invokevirtual idx, 3)) (hk : LkV y.cls idx y' b' nL' rt' 0 ci) (hK0 : tk o = ci) (hC : Cn l G cy y' b' nL' rt' d' (.ref o :: []) S mc' ms' (qI Q0)) (hc : (st.map fun v => v.category).sum ≤ 8) (hdd : d' + 1 ≤ d) (h1 : k + mc' ≤ mc) (h2 : n + ms' ≤ ms) (h : ∀ (r : Int32) (S' : HS), Q0 r S' → R l G cy y b nL rt d mc ms Q (pc + 3) lv (.int r :: st) S' (k + mc') (n + ms')) : R l G cy y b nL rt d mc ms Q pc lv (.ref o :: st) S k n := r_callV (As := []) hd hk hK0 hC rfl hc hdd h1 h2 (fun v S2 hq => by obtain ⟨r, rfl, hq⟩ := hq; exact h r S2 hq)
theorem r_invV0v {y' : MethodName} {b' : ByteArray} {nL' : Nat} {rt' : Option FieldType} {d' mc' ms' idx : Nat} {ci : Nat} {o : Nat}  {Q0 : HS → Prop} (hd : decode b pc = .ok (.invokevirtual idx, 3)) (hk : LkV y.cls idx y' b' nL' rt' 0 ci) (hK0 : tk o = ci) (hC : Cn l G cy y' b' nL' rt' d' (.ref o :: []) S mc' ms' (qV Q0)) (hc : (st.map fun v => v.category).sum ≤ 8) (hdd : d' + 1 ≤ d) (h1 : k + mc' ≤ mc) (h2 : n + ms' ≤ ms) (h : ∀ (S' : HS), Q0 S' → R l G cy y b nL rt d mc ms Q (pc + 3) lv st S' (k + mc') (n + ms')) : R l G cy y b nL rt d mc ms Q pc lv (.ref o :: st) S k n := r_callV (As := []) hd hk hK0 hC rfl hc hdd h1 h2 (fun v S2 hq => by obtain ⟨rfl, hq⟩ := hq; exact h S2 hq)
theorem r_invV0r {y' : MethodName} {b' : ByteArray} {nL' : Nat} {rt' : Option FieldType} {d' mc' ms' idx : Nat} {ci : Nat} {o : Nat}  {Q0 : Option Nat → HS → Prop} (hd : decode b pc = .ok (.invokevirtual idx, 3)) (hk : LkV y.cls idx y' b' nL' rt' 0 ci) (hK0 : tk o = ci) (hC : Cn l G cy y' b' nL' rt' d' (.ref o :: []) S mc' ms' (qR Q0)) (hc : (st.map fun v => v.category).sum ≤ 8) (hdd : d' + 1 ≤ d) (h1 : k + mc' ≤ mc) (h2 : n + ms' ≤ ms) (h : ∀ (r : Option Nat) (S' : HS), Q0 r S' → R l G cy y b nL rt d mc ms Q (pc + 3) lv (va_rf r :: st) S' (k + mc') (n + ms')) : R l G cy y b nL rt d mc ms Q pc lv (.ref o :: st) S k n := r_callV (As := []) hd hk hK0 hC rfl hc hdd h1 h2 (fun v S2 hq => by obtain ⟨r, rfl, hq⟩ := hq; exact h r S2 hq)
theorem r_invS0i {y' : MethodName} {b' : ByteArray} {nL' : Nat} {rt' : Option FieldType} {d' mc' ms' idx : Nat}   {Q0 : Int32 → HS → Prop} (hd : decode b pc = .ok (.invokestatic idx, 3)) (hk : LkS y.cls idx y' b' nL' rt' 0) (hC : Cn l G cy y' b' nL' rt' d' [] S mc' ms' (qI Q0)) (hc : (st.map fun v => v.category).sum ≤ 8) (hdd : d' + 1 ≤ d) (h1 : k + mc' ≤ mc) (h2 : n + ms' ≤ ms) (h : ∀ (r : Int32) (S' : HS), Q0 r S' → R l G cy y b nL rt d mc ms Q (pc + 3) lv (.int r :: st) S' (k + mc') (n + ms')) : R l G cy y b nL rt d mc ms Q pc lv (st) S k n := r_callS (As := []) hd hk hC rfl hc hdd h1 h2 (fun v S2 hq => by obtain ⟨r, rfl, hq⟩ := hq; exact h r S2 hq)
theorem r_invS0v {y' : MethodName} {b' : ByteArray} {nL' : Nat} {rt' : Option FieldType} {d' mc' ms' idx : Nat}   {Q0 : HS → Prop} (hd : decode b pc = .ok (.invokestatic idx, 3)) (hk : LkS y.cls idx y' b' nL' rt' 0) (hC : Cn l G cy y' b' nL' rt' d' [] S mc' ms' (qV Q0)) (hc : (st.map fun v => v.category).sum ≤ 8) (hdd : d' + 1 ≤ d) (h1 : k + mc' ≤ mc) (h2 : n + ms' ≤ ms) (h : ∀ (S' : HS), Q0 S' → R l G cy y b nL rt d mc ms Q (pc + 3) lv st S' (k + mc') (n + ms')) : R l G cy y b nL rt d mc ms Q pc lv (st) S k n := r_callS (As := []) hd hk hC rfl hc hdd h1 h2 (fun v S2 hq => by obtain ⟨rfl, hq⟩ := hq; exact h S2 hq)
theorem r_invS0r {y' : MethodName} {b' : ByteArray} {nL' : Nat} {rt' : Option FieldType} {d' mc' ms' idx : Nat}   {Q0 : Option Nat → HS → Prop} (hd : decode b pc = .ok (.invokestatic idx, 3)) (hk : LkS y.cls idx y' b' nL' rt' 0) (hC : Cn l G cy y' b' nL' rt' d' [] S mc' ms' (qR Q0)) (hc : (st.map fun v => v.category).sum ≤ 8) (hdd : d' + 1 ≤ d) (h1 : k + mc' ≤ mc) (h2 : n + ms' ≤ ms) (h : ∀ (r : Option Nat) (S' : HS), Q0 r S' → R l G cy y b nL rt d mc ms Q (pc + 3) lv (va_rf r :: st) S' (k + mc') (n + ms')) : R l G cy y b nL rt d mc ms Q pc lv (st) S k n := r_callS (As := []) hd hk hC rfl hc hdd h1 h2 (fun v S2 hq => by obtain ⟨r, rfl, hq⟩ := hq; exact h r S2 hq)
theorem r_invI0v {y' : MethodName} {b' : ByteArray} {nL' : Nat}  {d' mc' ms' idx : Nat} {o : Nat}  {Q0 : HS → Prop} (hd : decode b pc = .ok (.invokespecial idx, 3)) (hk : LkI y.cls idx y' b' nL' 0) (hC : Cn l G cy y' b' nL' none d' (.ref o :: []) S mc' ms' (qV Q0)) (hc : (st.map fun v => v.category).sum ≤ 8) (hdd : d' + 1 ≤ d) (h1 : k + mc' ≤ mc) (h2 : n + ms' ≤ ms) (h : ∀ (S' : HS), Q0 S' → R l G cy y b nL rt d mc ms Q (pc + 3) lv st S' (k + mc') (n + ms')) : R l G cy y b nL rt d mc ms Q pc lv (.ref o :: st) S k n := r_callI (As := []) hd hk hC rfl hc hdd h1 h2 (fun v S2 hq => by obtain ⟨rfl, hq⟩ := hq; exact h S2 hq)
theorem r_invV1i {y' : MethodName} {b' : ByteArray} {nL' : Nat} {rt' : Option FieldType} {d' mc' ms' idx : Nat} {ci : Nat} {o : Nat} {a1 : Value} {Q0 : Int32 → HS → Prop} (hd : decode b pc = .ok (.invokevirtual idx, 3)) (hk : LkV y.cls idx y' b' nL' rt' 1 ci) (hK0 : tk o = ci) (hC : Cn l G cy y' b' nL' rt' d' (.ref o :: [a1]) S mc' ms' (qI Q0)) (hc : (st.map fun v => v.category).sum ≤ 8) (hdd : d' + 1 ≤ d) (h1 : k + mc' ≤ mc) (h2 : n + ms' ≤ ms) (h : ∀ (r : Int32) (S' : HS), Q0 r S' → R l G cy y b nL rt d mc ms Q (pc + 3) lv (.int r :: st) S' (k + mc') (n + ms')) : R l G cy y b nL rt d mc ms Q pc lv (a1 :: .ref o :: st) S k n := r_callV (As := [a1]) hd hk hK0 hC rfl hc hdd h1 h2 (fun v S2 hq => by obtain ⟨r, rfl, hq⟩ := hq; exact h r S2 hq)
theorem r_invV1v {y' : MethodName} {b' : ByteArray} {nL' : Nat} {rt' : Option FieldType} {d' mc' ms' idx : Nat} {ci : Nat} {o : Nat} {a1 : Value} {Q0 : HS → Prop} (hd : decode b pc = .ok (.invokevirtual idx, 3)) (hk : LkV y.cls idx y' b' nL' rt' 1 ci) (hK0 : tk o = ci) (hC : Cn l G cy y' b' nL' rt' d' (.ref o :: [a1]) S mc' ms' (qV Q0)) (hc : (st.map fun v => v.category).sum ≤ 8) (hdd : d' + 1 ≤ d) (h1 : k + mc' ≤ mc) (h2 : n + ms' ≤ ms) (h : ∀ (S' : HS), Q0 S' → R l G cy y b nL rt d mc ms Q (pc + 3) lv st S' (k + mc') (n + ms')) : R l G cy y b nL rt d mc ms Q pc lv (a1 :: .ref o :: st) S k n := r_callV (As := [a1]) hd hk hK0 hC rfl hc hdd h1 h2 (fun v S2 hq => by obtain ⟨rfl, hq⟩ := hq; exact h S2 hq)
theorem r_invV1r {y' : MethodName} {b' : ByteArray} {nL' : Nat} {rt' : Option FieldType} {d' mc' ms' idx : Nat} {ci : Nat} {o : Nat} {a1 : Value} {Q0 : Option Nat → HS → Prop} (hd : decode b pc = .ok (.invokevirtual idx, 3)) (hk : LkV y.cls idx y' b' nL' rt' 1 ci) (hK0 : tk o = ci) (hC : Cn l G cy y' b' nL' rt' d' (.ref o :: [a1]) S mc' ms' (qR Q0)) (hc : (st.map fun v => v.category).sum ≤ 8) (hdd : d' + 1 ≤ d) (h1 : k + mc' ≤ mc) (h2 : n + ms' ≤ ms) (h : ∀ (r : Option Nat) (S' : HS), Q0 r S' → R l G cy y b nL rt d mc ms Q (pc + 3) lv (va_rf r :: st) S' (k + mc') (n + ms')) : R l G cy y b nL rt d mc ms Q pc lv (a1 :: .ref o :: st) S k n := r_callV (As := [a1]) hd hk hK0 hC rfl hc hdd h1 h2 (fun v S2 hq => by obtain ⟨r, rfl, hq⟩ := hq; exact h r S2 hq)
theorem r_invS1i {y' : MethodName} {b' : ByteArray} {nL' : Nat} {rt' : Option FieldType} {d' mc' ms' idx : Nat}  {a1 : Value} {Q0 : Int32 → HS → Prop} (hd : decode b pc = .ok (.invokestatic idx, 3)) (hk : LkS y.cls idx y' b' nL' rt' 1) (hC : Cn l G cy y' b' nL' rt' d' [a1] S mc' ms' (qI Q0)) (hc : (st.map fun v => v.category).sum ≤ 8) (hdd : d' + 1 ≤ d) (h1 : k + mc' ≤ mc) (h2 : n + ms' ≤ ms) (h : ∀ (r : Int32) (S' : HS), Q0 r S' → R l G cy y b nL rt d mc ms Q (pc + 3) lv (.int r :: st) S' (k + mc') (n + ms')) : R l G cy y b nL rt d mc ms Q pc lv (a1 :: st) S k n := r_callS (As := [a1]) hd hk hC rfl hc hdd h1 h2 (fun v S2 hq => by obtain ⟨r, rfl, hq⟩ := hq; exact h r S2 hq)
theorem r_invS1v {y' : MethodName} {b' : ByteArray} {nL' : Nat} {rt' : Option FieldType} {d' mc' ms' idx : Nat}  {a1 : Value} {Q0 : HS → Prop} (hd : decode b pc = .ok (.invokestatic idx, 3)) (hk : LkS y.cls idx y' b' nL' rt' 1) (hC : Cn l G cy y' b' nL' rt' d' [a1] S mc' ms' (qV Q0)) (hc : (st.map fun v => v.category).sum ≤ 8) (hdd : d' + 1 ≤ d) (h1 : k + mc' ≤ mc) (h2 : n + ms' ≤ ms) (h : ∀ (S' : HS), Q0 S' → R l G cy y b nL rt d mc ms Q (pc + 3) lv st S' (k + mc') (n + ms')) : R l G cy y b nL rt d mc ms Q pc lv (a1 :: st) S k n := r_callS (As := [a1]) hd hk hC rfl hc hdd h1 h2 (fun v S2 hq => by obtain ⟨rfl, hq⟩ := hq; exact h S2 hq)
theorem r_invS1r {y' : MethodName} {b' : ByteArray} {nL' : Nat} {rt' : Option FieldType} {d' mc' ms' idx : Nat}  {a1 : Value} {Q0 : Option Nat → HS → Prop} (hd : decode b pc = .ok (.invokestatic idx, 3)) (hk : LkS y.cls idx y' b' nL' rt' 1) (hC : Cn l G cy y' b' nL' rt' d' [a1] S mc' ms' (qR Q0)) (hc : (st.map fun v => v.category).sum ≤ 8) (hdd : d' + 1 ≤ d) (h1 : k + mc' ≤ mc) (h2 : n + ms' ≤ ms) (h : ∀ (r : Option Nat) (S' : HS), Q0 r S' → R l G cy y b nL rt d mc ms Q (pc + 3) lv (va_rf r :: st) S' (k + mc') (n + ms')) : R l G cy y b nL rt d mc ms Q pc lv (a1 :: st) S k n := r_callS (As := [a1]) hd hk hC rfl hc hdd h1 h2 (fun v S2 hq => by obtain ⟨r, rfl, hq⟩ := hq; exact h r S2 hq)
theorem r_invI1v {y' : MethodName} {b' : ByteArray} {nL' : Nat}  {d' mc' ms' idx : Nat} {o : Nat} {a1 : Value} {Q0 : HS → Prop} (hd : decode b pc = .ok (.invokespecial idx, 3)) (hk : LkI y.cls idx y' b' nL' 1) (hC : Cn l G cy y' b' nL' none d' (.ref o :: [a1]) S mc' ms' (qV Q0)) (hc : (st.map fun v => v.category).sum ≤ 8) (hdd : d' + 1 ≤ d) (h1 : k + mc' ≤ mc) (h2 : n + ms' ≤ ms) (h : ∀ (S' : HS), Q0 S' → R l G cy y b nL rt d mc ms Q (pc + 3) lv st S' (k + mc') (n + ms')) : R l G cy y b nL rt d mc ms Q pc lv (a1 :: .ref o :: st) S k n := r_callI (As := [a1]) hd hk hC rfl hc hdd h1 h2 (fun v S2 hq => by obtain ⟨rfl, hq⟩ := hq; exact h S2 hq)
theorem r_invV2i {y' : MethodName} {b' : ByteArray} {nL' : Nat} {rt' : Option FieldType} {d' mc' ms' idx : Nat} {ci : Nat} {o : Nat} {a1 a2 : Value} {Q0 : Int32 → HS → Prop} (hd : decode b pc = .ok (.invokevirtual idx, 3)) (hk : LkV y.cls idx y' b' nL' rt' 2 ci) (hK0 : tk o = ci) (hC : Cn l G cy y' b' nL' rt' d' (.ref o :: [a1, a2]) S mc' ms' (qI Q0)) (hc : (st.map fun v => v.category).sum ≤ 8) (hdd : d' + 1 ≤ d) (h1 : k + mc' ≤ mc) (h2 : n + ms' ≤ ms) (h : ∀ (r : Int32) (S' : HS), Q0 r S' → R l G cy y b nL rt d mc ms Q (pc + 3) lv (.int r :: st) S' (k + mc') (n + ms')) : R l G cy y b nL rt d mc ms Q pc lv (a2 :: a1 :: .ref o :: st) S k n := r_callV (As := [a1, a2]) hd hk hK0 hC rfl hc hdd h1 h2 (fun v S2 hq => by obtain ⟨r, rfl, hq⟩ := hq; exact h r S2 hq)
theorem r_invV2v {y' : MethodName} {b' : ByteArray} {nL' : Nat} {rt' : Option FieldType} {d' mc' ms' idx : Nat} {ci : Nat} {o : Nat} {a1 a2 : Value} {Q0 : HS → Prop} (hd : decode b pc = .ok (.invokevirtual idx, 3)) (hk : LkV y.cls idx y' b' nL' rt' 2 ci) (hK0 : tk o = ci) (hC : Cn l G cy y' b' nL' rt' d' (.ref o :: [a1, a2]) S mc' ms' (qV Q0)) (hc : (st.map fun v => v.category).sum ≤ 8) (hdd : d' + 1 ≤ d) (h1 : k + mc' ≤ mc) (h2 : n + ms' ≤ ms) (h : ∀ (S' : HS), Q0 S' → R l G cy y b nL rt d mc ms Q (pc + 3) lv st S' (k + mc') (n + ms')) : R l G cy y b nL rt d mc ms Q pc lv (a2 :: a1 :: .ref o :: st) S k n := r_callV (As := [a1, a2]) hd hk hK0 hC rfl hc hdd h1 h2 (fun v S2 hq => by obtain ⟨rfl, hq⟩ := hq; exact h S2 hq)
theorem r_invV2r {y' : MethodName} {b' : ByteArray} {nL' : Nat} {rt' : Option FieldType} {d' mc' ms' idx : Nat} {ci : Nat} {o : Nat} {a1 a2 : Value} {Q0 : Option Nat → HS → Prop} (hd : decode b pc = .ok (.invokevirtual idx, 3)) (hk : LkV y.cls idx y' b' nL' rt' 2 ci) (hK0 : tk o = ci) (hC : Cn l G cy y' b' nL' rt' d' (.ref o :: [a1, a2]) S mc' ms' (qR Q0)) (hc : (st.map fun v => v.category).sum ≤ 8) (hdd : d' + 1 ≤ d) (h1 : k + mc' ≤ mc) (h2 : n + ms' ≤ ms) (h : ∀ (r : Option Nat) (S' : HS), Q0 r S' → R l G cy y b nL rt d mc ms Q (pc + 3) lv (va_rf r :: st) S' (k + mc') (n + ms')) : R l G cy y b nL rt d mc ms Q pc lv (a2 :: a1 :: .ref o :: st) S k n := r_callV (As := [a1, a2]) hd hk hK0 hC rfl hc hdd h1 h2 (fun v S2 hq => by obtain ⟨r, rfl, hq⟩ := hq; exact h r S2 hq)
theorem r_invS2i {y' : MethodName} {b' : ByteArray} {nL' : Nat} {rt' : Option FieldType} {d' mc' ms' idx : Nat}  {a1 a2 : Value} {Q0 : Int32 → HS → Prop} (hd : decode b pc = .ok (.invokestatic idx, 3)) (hk : LkS y.cls idx y' b' nL' rt' 2) (hC : Cn l G cy y' b' nL' rt' d' [a1, a2] S mc' ms' (qI Q0)) (hc : (st.map fun v => v.category).sum ≤ 8) (hdd : d' + 1 ≤ d) (h1 : k + mc' ≤ mc) (h2 : n + ms' ≤ ms) (h : ∀ (r : Int32) (S' : HS), Q0 r S' → R l G cy y b nL rt d mc ms Q (pc + 3) lv (.int r :: st) S' (k + mc') (n + ms')) : R l G cy y b nL rt d mc ms Q pc lv (a2 :: a1 :: st) S k n := r_callS (As := [a1, a2]) hd hk hC rfl hc hdd h1 h2 (fun v S2 hq => by obtain ⟨r, rfl, hq⟩ := hq; exact h r S2 hq)
theorem r_invS2v {y' : MethodName} {b' : ByteArray} {nL' : Nat} {rt' : Option FieldType} {d' mc' ms' idx : Nat}  {a1 a2 : Value} {Q0 : HS → Prop} (hd : decode b pc = .ok (.invokestatic idx, 3)) (hk : LkS y.cls idx y' b' nL' rt' 2) (hC : Cn l G cy y' b' nL' rt' d' [a1, a2] S mc' ms' (qV Q0)) (hc : (st.map fun v => v.category).sum ≤ 8) (hdd : d' + 1 ≤ d) (h1 : k + mc' ≤ mc) (h2 : n + ms' ≤ ms) (h : ∀ (S' : HS), Q0 S' → R l G cy y b nL rt d mc ms Q (pc + 3) lv st S' (k + mc') (n + ms')) : R l G cy y b nL rt d mc ms Q pc lv (a2 :: a1 :: st) S k n := r_callS (As := [a1, a2]) hd hk hC rfl hc hdd h1 h2 (fun v S2 hq => by obtain ⟨rfl, hq⟩ := hq; exact h S2 hq)
theorem r_invS2r {y' : MethodName} {b' : ByteArray} {nL' : Nat} {rt' : Option FieldType} {d' mc' ms' idx : Nat}  {a1 a2 : Value} {Q0 : Option Nat → HS → Prop} (hd : decode b pc = .ok (.invokestatic idx, 3)) (hk : LkS y.cls idx y' b' nL' rt' 2) (hC : Cn l G cy y' b' nL' rt' d' [a1, a2] S mc' ms' (qR Q0)) (hc : (st.map fun v => v.category).sum ≤ 8) (hdd : d' + 1 ≤ d) (h1 : k + mc' ≤ mc) (h2 : n + ms' ≤ ms) (h : ∀ (r : Option Nat) (S' : HS), Q0 r S' → R l G cy y b nL rt d mc ms Q (pc + 3) lv (va_rf r :: st) S' (k + mc') (n + ms')) : R l G cy y b nL rt d mc ms Q pc lv (a2 :: a1 :: st) S k n := r_callS (As := [a1, a2]) hd hk hC rfl hc hdd h1 h2 (fun v S2 hq => by obtain ⟨r, rfl, hq⟩ := hq; exact h r S2 hq)
theorem r_invI2v {y' : MethodName} {b' : ByteArray} {nL' : Nat}  {d' mc' ms' idx : Nat} {o : Nat} {a1 a2 : Value} {Q0 : HS → Prop} (hd : decode b pc = .ok (.invokespecial idx, 3)) (hk : LkI y.cls idx y' b' nL' 2) (hC : Cn l G cy y' b' nL' none d' (.ref o :: [a1, a2]) S mc' ms' (qV Q0)) (hc : (st.map fun v => v.category).sum ≤ 8) (hdd : d' + 1 ≤ d) (h1 : k + mc' ≤ mc) (h2 : n + ms' ≤ ms) (h : ∀ (S' : HS), Q0 S' → R l G cy y b nL rt d mc ms Q (pc + 3) lv st S' (k + mc') (n + ms')) : R l G cy y b nL rt d mc ms Q pc lv (a2 :: a1 :: .ref o :: st) S k n := r_callI (As := [a1, a2]) hd hk hC rfl hc hdd h1 h2 (fun v S2 hq => by obtain ⟨rfl, hq⟩ := hq; exact h S2 hq)
theorem r_invV3i {y' : MethodName} {b' : ByteArray} {nL' : Nat} {rt' : Option FieldType} {d' mc' ms' idx : Nat} {ci : Nat} {o : Nat} {a1 a2 a3 : Value} {Q0 : Int32 → HS → Prop} (hd : decode b pc = .ok (.invokevirtual idx, 3)) (hk : LkV y.cls idx y' b' nL' rt' 3 ci) (hK0 : tk o = ci) (hC : Cn l G cy y' b' nL' rt' d' (.ref o :: [a1, a2, a3]) S mc' ms' (qI Q0)) (hc : (st.map fun v => v.category).sum ≤ 8) (hdd : d' + 1 ≤ d) (h1 : k + mc' ≤ mc) (h2 : n + ms' ≤ ms) (h : ∀ (r : Int32) (S' : HS), Q0 r S' → R l G cy y b nL rt d mc ms Q (pc + 3) lv (.int r :: st) S' (k + mc') (n + ms')) : R l G cy y b nL rt d mc ms Q pc lv (a3 :: a2 :: a1 :: .ref o :: st) S k n := r_callV (As := [a1, a2, a3]) hd hk hK0 hC rfl hc hdd h1 h2 (fun v S2 hq => by obtain ⟨r, rfl, hq⟩ := hq; exact h r S2 hq)
theorem r_invV3v {y' : MethodName} {b' : ByteArray} {nL' : Nat} {rt' : Option FieldType} {d' mc' ms' idx : Nat} {ci : Nat} {o : Nat} {a1 a2 a3 : Value} {Q0 : HS → Prop} (hd : decode b pc = .ok (.invokevirtual idx, 3)) (hk : LkV y.cls idx y' b' nL' rt' 3 ci) (hK0 : tk o = ci) (hC : Cn l G cy y' b' nL' rt' d' (.ref o :: [a1, a2, a3]) S mc' ms' (qV Q0)) (hc : (st.map fun v => v.category).sum ≤ 8) (hdd : d' + 1 ≤ d) (h1 : k + mc' ≤ mc) (h2 : n + ms' ≤ ms) (h : ∀ (S' : HS), Q0 S' → R l G cy y b nL rt d mc ms Q (pc + 3) lv st S' (k + mc') (n + ms')) : R l G cy y b nL rt d mc ms Q pc lv (a3 :: a2 :: a1 :: .ref o :: st) S k n := r_callV (As := [a1, a2, a3]) hd hk hK0 hC rfl hc hdd h1 h2 (fun v S2 hq => by obtain ⟨rfl, hq⟩ := hq; exact h S2 hq)
theorem r_invV3r {y' : MethodName} {b' : ByteArray} {nL' : Nat} {rt' : Option FieldType} {d' mc' ms' idx : Nat} {ci : Nat} {o : Nat} {a1 a2 a3 : Value} {Q0 : Option Nat → HS → Prop} (hd : decode b pc = .ok (.invokevirtual idx, 3)) (hk : LkV y.cls idx y' b' nL' rt' 3 ci) (hK0 : tk o = ci) (hC : Cn l G cy y' b' nL' rt' d' (.ref o :: [a1, a2, a3]) S mc' ms' (qR Q0)) (hc : (st.map fun v => v.category).sum ≤ 8) (hdd : d' + 1 ≤ d) (h1 : k + mc' ≤ mc) (h2 : n + ms' ≤ ms) (h : ∀ (r : Option Nat) (S' : HS), Q0 r S' → R l G cy y b nL rt d mc ms Q (pc + 3) lv (va_rf r :: st) S' (k + mc') (n + ms')) : R l G cy y b nL rt d mc ms Q pc lv (a3 :: a2 :: a1 :: .ref o :: st) S k n := r_callV (As := [a1, a2, a3]) hd hk hK0 hC rfl hc hdd h1 h2 (fun v S2 hq => by obtain ⟨r, rfl, hq⟩ := hq; exact h r S2 hq)
theorem r_invS3i {y' : MethodName} {b' : ByteArray} {nL' : Nat} {rt' : Option FieldType} {d' mc' ms' idx : Nat}  {a1 a2 a3 : Value} {Q0 : Int32 → HS → Prop} (hd : decode b pc = .ok (.invokestatic idx, 3)) (hk : LkS y.cls idx y' b' nL' rt' 3) (hC : Cn l G cy y' b' nL' rt' d' [a1, a2, a3] S mc' ms' (qI Q0)) (hc : (st.map fun v => v.category).sum ≤ 8) (hdd : d' + 1 ≤ d) (h1 : k + mc' ≤ mc) (h2 : n + ms' ≤ ms) (h : ∀ (r : Int32) (S' : HS), Q0 r S' → R l G cy y b nL rt d mc ms Q (pc + 3) lv (.int r :: st) S' (k + mc') (n + ms')) : R l G cy y b nL rt d mc ms Q pc lv (a3 :: a2 :: a1 :: st) S k n := r_callS (As := [a1, a2, a3]) hd hk hC rfl hc hdd h1 h2 (fun v S2 hq => by obtain ⟨r, rfl, hq⟩ := hq; exact h r S2 hq)
theorem r_invS3v {y' : MethodName} {b' : ByteArray} {nL' : Nat} {rt' : Option FieldType} {d' mc' ms' idx : Nat}  {a1 a2 a3 : Value} {Q0 : HS → Prop} (hd : decode b pc = .ok (.invokestatic idx, 3)) (hk : LkS y.cls idx y' b' nL' rt' 3) (hC : Cn l G cy y' b' nL' rt' d' [a1, a2, a3] S mc' ms' (qV Q0)) (hc : (st.map fun v => v.category).sum ≤ 8) (hdd : d' + 1 ≤ d) (h1 : k + mc' ≤ mc) (h2 : n + ms' ≤ ms) (h : ∀ (S' : HS), Q0 S' → R l G cy y b nL rt d mc ms Q (pc + 3) lv st S' (k + mc') (n + ms')) : R l G cy y b nL rt d mc ms Q pc lv (a3 :: a2 :: a1 :: st) S k n := r_callS (As := [a1, a2, a3]) hd hk hC rfl hc hdd h1 h2 (fun v S2 hq => by obtain ⟨rfl, hq⟩ := hq; exact h S2 hq)
theorem r_invS3r {y' : MethodName} {b' : ByteArray} {nL' : Nat} {rt' : Option FieldType} {d' mc' ms' idx : Nat}  {a1 a2 a3 : Value} {Q0 : Option Nat → HS → Prop} (hd : decode b pc = .ok (.invokestatic idx, 3)) (hk : LkS y.cls idx y' b' nL' rt' 3) (hC : Cn l G cy y' b' nL' rt' d' [a1, a2, a3] S mc' ms' (qR Q0)) (hc : (st.map fun v => v.category).sum ≤ 8) (hdd : d' + 1 ≤ d) (h1 : k + mc' ≤ mc) (h2 : n + ms' ≤ ms) (h : ∀ (r : Option Nat) (S' : HS), Q0 r S' → R l G cy y b nL rt d mc ms Q (pc + 3) lv (va_rf r :: st) S' (k + mc') (n + ms')) : R l G cy y b nL rt d mc ms Q pc lv (a3 :: a2 :: a1 :: st) S k n := r_callS (As := [a1, a2, a3]) hd hk hC rfl hc hdd h1 h2 (fun v S2 hq => by obtain ⟨r, rfl, hq⟩ := hq; exact h r S2 hq)
theorem r_invI3v {y' : MethodName} {b' : ByteArray} {nL' : Nat}  {d' mc' ms' idx : Nat} {o : Nat} {a1 a2 a3 : Value} {Q0 : HS → Prop} (hd : decode b pc = .ok (.invokespecial idx, 3)) (hk : LkI y.cls idx y' b' nL' 3) (hC : Cn l G cy y' b' nL' none d' (.ref o :: [a1, a2, a3]) S mc' ms' (qV Q0)) (hc : (st.map fun v => v.category).sum ≤ 8) (hdd : d' + 1 ≤ d) (h1 : k + mc' ≤ mc) (h2 : n + ms' ≤ ms) (h : ∀ (S' : HS), Q0 S' → R l G cy y b nL rt d mc ms Q (pc + 3) lv st S' (k + mc') (n + ms')) : R l G cy y b nL rt d mc ms Q pc lv (a3 :: a2 :: a1 :: .ref o :: st) S k n := r_callI (As := [a1, a2, a3]) hd hk hC rfl hc hdd h1 h2 (fun v S2 hq => by obtain ⟨rfl, hq⟩ := hq; exact h S2 hq)
theorem r_invV4i {y' : MethodName} {b' : ByteArray} {nL' : Nat} {rt' : Option FieldType} {d' mc' ms' idx : Nat} {ci : Nat} {o : Nat} {a1 a2 a3 a4 : Value} {Q0 : Int32 → HS → Prop} (hd : decode b pc = .ok (.invokevirtual idx, 3)) (hk : LkV y.cls idx y' b' nL' rt' 4 ci) (hK0 : tk o = ci) (hC : Cn l G cy y' b' nL' rt' d' (.ref o :: [a1, a2, a3, a4]) S mc' ms' (qI Q0)) (hc : (st.map fun v => v.category).sum ≤ 8) (hdd : d' + 1 ≤ d) (h1 : k + mc' ≤ mc) (h2 : n + ms' ≤ ms) (h : ∀ (r : Int32) (S' : HS), Q0 r S' → R l G cy y b nL rt d mc ms Q (pc + 3) lv (.int r :: st) S' (k + mc') (n + ms')) : R l G cy y b nL rt d mc ms Q pc lv (a4 :: a3 :: a2 :: a1 :: .ref o :: st) S k n := r_callV (As := [a1, a2, a3, a4]) hd hk hK0 hC rfl hc hdd h1 h2 (fun v S2 hq => by obtain ⟨r, rfl, hq⟩ := hq; exact h r S2 hq)
theorem r_invV4v {y' : MethodName} {b' : ByteArray} {nL' : Nat} {rt' : Option FieldType} {d' mc' ms' idx : Nat} {ci : Nat} {o : Nat} {a1 a2 a3 a4 : Value} {Q0 : HS → Prop} (hd : decode b pc = .ok (.invokevirtual idx, 3)) (hk : LkV y.cls idx y' b' nL' rt' 4 ci) (hK0 : tk o = ci) (hC : Cn l G cy y' b' nL' rt' d' (.ref o :: [a1, a2, a3, a4]) S mc' ms' (qV Q0)) (hc : (st.map fun v => v.category).sum ≤ 8) (hdd : d' + 1 ≤ d) (h1 : k + mc' ≤ mc) (h2 : n + ms' ≤ ms) (h : ∀ (S' : HS), Q0 S' → R l G cy y b nL rt d mc ms Q (pc + 3) lv st S' (k + mc') (n + ms')) : R l G cy y b nL rt d mc ms Q pc lv (a4 :: a3 :: a2 :: a1 :: .ref o :: st) S k n := r_callV (As := [a1, a2, a3, a4]) hd hk hK0 hC rfl hc hdd h1 h2 (fun v S2 hq => by obtain ⟨rfl, hq⟩ := hq; exact h S2 hq)
theorem r_invV4r {y' : MethodName} {b' : ByteArray} {nL' : Nat} {rt' : Option FieldType} {d' mc' ms' idx : Nat} {ci : Nat} {o : Nat} {a1 a2 a3 a4 : Value} {Q0 : Option Nat → HS → Prop} (hd : decode b pc = .ok (.invokevirtual idx, 3)) (hk : LkV y.cls idx y' b' nL' rt' 4 ci) (hK0 : tk o = ci) (hC : Cn l G cy y' b' nL' rt' d' (.ref o :: [a1, a2, a3, a4]) S mc' ms' (qR Q0)) (hc : (st.map fun v => v.category).sum ≤ 8) (hdd : d' + 1 ≤ d) (h1 : k + mc' ≤ mc) (h2 : n + ms' ≤ ms) (h : ∀ (r : Option Nat) (S' : HS), Q0 r S' → R l G cy y b nL rt d mc ms Q (pc + 3) lv (va_rf r :: st) S' (k + mc') (n + ms')) : R l G cy y b nL rt d mc ms Q pc lv (a4 :: a3 :: a2 :: a1 :: .ref o :: st) S k n := r_callV (As := [a1, a2, a3, a4]) hd hk hK0 hC rfl hc hdd h1 h2 (fun v S2 hq => by obtain ⟨r, rfl, hq⟩ := hq; exact h r S2 hq)
theorem r_invS4i {y' : MethodName} {b' : ByteArray} {nL' : Nat} {rt' : Option FieldType} {d' mc' ms' idx : Nat}  {a1 a2 a3 a4 : Value} {Q0 : Int32 → HS → Prop} (hd : decode b pc = .ok (.invokestatic idx, 3)) (hk : LkS y.cls idx y' b' nL' rt' 4) (hC : Cn l G cy y' b' nL' rt' d' [a1, a2, a3, a4] S mc' ms' (qI Q0)) (hc : (st.map fun v => v.category).sum ≤ 8) (hdd : d' + 1 ≤ d) (h1 : k + mc' ≤ mc) (h2 : n + ms' ≤ ms) (h : ∀ (r : Int32) (S' : HS), Q0 r S' → R l G cy y b nL rt d mc ms Q (pc + 3) lv (.int r :: st) S' (k + mc') (n + ms')) : R l G cy y b nL rt d mc ms Q pc lv (a4 :: a3 :: a2 :: a1 :: st) S k n := r_callS (As := [a1, a2, a3, a4]) hd hk hC rfl hc hdd h1 h2 (fun v S2 hq => by obtain ⟨r, rfl, hq⟩ := hq; exact h r S2 hq)
theorem r_invS4v {y' : MethodName} {b' : ByteArray} {nL' : Nat} {rt' : Option FieldType} {d' mc' ms' idx : Nat}  {a1 a2 a3 a4 : Value} {Q0 : HS → Prop} (hd : decode b pc = .ok (.invokestatic idx, 3)) (hk : LkS y.cls idx y' b' nL' rt' 4) (hC : Cn l G cy y' b' nL' rt' d' [a1, a2, a3, a4] S mc' ms' (qV Q0)) (hc : (st.map fun v => v.category).sum ≤ 8) (hdd : d' + 1 ≤ d) (h1 : k + mc' ≤ mc) (h2 : n + ms' ≤ ms) (h : ∀ (S' : HS), Q0 S' → R l G cy y b nL rt d mc ms Q (pc + 3) lv st S' (k + mc') (n + ms')) : R l G cy y b nL rt d mc ms Q pc lv (a4 :: a3 :: a2 :: a1 :: st) S k n := r_callS (As := [a1, a2, a3, a4]) hd hk hC rfl hc hdd h1 h2 (fun v S2 hq => by obtain ⟨rfl, hq⟩ := hq; exact h S2 hq)
theorem r_invS4r {y' : MethodName} {b' : ByteArray} {nL' : Nat} {rt' : Option FieldType} {d' mc' ms' idx : Nat}  {a1 a2 a3 a4 : Value} {Q0 : Option Nat → HS → Prop} (hd : decode b pc = .ok (.invokestatic idx, 3)) (hk : LkS y.cls idx y' b' nL' rt' 4) (hC : Cn l G cy y' b' nL' rt' d' [a1, a2, a3, a4] S mc' ms' (qR Q0)) (hc : (st.map fun v => v.category).sum ≤ 8) (hdd : d' + 1 ≤ d) (h1 : k + mc' ≤ mc) (h2 : n + ms' ≤ ms) (h : ∀ (r : Option Nat) (S' : HS), Q0 r S' → R l G cy y b nL rt d mc ms Q (pc + 3) lv (va_rf r :: st) S' (k + mc') (n + ms')) : R l G cy y b nL rt d mc ms Q pc lv (a4 :: a3 :: a2 :: a1 :: st) S k n := r_callS (As := [a1, a2, a3, a4]) hd hk hC rfl hc hdd h1 h2 (fun v S2 hq => by obtain ⟨r, rfl, hq⟩ := hq; exact h r S2 hq)
theorem r_invI4v {y' : MethodName} {b' : ByteArray} {nL' : Nat}  {d' mc' ms' idx : Nat} {o : Nat} {a1 a2 a3 a4 : Value} {Q0 : HS → Prop} (hd : decode b pc = .ok (.invokespecial idx, 3)) (hk : LkI y.cls idx y' b' nL' 4) (hC : Cn l G cy y' b' nL' none d' (.ref o :: [a1, a2, a3, a4]) S mc' ms' (qV Q0)) (hc : (st.map fun v => v.category).sum ≤ 8) (hdd : d' + 1 ≤ d) (h1 : k + mc' ≤ mc) (h2 : n + ms' ≤ ms) (h : ∀ (S' : HS), Q0 S' → R l G cy y b nL rt d mc ms Q (pc + 3) lv st S' (k + mc') (n + ms')) : R l G cy y b nL rt d mc ms Q pc lv (a4 :: a3 :: a2 :: a1 :: .ref o :: st) S k n := r_callI (As := [a1, a2, a3, a4]) hd hk hC rfl hc hdd h1 h2 (fun v S2 hq => by obtain ⟨rfl, hq⟩ := hq; exact h S2 hq)
theorem r_invV5i {y' : MethodName} {b' : ByteArray} {nL' : Nat} {rt' : Option FieldType} {d' mc' ms' idx : Nat} {ci : Nat} {o : Nat} {a1 a2 a3 a4 a5 : Value} {Q0 : Int32 → HS → Prop} (hd : decode b pc = .ok (.invokevirtual idx, 3)) (hk : LkV y.cls idx y' b' nL' rt' 5 ci) (hK0 : tk o = ci) (hC : Cn l G cy y' b' nL' rt' d' (.ref o :: [a1, a2, a3, a4, a5]) S mc' ms' (qI Q0)) (hc : (st.map fun v => v.category).sum ≤ 8) (hdd : d' + 1 ≤ d) (h1 : k + mc' ≤ mc) (h2 : n + ms' ≤ ms) (h : ∀ (r : Int32) (S' : HS), Q0 r S' → R l G cy y b nL rt d mc ms Q (pc + 3) lv (.int r :: st) S' (k + mc') (n + ms')) : R l G cy y b nL rt d mc ms Q pc lv (a5 :: a4 :: a3 :: a2 :: a1 :: .ref o :: st) S k n := r_callV (As := [a1, a2, a3, a4, a5]) hd hk hK0 hC rfl hc hdd h1 h2 (fun v S2 hq => by obtain ⟨r, rfl, hq⟩ := hq; exact h r S2 hq)
theorem r_invV5v {y' : MethodName} {b' : ByteArray} {nL' : Nat} {rt' : Option FieldType} {d' mc' ms' idx : Nat} {ci : Nat} {o : Nat} {a1 a2 a3 a4 a5 : Value} {Q0 : HS → Prop} (hd : decode b pc = .ok (.invokevirtual idx, 3)) (hk : LkV y.cls idx y' b' nL' rt' 5 ci) (hK0 : tk o = ci) (hC : Cn l G cy y' b' nL' rt' d' (.ref o :: [a1, a2, a3, a4, a5]) S mc' ms' (qV Q0)) (hc : (st.map fun v => v.category).sum ≤ 8) (hdd : d' + 1 ≤ d) (h1 : k + mc' ≤ mc) (h2 : n + ms' ≤ ms) (h : ∀ (S' : HS), Q0 S' → R l G cy y b nL rt d mc ms Q (pc + 3) lv st S' (k + mc') (n + ms')) : R l G cy y b nL rt d mc ms Q pc lv (a5 :: a4 :: a3 :: a2 :: a1 :: .ref o :: st) S k n := r_callV (As := [a1, a2, a3, a4, a5]) hd hk hK0 hC rfl hc hdd h1 h2 (fun v S2 hq => by obtain ⟨rfl, hq⟩ := hq; exact h S2 hq)
theorem r_invV5r {y' : MethodName} {b' : ByteArray} {nL' : Nat} {rt' : Option FieldType} {d' mc' ms' idx : Nat} {ci : Nat} {o : Nat} {a1 a2 a3 a4 a5 : Value} {Q0 : Option Nat → HS → Prop} (hd : decode b pc = .ok (.invokevirtual idx, 3)) (hk : LkV y.cls idx y' b' nL' rt' 5 ci) (hK0 : tk o = ci) (hC : Cn l G cy y' b' nL' rt' d' (.ref o :: [a1, a2, a3, a4, a5]) S mc' ms' (qR Q0)) (hc : (st.map fun v => v.category).sum ≤ 8) (hdd : d' + 1 ≤ d) (h1 : k + mc' ≤ mc) (h2 : n + ms' ≤ ms) (h : ∀ (r : Option Nat) (S' : HS), Q0 r S' → R l G cy y b nL rt d mc ms Q (pc + 3) lv (va_rf r :: st) S' (k + mc') (n + ms')) : R l G cy y b nL rt d mc ms Q pc lv (a5 :: a4 :: a3 :: a2 :: a1 :: .ref o :: st) S k n := r_callV (As := [a1, a2, a3, a4, a5]) hd hk hK0 hC rfl hc hdd h1 h2 (fun v S2 hq => by obtain ⟨r, rfl, hq⟩ := hq; exact h r S2 hq)
theorem r_invS5i {y' : MethodName} {b' : ByteArray} {nL' : Nat} {rt' : Option FieldType} {d' mc' ms' idx : Nat}  {a1 a2 a3 a4 a5 : Value} {Q0 : Int32 → HS → Prop} (hd : decode b pc = .ok (.invokestatic idx, 3)) (hk : LkS y.cls idx y' b' nL' rt' 5) (hC : Cn l G cy y' b' nL' rt' d' [a1, a2, a3, a4, a5] S mc' ms' (qI Q0)) (hc : (st.map fun v => v.category).sum ≤ 8) (hdd : d' + 1 ≤ d) (h1 : k + mc' ≤ mc) (h2 : n + ms' ≤ ms) (h : ∀ (r : Int32) (S' : HS), Q0 r S' → R l G cy y b nL rt d mc ms Q (pc + 3) lv (.int r :: st) S' (k + mc') (n + ms')) : R l G cy y b nL rt d mc ms Q pc lv (a5 :: a4 :: a3 :: a2 :: a1 :: st) S k n := r_callS (As := [a1, a2, a3, a4, a5]) hd hk hC rfl hc hdd h1 h2 (fun v S2 hq => by obtain ⟨r, rfl, hq⟩ := hq; exact h r S2 hq)
theorem r_invS5v {y' : MethodName} {b' : ByteArray} {nL' : Nat} {rt' : Option FieldType} {d' mc' ms' idx : Nat}  {a1 a2 a3 a4 a5 : Value} {Q0 : HS → Prop} (hd : decode b pc = .ok (.invokestatic idx, 3)) (hk : LkS y.cls idx y' b' nL' rt' 5) (hC : Cn l G cy y' b' nL' rt' d' [a1, a2, a3, a4, a5] S mc' ms' (qV Q0)) (hc : (st.map fun v => v.category).sum ≤ 8) (hdd : d' + 1 ≤ d) (h1 : k + mc' ≤ mc) (h2 : n + ms' ≤ ms) (h : ∀ (S' : HS), Q0 S' → R l G cy y b nL rt d mc ms Q (pc + 3) lv st S' (k + mc') (n + ms')) : R l G cy y b nL rt d mc ms Q pc lv (a5 :: a4 :: a3 :: a2 :: a1 :: st) S k n := r_callS (As := [a1, a2, a3, a4, a5]) hd hk hC rfl hc hdd h1 h2 (fun v S2 hq => by obtain ⟨rfl, hq⟩ := hq; exact h S2 hq)
theorem r_invS5r {y' : MethodName} {b' : ByteArray} {nL' : Nat} {rt' : Option FieldType} {d' mc' ms' idx : Nat}  {a1 a2 a3 a4 a5 : Value} {Q0 : Option Nat → HS → Prop} (hd : decode b pc = .ok (.invokestatic idx, 3)) (hk : LkS y.cls idx y' b' nL' rt' 5) (hC : Cn l G cy y' b' nL' rt' d' [a1, a2, a3, a4, a5] S mc' ms' (qR Q0)) (hc : (st.map fun v => v.category).sum ≤ 8) (hdd : d' + 1 ≤ d) (h1 : k + mc' ≤ mc) (h2 : n + ms' ≤ ms) (h : ∀ (r : Option Nat) (S' : HS), Q0 r S' → R l G cy y b nL rt d mc ms Q (pc + 3) lv (va_rf r :: st) S' (k + mc') (n + ms')) : R l G cy y b nL rt d mc ms Q pc lv (a5 :: a4 :: a3 :: a2 :: a1 :: st) S k n := r_callS (As := [a1, a2, a3, a4, a5]) hd hk hC rfl hc hdd h1 h2 (fun v S2 hq => by obtain ⟨r, rfl, hq⟩ := hq; exact h r S2 hq)
theorem r_invI5v {y' : MethodName} {b' : ByteArray} {nL' : Nat}  {d' mc' ms' idx : Nat} {o : Nat} {a1 a2 a3 a4 a5 : Value} {Q0 : HS → Prop} (hd : decode b pc = .ok (.invokespecial idx, 3)) (hk : LkI y.cls idx y' b' nL' 5) (hC : Cn l G cy y' b' nL' none d' (.ref o :: [a1, a2, a3, a4, a5]) S mc' ms' (qV Q0)) (hc : (st.map fun v => v.category).sum ≤ 8) (hdd : d' + 1 ≤ d) (h1 : k + mc' ≤ mc) (h2 : n + ms' ≤ ms) (h : ∀ (S' : HS), Q0 S' → R l G cy y b nL rt d mc ms Q (pc + 3) lv st S' (k + mc') (n + ms')) : R l G cy y b nL rt d mc ms Q pc lv (a5 :: a4 :: a3 :: a2 :: a1 :: .ref o :: st) S k n := r_callI (As := [a1, a2, a3, a4, a5]) hd hk hC rfl hc hdd h1 h2 (fun v S2 hq => by obtain ⟨rfl, hq⟩ := hq; exact h S2 hq)
theorem r_invV6i {y' : MethodName} {b' : ByteArray} {nL' : Nat} {rt' : Option FieldType} {d' mc' ms' idx : Nat} {ci : Nat} {o : Nat} {a1 a2 a3 a4 a5 a6 : Value} {Q0 : Int32 → HS → Prop} (hd : decode b pc = .ok (.invokevirtual idx, 3)) (hk : LkV y.cls idx y' b' nL' rt' 6 ci) (hK0 : tk o = ci) (hC : Cn l G cy y' b' nL' rt' d' (.ref o :: [a1, a2, a3, a4, a5, a6]) S mc' ms' (qI Q0)) (hc : (st.map fun v => v.category).sum ≤ 8) (hdd : d' + 1 ≤ d) (h1 : k + mc' ≤ mc) (h2 : n + ms' ≤ ms) (h : ∀ (r : Int32) (S' : HS), Q0 r S' → R l G cy y b nL rt d mc ms Q (pc + 3) lv (.int r :: st) S' (k + mc') (n + ms')) : R l G cy y b nL rt d mc ms Q pc lv (a6 :: a5 :: a4 :: a3 :: a2 :: a1 :: .ref o :: st) S k n := r_callV (As := [a1, a2, a3, a4, a5, a6]) hd hk hK0 hC rfl hc hdd h1 h2 (fun v S2 hq => by obtain ⟨r, rfl, hq⟩ := hq; exact h r S2 hq)
theorem r_invV6v {y' : MethodName} {b' : ByteArray} {nL' : Nat} {rt' : Option FieldType} {d' mc' ms' idx : Nat} {ci : Nat} {o : Nat} {a1 a2 a3 a4 a5 a6 : Value} {Q0 : HS → Prop} (hd : decode b pc = .ok (.invokevirtual idx, 3)) (hk : LkV y.cls idx y' b' nL' rt' 6 ci) (hK0 : tk o = ci) (hC : Cn l G cy y' b' nL' rt' d' (.ref o :: [a1, a2, a3, a4, a5, a6]) S mc' ms' (qV Q0)) (hc : (st.map fun v => v.category).sum ≤ 8) (hdd : d' + 1 ≤ d) (h1 : k + mc' ≤ mc) (h2 : n + ms' ≤ ms) (h : ∀ (S' : HS), Q0 S' → R l G cy y b nL rt d mc ms Q (pc + 3) lv st S' (k + mc') (n + ms')) : R l G cy y b nL rt d mc ms Q pc lv (a6 :: a5 :: a4 :: a3 :: a2 :: a1 :: .ref o :: st) S k n := r_callV (As := [a1, a2, a3, a4, a5, a6]) hd hk hK0 hC rfl hc hdd h1 h2 (fun v S2 hq => by obtain ⟨rfl, hq⟩ := hq; exact h S2 hq)
theorem r_invV6r {y' : MethodName} {b' : ByteArray} {nL' : Nat} {rt' : Option FieldType} {d' mc' ms' idx : Nat} {ci : Nat} {o : Nat} {a1 a2 a3 a4 a5 a6 : Value} {Q0 : Option Nat → HS → Prop} (hd : decode b pc = .ok (.invokevirtual idx, 3)) (hk : LkV y.cls idx y' b' nL' rt' 6 ci) (hK0 : tk o = ci) (hC : Cn l G cy y' b' nL' rt' d' (.ref o :: [a1, a2, a3, a4, a5, a6]) S mc' ms' (qR Q0)) (hc : (st.map fun v => v.category).sum ≤ 8) (hdd : d' + 1 ≤ d) (h1 : k + mc' ≤ mc) (h2 : n + ms' ≤ ms) (h : ∀ (r : Option Nat) (S' : HS), Q0 r S' → R l G cy y b nL rt d mc ms Q (pc + 3) lv (va_rf r :: st) S' (k + mc') (n + ms')) : R l G cy y b nL rt d mc ms Q pc lv (a6 :: a5 :: a4 :: a3 :: a2 :: a1 :: .ref o :: st) S k n := r_callV (As := [a1, a2, a3, a4, a5, a6]) hd hk hK0 hC rfl hc hdd h1 h2 (fun v S2 hq => by obtain ⟨r, rfl, hq⟩ := hq; exact h r S2 hq)
theorem r_invS6i {y' : MethodName} {b' : ByteArray} {nL' : Nat} {rt' : Option FieldType} {d' mc' ms' idx : Nat}  {a1 a2 a3 a4 a5 a6 : Value} {Q0 : Int32 → HS → Prop} (hd : decode b pc = .ok (.invokestatic idx, 3)) (hk : LkS y.cls idx y' b' nL' rt' 6) (hC : Cn l G cy y' b' nL' rt' d' [a1, a2, a3, a4, a5, a6] S mc' ms' (qI Q0)) (hc : (st.map fun v => v.category).sum ≤ 8) (hdd : d' + 1 ≤ d) (h1 : k + mc' ≤ mc) (h2 : n + ms' ≤ ms) (h : ∀ (r : Int32) (S' : HS), Q0 r S' → R l G cy y b nL rt d mc ms Q (pc + 3) lv (.int r :: st) S' (k + mc') (n + ms')) : R l G cy y b nL rt d mc ms Q pc lv (a6 :: a5 :: a4 :: a3 :: a2 :: a1 :: st) S k n := r_callS (As := [a1, a2, a3, a4, a5, a6]) hd hk hC rfl hc hdd h1 h2 (fun v S2 hq => by obtain ⟨r, rfl, hq⟩ := hq; exact h r S2 hq)
theorem r_invS6v {y' : MethodName} {b' : ByteArray} {nL' : Nat} {rt' : Option FieldType} {d' mc' ms' idx : Nat}  {a1 a2 a3 a4 a5 a6 : Value} {Q0 : HS → Prop} (hd : decode b pc = .ok (.invokestatic idx, 3)) (hk : LkS y.cls idx y' b' nL' rt' 6) (hC : Cn l G cy y' b' nL' rt' d' [a1, a2, a3, a4, a5, a6] S mc' ms' (qV Q0)) (hc : (st.map fun v => v.category).sum ≤ 8) (hdd : d' + 1 ≤ d) (h1 : k + mc' ≤ mc) (h2 : n + ms' ≤ ms) (h : ∀ (S' : HS), Q0 S' → R l G cy y b nL rt d mc ms Q (pc + 3) lv st S' (k + mc') (n + ms')) : R l G cy y b nL rt d mc ms Q pc lv (a6 :: a5 :: a4 :: a3 :: a2 :: a1 :: st) S k n := r_callS (As := [a1, a2, a3, a4, a5, a6]) hd hk hC rfl hc hdd h1 h2 (fun v S2 hq => by obtain ⟨rfl, hq⟩ := hq; exact h S2 hq)
theorem r_invS6r {y' : MethodName} {b' : ByteArray} {nL' : Nat} {rt' : Option FieldType} {d' mc' ms' idx : Nat}  {a1 a2 a3 a4 a5 a6 : Value} {Q0 : Option Nat → HS → Prop} (hd : decode b pc = .ok (.invokestatic idx, 3)) (hk : LkS y.cls idx y' b' nL' rt' 6) (hC : Cn l G cy y' b' nL' rt' d' [a1, a2, a3, a4, a5, a6] S mc' ms' (qR Q0)) (hc : (st.map fun v => v.category).sum ≤ 8) (hdd : d' + 1 ≤ d) (h1 : k + mc' ≤ mc) (h2 : n + ms' ≤ ms) (h : ∀ (r : Option Nat) (S' : HS), Q0 r S' → R l G cy y b nL rt d mc ms Q (pc + 3) lv (va_rf r :: st) S' (k + mc') (n + ms')) : R l G cy y b nL rt d mc ms Q pc lv (a6 :: a5 :: a4 :: a3 :: a2 :: a1 :: st) S k n := r_callS (As := [a1, a2, a3, a4, a5, a6]) hd hk hC rfl hc hdd h1 h2 (fun v S2 hq => by obtain ⟨r, rfl, hq⟩ := hq; exact h r S2 hq)
theorem r_invI6v {y' : MethodName} {b' : ByteArray} {nL' : Nat}  {d' mc' ms' idx : Nat} {o : Nat} {a1 a2 a3 a4 a5 a6 : Value} {Q0 : HS → Prop} (hd : decode b pc = .ok (.invokespecial idx, 3)) (hk : LkI y.cls idx y' b' nL' 6) (hC : Cn l G cy y' b' nL' none d' (.ref o :: [a1, a2, a3, a4, a5, a6]) S mc' ms' (qV Q0)) (hc : (st.map fun v => v.category).sum ≤ 8) (hdd : d' + 1 ≤ d) (h1 : k + mc' ≤ mc) (h2 : n + ms' ≤ ms) (h : ∀ (S' : HS), Q0 S' → R l G cy y b nL rt d mc ms Q (pc + 3) lv st S' (k + mc') (n + ms')) : R l G cy y b nL rt d mc ms Q pc lv (a6 :: a5 :: a4 :: a3 :: a2 :: a1 :: .ref o :: st) S k n := r_callI (As := [a1, a2, a3, a4, a5, a6]) hd hk hC rfl hc hdd h1 h2 (fun v S2 hq => by obtain ⟨rfl, hq⟩ := hq; exact h S2 hq)
theorem r_invV7i {y' : MethodName} {b' : ByteArray} {nL' : Nat} {rt' : Option FieldType} {d' mc' ms' idx : Nat} {ci : Nat} {o : Nat} {a1 a2 a3 a4 a5 a6 a7 : Value} {Q0 : Int32 → HS → Prop} (hd : decode b pc = .ok (.invokevirtual idx, 3)) (hk : LkV y.cls idx y' b' nL' rt' 7 ci) (hK0 : tk o = ci) (hC : Cn l G cy y' b' nL' rt' d' (.ref o :: [a1, a2, a3, a4, a5, a6, a7]) S mc' ms' (qI Q0)) (hc : (st.map fun v => v.category).sum ≤ 8) (hdd : d' + 1 ≤ d) (h1 : k + mc' ≤ mc) (h2 : n + ms' ≤ ms) (h : ∀ (r : Int32) (S' : HS), Q0 r S' → R l G cy y b nL rt d mc ms Q (pc + 3) lv (.int r :: st) S' (k + mc') (n + ms')) : R l G cy y b nL rt d mc ms Q pc lv (a7 :: a6 :: a5 :: a4 :: a3 :: a2 :: a1 :: .ref o :: st) S k n := r_callV (As := [a1, a2, a3, a4, a5, a6, a7]) hd hk hK0 hC rfl hc hdd h1 h2 (fun v S2 hq => by obtain ⟨r, rfl, hq⟩ := hq; exact h r S2 hq)
theorem r_invV7v {y' : MethodName} {b' : ByteArray} {nL' : Nat} {rt' : Option FieldType} {d' mc' ms' idx : Nat} {ci : Nat} {o : Nat} {a1 a2 a3 a4 a5 a6 a7 : Value} {Q0 : HS → Prop} (hd : decode b pc = .ok (.invokevirtual idx, 3)) (hk : LkV y.cls idx y' b' nL' rt' 7 ci) (hK0 : tk o = ci) (hC : Cn l G cy y' b' nL' rt' d' (.ref o :: [a1, a2, a3, a4, a5, a6, a7]) S mc' ms' (qV Q0)) (hc : (st.map fun v => v.category).sum ≤ 8) (hdd : d' + 1 ≤ d) (h1 : k + mc' ≤ mc) (h2 : n + ms' ≤ ms) (h : ∀ (S' : HS), Q0 S' → R l G cy y b nL rt d mc ms Q (pc + 3) lv st S' (k + mc') (n + ms')) : R l G cy y b nL rt d mc ms Q pc lv (a7 :: a6 :: a5 :: a4 :: a3 :: a2 :: a1 :: .ref o :: st) S k n := r_callV (As := [a1, a2, a3, a4, a5, a6, a7]) hd hk hK0 hC rfl hc hdd h1 h2 (fun v S2 hq => by obtain ⟨rfl, hq⟩ := hq; exact h S2 hq)
theorem r_invV7r {y' : MethodName} {b' : ByteArray} {nL' : Nat} {rt' : Option FieldType} {d' mc' ms' idx : Nat} {ci : Nat} {o : Nat} {a1 a2 a3 a4 a5 a6 a7 : Value} {Q0 : Option Nat → HS → Prop} (hd : decode b pc = .ok (.invokevirtual idx, 3)) (hk : LkV y.cls idx y' b' nL' rt' 7 ci) (hK0 : tk o = ci) (hC : Cn l G cy y' b' nL' rt' d' (.ref o :: [a1, a2, a3, a4, a5, a6, a7]) S mc' ms' (qR Q0)) (hc : (st.map fun v => v.category).sum ≤ 8) (hdd : d' + 1 ≤ d) (h1 : k + mc' ≤ mc) (h2 : n + ms' ≤ ms) (h : ∀ (r : Option Nat) (S' : HS), Q0 r S' → R l G cy y b nL rt d mc ms Q (pc + 3) lv (va_rf r :: st) S' (k + mc') (n + ms')) : R l G cy y b nL rt d mc ms Q pc lv (a7 :: a6 :: a5 :: a4 :: a3 :: a2 :: a1 :: .ref o :: st) S k n := r_callV (As := [a1, a2, a3, a4, a5, a6, a7]) hd hk hK0 hC rfl hc hdd h1 h2 (fun v S2 hq => by obtain ⟨r, rfl, hq⟩ := hq; exact h r S2 hq)
theorem r_invS7i {y' : MethodName} {b' : ByteArray} {nL' : Nat} {rt' : Option FieldType} {d' mc' ms' idx : Nat}  {a1 a2 a3 a4 a5 a6 a7 : Value} {Q0 : Int32 → HS → Prop} (hd : decode b pc = .ok (.invokestatic idx, 3)) (hk : LkS y.cls idx y' b' nL' rt' 7) (hC : Cn l G cy y' b' nL' rt' d' [a1, a2, a3, a4, a5, a6, a7] S mc' ms' (qI Q0)) (hc : (st.map fun v => v.category).sum ≤ 8) (hdd : d' + 1 ≤ d) (h1 : k + mc' ≤ mc) (h2 : n + ms' ≤ ms) (h : ∀ (r : Int32) (S' : HS), Q0 r S' → R l G cy y b nL rt d mc ms Q (pc + 3) lv (.int r :: st) S' (k + mc') (n + ms')) : R l G cy y b nL rt d mc ms Q pc lv (a7 :: a6 :: a5 :: a4 :: a3 :: a2 :: a1 :: st) S k n := r_callS (As := [a1, a2, a3, a4, a5, a6, a7]) hd hk hC rfl hc hdd h1 h2 (fun v S2 hq => by obtain ⟨r, rfl, hq⟩ := hq; exact h r S2 hq)
theorem r_invS7v {y' : MethodName} {b' : ByteArray} {nL' : Nat} {rt' : Option FieldType} {d' mc' ms' idx : Nat}  {a1 a2 a3 a4 a5 a6 a7 : Value} {Q0 : HS → Prop} (hd : decode b pc = .ok (.invokestatic idx, 3)) (hk : LkS y.cls idx y' b' nL' rt' 7) (hC : Cn l G cy y' b' nL' rt' d' [a1, a2, a3, a4, a5, a6, a7] S mc' ms' (qV Q0)) (hc : (st.map fun v => v.category).sum ≤ 8) (hdd : d' + 1 ≤ d) (h1 : k + mc' ≤ mc) (h2 : n + ms' ≤ ms) (h : ∀ (S' : HS), Q0 S' → R l G cy y b nL rt d mc ms Q (pc + 3) lv st S' (k + mc') (n + ms')) : R l G cy y b nL rt d mc ms Q pc lv (a7 :: a6 :: a5 :: a4 :: a3 :: a2 :: a1 :: st) S k n := r_callS (As := [a1, a2, a3, a4, a5, a6, a7]) hd hk hC rfl hc hdd h1 h2 (fun v S2 hq => by obtain ⟨rfl, hq⟩ := hq; exact h S2 hq)
theorem r_invS7r {y' : MethodName} {b' : ByteArray} {nL' : Nat} {rt' : Option FieldType} {d' mc' ms' idx : Nat}  {a1 a2 a3 a4 a5 a6 a7 : Value} {Q0 : Option Nat → HS → Prop} (hd : decode b pc = .ok (.invokestatic idx, 3)) (hk : LkS y.cls idx y' b' nL' rt' 7) (hC : Cn l G cy y' b' nL' rt' d' [a1, a2, a3, a4, a5, a6, a7] S mc' ms' (qR Q0)) (hc : (st.map fun v => v.category).sum ≤ 8) (hdd : d' + 1 ≤ d) (h1 : k + mc' ≤ mc) (h2 : n + ms' ≤ ms) (h : ∀ (r : Option Nat) (S' : HS), Q0 r S' → R l G cy y b nL rt d mc ms Q (pc + 3) lv (va_rf r :: st) S' (k + mc') (n + ms')) : R l G cy y b nL rt d mc ms Q pc lv (a7 :: a6 :: a5 :: a4 :: a3 :: a2 :: a1 :: st) S k n := r_callS (As := [a1, a2, a3, a4, a5, a6, a7]) hd hk hC rfl hc hdd h1 h2 (fun v S2 hq => by obtain ⟨r, rfl, hq⟩ := hq; exact h r S2 hq)
theorem r_invI7v {y' : MethodName} {b' : ByteArray} {nL' : Nat}  {d' mc' ms' idx : Nat} {o : Nat} {a1 a2 a3 a4 a5 a6 a7 : Value} {Q0 : HS → Prop} (hd : decode b pc = .ok (.invokespecial idx, 3)) (hk : LkI y.cls idx y' b' nL' 7) (hC : Cn l G cy y' b' nL' none d' (.ref o :: [a1, a2, a3, a4, a5, a6, a7]) S mc' ms' (qV Q0)) (hc : (st.map fun v => v.category).sum ≤ 8) (hdd : d' + 1 ≤ d) (h1 : k + mc' ≤ mc) (h2 : n + ms' ≤ ms) (h : ∀ (S' : HS), Q0 S' → R l G cy y b nL rt d mc ms Q (pc + 3) lv st S' (k + mc') (n + ms')) : R l G cy y b nL rt d mc ms Q pc lv (a7 :: a6 :: a5 :: a4 :: a3 :: a2 :: a1 :: .ref o :: st) S k n := r_callI (As := [a1, a2, a3, a4, a5, a6, a7]) hd hk hC rfl hc hdd h1 h2 (fun v S2 hq => by obtain ⟨rfl, hq⟩ := hq; exact h S2 hq)
end RH
