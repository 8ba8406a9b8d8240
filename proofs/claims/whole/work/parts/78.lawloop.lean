/-! ===== the law: its loop, its start ===== -/
theorem and31 (x : Int32) : ∃ w, w < 32 ∧ x &&& 31 = nI w := by
  obtain ⟨n, rfl⟩ := ex_nI x
  refine ⟨n % 2 ^ 5, Nat.mod_lt _ (by decide), ?_⟩
  rw [show (31 : Int32) = nI (2 ^ 5 - 1) from rfl, fa_mask]
set_option maxHeartbeats 4000000 in
/-- one call of the script, from the loop's head -/
theorem law_step {p : Program} {l : Launch} {e : Env} {s : State} {m : MethodId} {below : List Frame} {meth : Method} {c : Code} {bs L j : Nat} {xs : Nat → Int32} {G : va_G} {cy : Nat → ClassId} {H : Heap} {locs : List Loc} {ls : Array Slot} {S T : HS} {ρ σ : Nat → Nat} (X : Cl p s m c bs) (hr : meth.sig.returnType = ret) (hlocks : meth.locks = false) (hK : KK G cy s) (hX : va_X bs L xs s s.heap) (hbl : bs < s.heap.size) (hL : L ≤ 3072) (hj : j ≤ 513) (hW : W2 G cy s ρ σ S T H locs) (hs : Sim S T) (hl : lv_has ls 4 [(3, .int (nI (6 * j))), (2, .ref (σ 2000)), (1, .ref (ρ 0)), (0, .ref bs)])
    (ih : 6 * j + 6 ≤ L → ∀ (S' T' : HS) (ρ' σ' : Nat → Nat) (H' : Heap) (locs' : List Loc) (ls' : Array Slot), Sim S' T' → W2 G cy s ρ' σ' S' T' H' locs' → lv_has ls' 4 [(3, .int (nI (6 * (j + 1)))), (2, .ref (σ' 2000)), (1, .ref (ρ' 0)), (0, .ref bs)] → W p l e room_1 s m #[Value.ref bs] below meth c H' locs' (100 + 528 * (j + 1)) (9000 + 5808 * (j + 1)) (lw_Z below #[Value.ref bs] s) (F0 m 18 ls' [])) :
    W p l e room_1 s m #[Value.ref bs] below meth c H locs (100 + 528 * j) (9000 + 5808 * j) (lw_Z below #[Value.ref bs] s) (F0 m 18 ls []) := by
  obtain ⟨hx, hb, hml, hown, hts⟩ := id X
  have hbA : ¬ (fun q : Nat => s.heap.size ≤ q) bs := Nat.not_le.mpr hbl
  have hS := hW.2.2.2.2.2
  have hLI : (Int32.ofNat L).toInt = L := nI_toInt (n := L) (by omega)
  have six : (6 : Int32).toInt = 6 := rfl
  have hsub : (Int32.ofNat L - 6).toInt = L - 6 := by rw [fb_subI (by omega) (by omega), hLI, six]
  have hji : (nI (6 * j)).toInt = 6 * j := nI_toInt (by omega)
  refine lv_iload_n hx hb dL_law_18 rfl (lv_at hl 0 rfl) ?_
  refine lv_aload_n hx hb dL_law_19 rfl (lv_at hl 3 rfl) ?_
  refine va_slen hx hb hX hbl hbA hS dL_law_20 ?_
  refine lv_bipush (v := 6) hx hb dL_law_21 (by decide) ?_
  refine lv_isub hx hb dL_law_23 ?_
  refine lv_icmp_gt (tgt := 867) hx hb dL_law_24 (by decide) (fun c0 => ?_) (fun c0 => ?_)
  · refine lv_iconst (v := 1) hx hb dL_law_867 (by decide) ?_
    refine va_forget (fun q hq => hS.2.2 q hq) ?_
    refine W.widen (k := 600000) (n := 7302250) (by omega) (by omega) ?_
    exact lw_ret hx hb hr hlocks dL_law_868
  · have hi : 6 * j + 6 ≤ L := by
      rw [fa_lt, hsub, hji] at c0
      omega
    have v0 : vp_in (nI (6 * j)) L := vp_in_nI (by omega) (by omega)
    refine lv_aload_n hx hb dL_law_27 rfl (lv_at hl 3 rfl) ?_
    refine lv_iload_n hx hb dL_law_28 rfl (lv_at hl 0 rfl) ?_
    refine va_sld hx hb hX hbl hbA hS v0 dL_law_29 ?_
    refine lv_bipush (v := 31) hx hb dL_law_30 (by decide) ?_
    refine lv_iand hx hb dL_law_32 ?_
    obtain ⟨w, hw, ew⟩ := and31 (xs (nI (6 * j)).toNatClampNeg)
    rw [ew]
    have hk : 100 + 528 * j + 528 ≤ 600000 := by omega
    have hn : 9000 + 5808 * j + 5808 ≤ 7302250 := by omega
    have hN : ∀ (S' T' : HS) (ρ' σ' : Nat → Nat) (H' : Heap) (locs' : List Loc), Sim S' T' → W2 G cy s ρ' σ' S' T' H' locs' → ρ' 0 = ρ 0 → σ' 2000 = σ 2000 → W p l e room_1 s m #[Value.ref bs] below meth c H' locs' (100 + 528 * j + 528) (9000 + 5808 * j + 5808) (lw_Z below #[Value.ref bs] s) (F0 m 861 ls []) := by
      intro S' T' ρ' σ' H' locs' hs' hW' hρ hσ
      refine lv_iinc (v := nI (6 * (j + 1))) (lv' := [(3, .int (nI (6 * (j + 1)))), (2, .ref (σ 2000)), (1, .ref (ρ 0)), (0, .ref bs)]) hx hb dL_law_861 hl (k := 0) rfl (nI_add (6 * j) 6) (by decide) rfl (fun ls' hl' => ?_)
      refine lv_goto (tgt := 18) hx hb dL_law_864 (by decide) ?_
      rw [← hρ, ← hσ] at hl'
      have h9 := ih hi S' T' ρ' σ' H' locs' ls' hs' hW' hl'
      rw [show 100 + 528 * (j + 1) = 100 + 528 * j + 528 by omega, show 9000 + 5808 * (j + 1) = 9000 + 5808 * j + 5808 by omega] at h9
      exact h9
    by_cases h23 : w < 23
    · have hc : w = 0 ∨ w = 1 ∨ w = 2 ∨ w = 3 ∨ w = 4 ∨ w = 5 ∨ w = 6 ∨ w = 7 ∨ w = 8 ∨ w = 9 ∨ w = 10 ∨ w = 11 ∨ w = 12 ∨ w = 13 ∨ w = 14 ∨ w = 15 ∨ w = 16 ∨ w = 17 ∨ w = 18 ∨ w = 19 ∨ w = 20 ∨ w = 21 ∨ w = 22 := by omega
      rcases hc with rfl | rfl | rfl | rfl | rfl | rfl | rfl | rfl | rfl | rfl | rfl | rfl | rfl | rfl | rfl | rfl | rfl | rfl | rfl | rfl | rfl | rfl | rfl
      · refine lv_tableIn (off := 107) (tgt := 140) hx hb dL_law_33 (by decide) (by decide) rfl (by decide) ?_
        exact lw_shoal X hK hX hbl hi hL hW hs hl hk hn hN
      · refine lv_tableIn (off := 140) (tgt := 173) hx hb dL_law_33 (by decide) (by decide) rfl (by decide) ?_
        exact lw_open X hK hX hbl hi hL hW hs hl hk hn hN
      · refine lv_tableIn (off := 189) (tgt := 222) hx hb dL_law_33 (by decide) (by decide) rfl (by decide) ?_
        exact lw_drift X hK hX hbl hi hL hW hs hl hk hn hN
      · refine lv_tableIn (off := 212) (tgt := 245) hx hb dL_law_33 (by decide) (by decide) rfl (by decide) ?_
        exact lw_boat X hK hX hbl hi hL hW hs hl hk hn hN
      · refine lv_tableIn (off := 235) (tgt := 268) hx hb dL_law_33 (by decide) (by decide) rfl (by decide) ?_
        exact lw_go X hK hX hbl hi hL hW hs hl hk hn hN
      · refine lv_tableIn (off := 268) (tgt := 301) hx hb dL_law_33 (by decide) (by decide) rfl (by decide) ?_
        exact lw_mend X hK hX hbl hi hL hW hs hl hk hn hN
      · refine lv_tableIn (off := 301) (tgt := 334) hx hb dL_law_33 (by decide) (by decide) rfl (by decide) ?_
        exact lw_yard X hK hX hbl hi hL hW hs hl hk hn hN
      · refine lv_tableIn (off := 334) (tgt := 367) hx hb dL_law_33 (by decide) (by decide) rfl (by decide) ?_
        exact lw_bid X hK hX hbl hi hL hW hs hl hk hn hN
      · refine lv_tableIn (off := 367) (tgt := 400) hx hb dL_law_33 (by decide) (by decide) rfl (by decide) ?_
        exact lw_soft X hK hX hbl hi hL hW hs hl hk hn hN
      · refine lv_tableIn (off := 390) (tgt := 423) hx hb dL_law_33 (by decide) (by decide) rfl (by decide) ?_
        exact lw_night X hK hX hbl hi hL hW hs hl hk hn hN
      · refine lv_tableIn (off := 429) (tgt := 462) hx hb dL_law_33 (by decide) (by decide) rfl (by decide) ?_
        exact lw_feed X hK hX hbl hi hL hW hs hl hk hn hN
      · refine lv_tableIn (off := 492) (tgt := 525) hx hb dL_law_33 (by decide) (by decide) rfl (by decide) ?_
        exact lw_end X hK hX hbl hi hL hW hs hl hk hn hN
      · refine lv_tableIn (off := 515) (tgt := 548) hx hb dL_law_33 (by decide) (by decide) rfl (by decide) ?_
        exact lw_fault X hK hX hbl hi hL hW hs hl hk hn hN
      · refine lv_tableIn (off := 528) (tgt := 561) hx hb dL_law_33 (by decide) (by decide) rfl (by decide) ?_
        exact lw_brand X hK hX hbl hi hL hW hs hl hk hn hN
      · refine lv_tableIn (off := 551) (tgt := 584) hx hb dL_law_33 (by decide) (by decide) rfl (by decide) ?_
        exact lw_judge X hK hX hbl hi hL hW hs hl hk hn hN
      · refine lv_tableIn (off := 584) (tgt := 617) hx hb dL_law_33 (by decide) (by decide) rfl (by decide) ?_
        exact lw_branded X hK hX hbl hi hL hW hs hl hk hn hN
      · refine lv_tableIn (off := 607) (tgt := 640) hx hb dL_law_33 (by decide) (by decide) rfl (by decide) ?_
        exact lw_share X hK hX hbl hi hL hW hs hl hk hn hN
      · refine lv_tableIn (off := 650) (tgt := 683) hx hb dL_law_33 (by decide) (by decide) rfl (by decide) ?_
        exact lw_settle X hK hX hbl hi hL hW hs hl hk hn hN
      · refine lv_tableIn (off := 673) (tgt := 706) hx hb dL_law_33 (by decide) (by decide) rfl (by decide) ?_
        exact lw_coins X hK hX hbl hi hL hW hs hl hk hn hN
      · refine lv_tableIn (off := 706) (tgt := 739) hx hb dL_law_33 (by decide) (by decide) rfl (by decide) ?_
        exact lw_cell X hK hX hbl hi hL hW hs hl hk hn hN
      · refine lv_tableIn (off := 739) (tgt := 772) hx hb dL_law_33 (by decide) (by decide) rfl (by decide) ?_
        exact lw_told X hK hX hbl hi hL hW hs hl hk hn hN
      · refine lv_tableIn (off := 772) (tgt := 805) hx hb dL_law_33 (by decide) (by decide) rfl (by decide) ?_
        exact lw_lot X hK hX hbl hi hL hW hs hl hk hn hN
      · refine lv_tableIn (off := 805) (tgt := 838) hx hb dL_law_33 (by decide) (by decide) rfl (by decide) ?_
        exact lw_count X hK hX hbl hi hL hW hs hl hk hn hN
    · refine lv_tableOut (tgt := 861) hx hb dL_law_33 (Or.inr (by rw [nI_toInt (by omega)]; omega)) (by decide) ?_
      refine W.widen (k := 100 + 528 * j + 528) (n := 9000 + 5808 * j + 5808) (by omega) (by omega) ?_
      exact hN S T ρ σ H locs hs hW rfl rfl
theorem law_loop {p : Program} {l : Launch} {e : Env} {s : State} {m : MethodId} {below : List Frame} {meth : Method} {c : Code} {bs L : Nat} {xs : Nat → Int32} {G : va_G} {cy : Nat → ClassId} (X : Cl p s m c bs) (hr : meth.sig.returnType = ret) (hlocks : meth.locks = false) (hK : KK G cy s) (hX : va_X bs L xs s s.heap) (hbl : bs < s.heap.size) (hL : L ≤ 3072) : ∀ (u j : Nat), j + u = 513 → ∀ (S T : HS) (ρ σ : Nat → Nat) (H : Heap) (locs : List Loc) (ls : Array Slot), Sim S T → W2 G cy s ρ σ S T H locs → lv_has ls 4 [(3, .int (nI (6 * j))), (2, .ref (σ 2000)), (1, .ref (ρ 0)), (0, .ref bs)] → W p l e room_1 s m #[Value.ref bs] below meth c H locs (100 + 528 * j) (9000 + 5808 * j) (lw_Z below #[Value.ref bs] s) (F0 m 18 ls [])
  | 0, j, hju, S, T, ρ, σ, H, locs, ls, hs, hW, hl => law_step X hr hlocks hK hX hbl hL (by omega) hW hs hl (fun z => absurd z (by omega))
  | u + 1, j, hju, S, T, ρ, σ, H, locs, ls, hs, hW, hl => law_step X hr hlocks hK hX hbl hL (by omega) hW hs hl (fun _ => law_loop X hr hlocks hK hX hbl hL u (j + 1) (by omega))
theorem ml_9 : Cond.methodLink RL 9 yX8_init ∈ TB := by decide +kernel
theorem ml_12 : Cond.methodLink RL 12 yX9_init ∈ TB := by decide +kernel
set_option maxHeartbeats 4000000 in
theorem whole_start {p : Program} {e : Env} {s : State} {m : MethodId} {below : List Frame} {meth : Method} {c : Code} (l : Launch) {b L : Nat} {xs : Nat → Int32} (hL : L ≤ 3072) (C0 : lw_At p s m meth c b L xs) : W p l e room_1 s m #[Value.ref b] below meth c s.heap [] 0 0 (lw_Z below #[Value.ref b] s) (entryFrame m ([Value.ref b] : List Value).toArray 4) := by
  obtain ⟨hx, hb, hr, hml, hown, hts, hX, hbl, hlocks, hgv⟩ := id C0
  obtain ⟨G, cy, hK⟩ := kk_start hts
  have X : Cl p s m c b := ⟨hx, hb, hml, hown, fun w hw => hts w (TB_in hw)⟩
  have hl := lv_entry ([.ref b]) (n := 4) (Nat.le_of_ble_eq_true rfl)
  rw [lg_entry_eq]
  generalize (lg_sl ([.ref b]) ++ List.replicate (4 - (lg_sl ([.ref b])).length) Slot.unset).toArray = ls at hl ⊢
  have hl : lv_has ls 4 [(0, .ref b)] := hl
  have hW0 : W2 G cy s (fun x => x) (fun x => x) ES ES s.heap [] := ⟨fun k q h => by simp [pool, sL, ES] at h, fun k q h => by simp [pool, sL, ES] at h, ⟨fun i j p q h => by simp [pool, sL, ES] at h, fun k q h => by simp [pool, sL, ES] at h⟩, ⟨fun i j p q h => by simp [pool, sL, ES] at h, fun k q h => by simp [pool, sL, ES] at h⟩, fun a ha => absurd ha List.not_mem_nil, va_S.rf⟩
  have n8 : nF 8 = 18 := rfl
  have n9 : nF 9 = 53 := rfl
  refine law_new (o := 0) X hK hW0 dL_law_0 ln_L_7 rfl (by decide) (by decide) (fun ρ1 H1 hW1 => ?_)
  refine lv_dup hx hb dL_law_3 rfl ?_
  refine law_init (o := 0) (rest := [.ref (ρ1 0)]) X hK hW1 dL_law_4 lm_L_9 ml_9 c_X8_init (by show 0 ∈ ([] ++ [0] : List Nat); decide) (Nat.le_of_ble_eq_true rfl) (by decide) (by decide) (by decide) hl.1 (fun S2 ρ2 H2 locs2 q2 hρ2 hW2 => ?_)
  subst q2
  have e0 : ρ1 0 = ρ2 0 := ((hρ2 0 (by show 0 ∈ ([] ++ [0] : List Nat); decide)).1).symm
  refine lv_astore_n (lv' := [(1, .ref (ρ1 0)), (0, .ref b)]) hx hb dL_law_7 rfl hl (by decide) rfl (fun ls hl => ?_)
  refine law_new (o := 2000) X hK hW2.swap dL_law_8 ln_L_10 rfl (by decide) (by decide) (fun σ1 H3 hW3 => ?_)
  refine lv_dup hx hb dL_law_11 rfl ?_
  refine law_init (o := 2000) (rest := [.ref (σ1 2000)]) X hK hW3 dL_law_12 lm_L_12 ml_12 c_X9_init (by show 2000 ∈ ([] ++ [2000] : List Nat); decide) (Nat.le_of_ble_eq_true rfl) (by decide) (by decide) (by decide) hl.1 (fun T4 σ4 H4 locs4 q4 hσ4 hW4 => ?_)
  subst q4
  have e2 : σ1 2000 = σ4 2000 := ((hσ4 2000 (by show 2000 ∈ ([] ++ [2000] : List Nat); decide)).1).symm
  refine lv_astore_n (lv' := [(2, .ref (σ1 2000)), (1, .ref (ρ1 0)), (0, .ref b)]) hx hb dL_law_15 rfl hl (by decide) rfl (fun ls hl => ?_)
  refine lv_iconst (v := nI (6 * 0)) hx hb dL_law_16 (by decide) ?_
  refine lv_istore_n (lv' := [(3, .int (nI (6 * 0))), (2, .ref (σ1 2000)), (1, .ref (ρ1 0)), (0, .ref b)]) hx hb dL_law_17 rfl hl (by decide) rfl (fun ls hl => ?_)
  rw [e0, e2] at hl
  refine W.widen (k := 100 + 528 * 0) (n := 9000 + 5808 * 0) (by decide) (by decide) ?_
  exact law_loop X hr hlocks hK hX hbl hL 513 0 rfl oC11 (mM1 13) ρ2 σ4 H4 locs4 ls sim_start hW4.swap hl
