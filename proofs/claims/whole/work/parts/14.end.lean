theorem ln_vs.of {σ τ : ln_S} {rv bv : Nat} (h : ln_vs σ rv bv) (h1 : τ 1 = σ 1) : ln_vs τ rv bv := by unfold ln_vs; rw [h1]; exact h
theorem ln_eK_fill {N : ln_N} {σ τ : ln_S} {rv bv r : Nat} (hE : ln_eK N σ rv bv) (hr : r < 3) (hT : ln_eT N τ r) (h9 : τ 9 = upd (σ 9) r (nI (ln_ver rv bv r))) (ho : ∀ c, c ≠ 9 → c ≠ 37 + r → τ c = σ c) : ln_eK N τ rv bv := by
  intro q hq
  by_cases e : q = r
  · subst e
    exact ⟨_, by rw [h9, ln_upd_s], Nat.le_refl _, fun _ => hT⟩
  · obtain ⟨x, h1, h2, h3⟩ := hE q hq
    refine ⟨x, by rw [h9, ln_upd_n e]; exact h1, h2, fun h S hS => ?_⟩
    rw [ho _ (by omega) (by omega)]
    exact h3 h S hS
theorem ln_m1_lt {k : Nat} : (-1 : Int32) < 0 := by decide
theorem ln_or_bit (K r k : Nat) : (K ||| 2 ^ r).testBit k = (K.testBit k || decide (r = k)) := by rw [Nat.testBit_or, Nat.testBit_two_pow]
theorem ln_K11 {K r : Nat} (h : K < 2048) (hr : r < 11) : K ||| 2 ^ r < 2048 := Nat.or_lt_two_pow (n := 11) h (Nat.pow_lt_pow_right (a := 2) (by decide) hr)
theorem ln_MK.of {N : ln_N} {σ τ : ln_S} {E : Nat} (h : ln_MK N σ E) (h0 : τ 0 1 = σ 0 1) (ho : ∀ c, 6 ≤ c → c ≤ 12 → c ≠ 8 → τ c = σ c) : ln_MK N τ E := by
  obtain ⟨K, h1, h2, h3⟩ := h
  exact ⟨K, h0.trans h1, h2, fun k hk hb => (h3 k hk hb).of (fun c hc => ho c (by omega) (by omega) (by omega))⟩
set_option maxHeartbeats 4000000 in
set_option maxRecDepth 100000 in
theorem c_X4_versionOf (l : Launch) (D : va_G) (g : Nat → ClassId) (a : Nat → Nat) (σ : ln_S) (d : Nat) (rv bv : Nat) (hV : ln_vs σ rv bv) (r : Nat) (hr3 : r < 3) (hd : 0 ≤ d) : ln_R l D g (CW a g σ) yX4_versionOf (.code yX4_versionOf cX4_versionOf 2 (some .int)) d [.ref (a 1), .int (nI r)] (fun z => z = nI (ln_ver rv bv r)) := by
  refine ln_ofR (by decide +kernel) (Nat.le_of_ble_eq_true rfl) (fun prg env rum sta mid args below meth cod ls hr hlk X hP hl => ?_)
  have hl : lv_has ls 2 [(0, .ref (a 1)), (1, .int (nI r))] := hl
  generalize hQ0 : (MQ below (vp_Si (fun z => z = nI (ln_ver rv bv r))) args sta 0 0 (fun _ => False)) = Q0
  refine lv_iload_n X.1 X.2.1 dX4_versionOf_0 rfl (lv_at hl 1 rfl) ?_
  refine rn_ne0 X (by omega) (tgt := 16) dX4_versionOf_1 (by decide) (fun h1 => ?_) (fun h1 => ?_)
  · skip
    refine lv_aload_n X.1 X.2.1 dX4_versionOf_16 rfl (lv_at hl 0 rfl) ?_
    refine gC_1_1 X hP (v := nI rv) hV.1 mF_X4_9 dX4_versionOf_17 ?_
    subst hQ0
    exact ln_retR X hr hlk rfl (by unfold ln_ver; first | rw [if_neg h1] | rw [if_pos h1]) dX4_versionOf_20
  · skip
    refine lv_aload_n X.1 X.2.1 dX4_versionOf_4 rfl (lv_at hl 0 rfl) ?_
    refine gC_1_1 X hP (v := nI rv) hV.1 mF_X4_9 dX4_versionOf_5 ?_
    refine lv_aload_n X.1 X.2.1 dX4_versionOf_8 rfl (lv_at hl 0 rfl) ?_
    refine gC_1_2 X hP (v := nI bv) hV.2.1 mF_X4_40 dX4_versionOf_9 ?_
    refine rn_add X dX4_versionOf_12 ?_
    refine lv_goto (tgt := 20) X.1 X.2.1 dX4_versionOf_13 (by decide) ?_
    subst hQ0
    exact ln_retR X hr hlk rfl (by unfold ln_ver; first | rw [if_neg h1] | rw [if_pos h1]) dX4_versionOf_20
set_option maxHeartbeats 4000000 in
set_option maxRecDepth 100000 in
theorem c_X6_fillPlain (l : Launch) (D : va_G) (g : Nat → ClassId) (a : Nat → Nat) (σ : ln_S) (d : Nat) (N : ln_N) (hW : ln_wf N) (hN : ln_nC N σ) (rv bv : Nat) (hV : ln_vs σ rv bv) (r : Nat) (hr2 : r < 2) (hd : 3 ≤ d) : ln_V l D g (CW a g) yX6_fillPlain (.code yX6_fillPlain cX6_fillPlain 5 none) d [.ref (a 7), .int (nI r)] σ (fun τ => ln_eT N τ r ∧ τ 9 = upd (σ 9) r (nI (ln_ver rv bv r)) ∧ ∀ c, c ≠ 9 → c ≠ 37 + r → τ c = σ c) := by
  have hN12 := hW.n12
  have hp12 := hW.p12
  refine ln_ofV (by decide +kernel) (Nat.le_of_ble_eq_true rfl) (fun prg env rum sta mid args below meth cod ls A hr hlk X hA hP hDw hSw hl => ?_)
  have hl : lv_has ls 5 [(0, .ref (a 7)), (1, .int (nI r))] := hl
  generalize hQ0 : (MQ below (va_Qv (fun τ => ln_eT N τ r ∧ τ 9 = upd (σ 9) r (nI (ln_ver rv bv r)) ∧ ∀ c, c ≠ 9 → c ≠ 37 + r → τ c = σ c) (fun τ t => va_P D ln_cl (CW a g τ) t.heap) A) args sta 0 0 A) = Q0
  obtain ⟨H, hH⟩ : ∃ H, H = sta.heap := ⟨_, rfl⟩
  obtain ⟨locs, hlo⟩ : ∃ x : List Loc, x = [] := ⟨_, rfl⟩
  rw [← hH] at hP
  have hSw : va_S A sta.heap H locs := by rw [hH, hlo]; exact hSw
  have goal : W prg l env rum sta mid args below meth cod H locs 0 0 Q0 (F0 mid 0 ls []) := ?_
  · rw [hH, hlo] at goal; exact goal
  clear hlo
  refine lv_aload_n X.1 X.2.1 dX6_fillPlain_0 rfl (lv_at hl 0 rfl) ?_
  refine gC_7_1 X hP mF_X6_11 dX6_fillPlain_1 ?_
  refine lv_iload_n X.1 X.2.1 dX6_fillPlain_4 rfl (lv_at hl 1 rfl) ?_
  refine oC_8 X hP (by omega) dX6_fillPlain_5 ?_
  refine lv_astore_n (lv' := [(2, .ref (a (37 + r))), (0, .ref (a 7)), (1, .int (nI r))]) X.1 X.2.1 dX6_fillPlain_6 rfl hl (by decide) rfl (fun ls hl => ?_)
  refine lv_aload_n X.1 X.2.1 dX6_fillPlain_7 rfl (lv_at hl 1 rfl) ?_
  refine gC_7_0 X hP mF_X6_20 dX6_fillPlain_8 ?_
  refine ln_vR X (c_X4_allPosts l D g a σ 0 N hW hN (Nat.le_refl _)) hP 1 rfl rfl mM_X6_61 Y_X4_allPosts rfl (by omega) hl.1 rfl (Nat.le_of_ble_eq_true rfl) dX6_fillPlain_11 ⟨Nat.zero_le _, Nat.zero_le _⟩ (fun r11 hr11 => ?_)
  subst hr11
  refine rn_top (y := (nI (2 ^ N 0 0) - 1)) (ln_m1p _) ?_
  refine lv_istore_n (lv' := [(3, .int (nI (2 ^ N 0 0) - 1)), (2, .ref (a (37 + r))), (0, .ref (a 7)), (1, .int (nI r))]) X.1 X.2.1 dX6_fillPlain_14 rfl hl (by decide) rfl (fun ls hl => ?_)
  have L15 : ∀ (K : Nat) (k : Nat) (τ : ln_S) (H : Heap) (locs : List Loc), k < K → (k ≤ 2 ^ N 0 0) → (∀ S, k ≤ S → S < 2 ^ N 0 0 → τ (37 + r) S = nI (ln_end N r S)) → (∀ c, c ≠ 37 + r → τ c = σ c) → va_P D ln_cl (CW a g τ) H → va_D A (CW a g τ) → va_S A sta.heap H locs → ∀ ls : Array Slot, lv_has ls 5 [(0, .ref (a 7)), (1, .int (nI r)), (2, .ref (a (37 + r))), (3, .int (nI k - 1))] → W prg l env rum sta mid args below meth cod H locs 0 0 Q0 (F0 mid 15 ls []) := by
    intro K
    induction K with
    | zero => intro k τ H locs hm; exact absurd hm (Nat.not_lt_zero _)
    | succ K ih15 =>
      intro k τ H locs hm15 hk hT ho hP hDw hSw ls hl
      have hN : ln_nC N τ := hN.of (fun c hc => ho c (by omega))
      refine lv_iload_n X.1 X.2.1 dX6_fillPlain_15 rfl (lv_at hl 3 rfl) ?_
      rcases ln_m1_cases k with ⟨ek, e1⟩ | ⟨j, ek, e1⟩
      · refine rn_top (y := ((-1))) e1 ?_
        refine lv_if_lt (tgt := 50) X.1 X.2.1 dX6_fillPlain_16 (by decide) (fun h16 => ?_) (fun h16 => absurd (by decide) h16)
        have hV : ln_vs τ rv bv := hV.of (ho 1 (by omega))
        refine lv_aload_n X.1 X.2.1 dX6_fillPlain_50 rfl (lv_at hl 0 rfl) ?_
        refine gC_7_2 X hP mF_X6_16 dX6_fillPlain_51 ?_
        refine lv_iload_n X.1 X.2.1 dX6_fillPlain_54 rfl (lv_at hl 1 rfl) ?_
        refine lv_aload_n X.1 X.2.1 dX6_fillPlain_55 rfl (lv_at hl 0 rfl) ?_
        refine gC_7_0 X hP mF_X6_20 dX6_fillPlain_56 ?_
        refine lv_iload_n X.1 X.2.1 dX6_fillPlain_59 rfl (lv_at hl 1 rfl) ?_
        refine ln_vR X (c_X4_versionOf l D g a τ 0 rv bv hV r (by omega) (Nat.le_refl _)) hP 1 rfl rfl mM_X6_51 Y_X4_versionOf rfl (by omega) hl.1 rfl (Nat.le_of_ble_eq_true rfl) dX6_fillPlain_60 ⟨Nat.zero_le _, Nat.zero_le _⟩ (fun r60 hr60 => ?_)
        subst hr60
        refine sC_9 X hP hDw hSw (by omega) dX6_fillPlain_63 (fun H locs hP hDw hSw => ?_)
        obtain ⟨τ2, hτ2⟩ : ∃ z : ln_S, z = (ln_up τ 9 (upd (τ 9) r (nI (ln_ver rv bv r)))) := ⟨_, rfl⟩
        rw [← hτ2] at hP hDw
        subst hQ0
        exact ln_retV X hr hlk hP hSw (by subst ek; refine ⟨fun S h2 => ?_, ?_, fun c h1 h2 => ?_⟩; (· rw [hτ2, ln_up_n _ _ (by omega)]; exact hT S (Nat.zero_le _) h2); (· rw [hτ2, ln_up_s, ho 9 (by omega)]); (· rw [hτ2, ln_up_n _ _ h1]; exact ho c h2)) dX6_fillPlain_64
      · refine rn_top (y := nI j) e1 ?_
        subst ek
        rw [nI_pred] at hl
        refine rn_lt0 X (ln_31 (show j < 4096 by omega)) (tgt := 50) dX6_fillPlain_16 (by decide) ?_
        refine lv_aload_n X.1 X.2.1 dX6_fillPlain_19 rfl (lv_at hl 0 rfl) ?_
        refine lv_iload_n X.1 X.2.1 dX6_fillPlain_20 rfl (lv_at hl 1 rfl) ?_
        refine lv_iload_n X.1 X.2.1 dX6_fillPlain_21 rfl (lv_at hl 3 rfl) ?_
        refine ln_vR X (c_X6_afterTick l D g a τ 2 N hW hN r j (by omega) (show j < 4096 by omega) (Nat.le_refl _)) hP 7 rfl rfl mM_X6_65 Y_X6_afterTick rfl (by omega) hl.1 rfl (Nat.le_of_ble_eq_true rfl) dX6_fillPlain_22 ⟨Nat.zero_le _, Nat.zero_le _⟩ (fun r22 hr22 => ?_)
        subst hr22
        refine lv_istore (lv' := [(4, .int (nI (ln_tp N r j))), (0, .ref (a 7)), (1, .int (nI r)), (2, .ref (a (37 + r))), (3, .int (nI j))]) X.1 X.2.1 dX6_fillPlain_25 hl (by decide) rfl (fun ls hl => ?_)
        refine lv_aload_n X.1 X.2.1 dX6_fillPlain_27 rfl (lv_at hl 3 rfl) ?_
        refine lv_iload_n X.1 X.2.1 dX6_fillPlain_28 rfl (lv_at hl 4 rfl) ?_
        refine lv_iload X.1 X.2.1 dX6_fillPlain_29 (lv_at hl 0 rfl) ?_
        refine lv_iload_n X.1 X.2.1 dX6_fillPlain_31 rfl (lv_at hl 4 rfl) ?_
        refine rn_ne X (ln_31 (ln_n12 hW (ln_tp_lt hW r (show j < 2 ^ N 0 0 by omega)))) (ln_31 (show j < 4096 by omega)) (tgt := 39) dX6_fillPlain_32 (by decide) (fun h32 => ?_) (fun h32 => ?_)
        · skip
          refine lv_aload_n X.1 X.2.1 dX6_fillPlain_39 rfl (lv_at hl 3 rfl) ?_
          refine lv_iload X.1 X.2.1 dX6_fillPlain_40 (lv_at hl 0 rfl) ?_
          refine lC_r37 X hP (by omega) (ln_n12 hW (ln_tp_lt hW r (show j < 2 ^ N 0 0 by omega))) (v := nI (ln_end N r j)) (by rw [hT _ (ln_sb_lt (ln_sb_tp N r j) (Ne.symm h32)) (ln_tp_lt hW r (by omega)), ← ln_end_step hW (by omega) (by omega)]) dX6_fillPlain_42 ?_
          refine sC_r37 X hP hDw hSw (by omega) (by omega) dX6_fillPlain_43 (fun H locs hP hDw hSw => ?_)
          obtain ⟨τ1, hτ1⟩ : ∃ z : ln_S, z = (ln_up τ (37 + r) (upd (τ (37 + r)) j (nI (ln_end N r j)))) := ⟨_, rfl⟩
          rw [← hτ1] at hP hDw
          have hT1 : ∀ S, j ≤ S → S < 2 ^ N 0 0 → τ1 (37 + r) S = nI (ln_end N r S) := fun S h1 h2 => by rw [hτ1, ln_up_s]; by_cases e : S = j; (· subst e; exact ln_upd_s); (· rw [ln_upd_n e]; exact hT S (by omega) h2)
          have ho1 : ∀ c, c ≠ 37 + r → τ1 c = σ c := fun c h1 => by rw [hτ1, ln_up_n _ _ h1]; exact ho c h1
          refine lv_iinc (v := (nI j - 1)) (lv' := [(3, .int (nI j - 1)), (4, .int (nI (ln_tp N r j))), (0, .ref (a 7)), (1, .int (nI r)), (2, .ref (a (37 + r)))]) X.1 X.2.1 dX6_fillPlain_44 hl (k := 4) rfl rn_inn (by decide) rfl (fun ls hl => ?_)
          refine lv_goto (tgt := 15) X.1 X.2.1 dX6_fillPlain_47 (by decide) ?_
          exact ih15 j τ1 H locs (by omega) (by omega) hT1 ho1 hP hDw hSw ls (lv_sub hl [2, 3, 4, 0] rfl)
        · skip
          refine lv_iload_n X.1 X.2.1 dX6_fillPlain_35 rfl (lv_at hl 4 rfl) ?_
          refine rn_top (y := nI (ln_end N r j)) (by rw [ln_end_fix (by omega) h32]) ?_
          refine lv_goto (tgt := 43) X.1 X.2.1 dX6_fillPlain_36 (by decide) ?_
          refine sC_r37 X hP hDw hSw (by omega) (by omega) dX6_fillPlain_43 (fun H locs hP hDw hSw => ?_)
          obtain ⟨τ1, hτ1⟩ : ∃ z : ln_S, z = (ln_up τ (37 + r) (upd (τ (37 + r)) j (nI (ln_end N r j)))) := ⟨_, rfl⟩
          rw [← hτ1] at hP hDw
          have hT1 : ∀ S, j ≤ S → S < 2 ^ N 0 0 → τ1 (37 + r) S = nI (ln_end N r S) := fun S h1 h2 => by rw [hτ1, ln_up_s]; by_cases e : S = j; (· subst e; exact ln_upd_s); (· rw [ln_upd_n e]; exact hT S (by omega) h2)
          have ho1 : ∀ c, c ≠ 37 + r → τ1 c = σ c := fun c h1 => by rw [hτ1, ln_up_n _ _ h1]; exact ho c h1
          refine lv_iinc (v := (nI j - 1)) (lv' := [(3, .int (nI j - 1)), (4, .int (nI (ln_tp N r j))), (0, .ref (a 7)), (1, .int (nI r)), (2, .ref (a (37 + r)))]) X.1 X.2.1 dX6_fillPlain_44 hl (k := 4) rfl rn_inn (by decide) rfl (fun ls hl => ?_)
          refine lv_goto (tgt := 15) X.1 X.2.1 dX6_fillPlain_47 (by decide) ?_
          exact ih15 j τ1 H locs (by omega) (by omega) hT1 ho1 hP hDw hSw ls (lv_sub hl [2, 3, 4, 0] rfl)
  exact L15 _ (2 ^ N 0 0) σ H locs (Nat.lt_succ_self _) (Nat.le_refl _) (fun S h1 h2 => absurd h2 (by omega)) (fun c hc => rfl) hP hDw hSw ls (lv_sub hl [2, 3, 1, 0] rfl)
set_option maxHeartbeats 4000000 in
set_option maxRecDepth 100000 in
theorem c_X6_fillSeen (l : Launch) (D : va_G) (g : Nat → ClassId) (a : Nat → Nat) (σ : ln_S) (d : Nat) (N : ln_N) (hW : ln_wf N) (hN : ln_nC N σ) (rv bv : Nat) (hV : ln_vs σ rv bv) (hE1 : ln_eT N σ 1) (hd : 3 ≤ d) : ln_V l D g (CW a g) yX6_fillSeen (.code yX6_fillSeen cX6_fillSeen 3 none) d [.ref (a 7)] σ (fun τ => ln_eT N τ 2 ∧ τ 9 = upd (σ 9) 2 (nI (ln_ver rv bv 2)) ∧ ∀ c, c ≠ 9 → c ≠ 37 + 2 → τ c = σ c) := by
  have hN12 := hW.n12
  have hp12 := hW.p12
  have hs1 := ln_sub1 (N 0 0)
  refine ln_ofV (by decide +kernel) (Nat.le_of_ble_eq_true rfl) (fun prg env rum sta mid args below meth cod ls A hr hlk X hA hP hDw hSw hl => ?_)
  have hl : lv_has ls 3 [(0, .ref (a 7))] := hl
  generalize hQ0 : (MQ below (va_Qv (fun τ => ln_eT N τ 2 ∧ τ 9 = upd (σ 9) 2 (nI (ln_ver rv bv 2)) ∧ ∀ c, c ≠ 9 → c ≠ 37 + 2 → τ c = σ c) (fun τ t => va_P D ln_cl (CW a g τ) t.heap) A) args sta 0 0 A) = Q0
  obtain ⟨H, hH⟩ : ∃ H, H = sta.heap := ⟨_, rfl⟩
  obtain ⟨locs, hlo⟩ : ∃ x : List Loc, x = [] := ⟨_, rfl⟩
  rw [← hH] at hP
  have hSw : va_S A sta.heap H locs := by rw [hH, hlo]; exact hSw
  have goal : W prg l env rum sta mid args below meth cod H locs 0 0 Q0 (F0 mid 0 ls []) := ?_
  · rw [hH, hlo] at goal; exact goal
  clear hlo
  refine lv_aload_n X.1 X.2.1 dX6_fillSeen_0 rfl (lv_at hl 0 rfl) ?_
  refine gC_7_0 X hP mF_X6_20 dX6_fillSeen_1 ?_
  refine ln_vR X (c_X4_allPosts l D g a σ 0 N hW hN (Nat.le_refl _)) hP 1 rfl rfl mM_X6_61 Y_X4_allPosts rfl (by omega) hl.1 rfl (Nat.le_of_ble_eq_true rfl) dX6_fillSeen_4 ⟨Nat.zero_le _, Nat.zero_le _⟩ (fun r4 hr4 => ?_)
  subst hr4
  refine lv_istore_n (lv' := [(1, .int (nI (2 ^ N 0 0 - 1))), (0, .ref (a 7))]) X.1 X.2.1 dX6_fillSeen_7 rfl hl (by decide) rfl (fun ls hl => ?_)
  refine lv_iconst (v := nI 0) X.1 X.2.1 dX6_fillSeen_8 (by decide) ?_
  refine lv_istore_n (lv' := [(2, .int (nI 0)), (1, .int (nI (2 ^ N 0 0 - 1))), (0, .ref (a 7))]) X.1 X.2.1 dX6_fillSeen_9 rfl hl (by decide) rfl (fun ls hl => ?_)
  have L10 : ∀ (K : Nat) (k : Nat) (τ : ln_S) (H : Heap) (locs : List Loc), 2 ^ N 0 0 - k < K → (k ≤ 2 ^ N 0 0) → (∀ S, S < k → τ (37 + 2) S = nI (ln_end N 2 S)) → (∀ c, c ≠ 37 + 2 → τ c = σ c) → va_P D ln_cl (CW a g τ) H → va_D A (CW a g τ) → va_S A sta.heap H locs → ∀ ls : Array Slot, lv_has ls 3 [(0, .ref (a 7)), (1, .int (nI (2 ^ N 0 0 - 1))), (2, .int (nI k))] → W prg l env rum sta mid args below meth cod H locs 0 0 Q0 (F0 mid 10 ls []) := by
    intro K
    induction K with
    | zero => intro k τ H locs hm; exact absurd hm (Nat.not_lt_zero _)
    | succ K ih10 =>
      intro k τ H locs hm10 hk hT ho hP hDw hSw ls hl
      have hN : ln_nC N τ := hN.of (fun c hc => ho c (by omega))
      refine lv_iload_n X.1 X.2.1 dX6_fillSeen_10 rfl (lv_at hl 2 rfl) ?_
      refine lv_iload_n X.1 X.2.1 dX6_fillSeen_11 rfl (lv_at hl 1 rfl) ?_
      refine rn_gt X (by omega) (ln_31 (Nat.lt_of_lt_of_le (Nat.sub_lt (ln_pos2 _) (by decide)) hp12)) (tgt := 44) dX6_fillSeen_12 (by decide) (fun h12 => ?_) (fun h12 => ?_)
      · skip
        have hV : ln_vs τ rv bv := hV.of (ho 1 (by omega))
        refine lv_aload_n X.1 X.2.1 dX6_fillSeen_44 rfl (lv_at hl 0 rfl) ?_
        refine gC_7_2 X hP mF_X6_16 dX6_fillSeen_45 ?_
        refine lv_iconst (v := nI 2) X.1 X.2.1 dX6_fillSeen_48 (by decide) ?_
        refine lv_aload_n X.1 X.2.1 dX6_fillSeen_49 rfl (lv_at hl 0 rfl) ?_
        refine gC_7_0 X hP mF_X6_20 dX6_fillSeen_50 ?_
        refine lv_iconst (v := nI 2) X.1 X.2.1 dX6_fillSeen_53 (by decide) ?_
        refine ln_vR X (c_X4_versionOf l D g a τ 0 rv bv hV 2 (by omega) (Nat.le_refl _)) hP 1 rfl rfl mM_X6_51 Y_X4_versionOf rfl (by omega) hl.1 rfl (Nat.le_of_ble_eq_true rfl) dX6_fillSeen_54 ⟨Nat.zero_le _, Nat.zero_le _⟩ (fun r54 hr54 => ?_)
        subst hr54
        refine sC_9 X hP hDw hSw (by omega) dX6_fillSeen_57 (fun H locs hP hDw hSw => ?_)
        obtain ⟨τ2, hτ2⟩ : ∃ z : ln_S, z = (ln_up τ 9 (upd (τ 9) 2 (nI (ln_ver rv bv 2)))) := ⟨_, rfl⟩
        rw [← hτ2] at hP hDw
        subst hQ0
        exact ln_retV X hr hlk hP hSw (by refine ⟨fun S h2 => ?_, ?_, fun c h1 h2 => ?_⟩; (· rw [hτ2, ln_up_n _ _ (by omega)]; exact hT S (by omega)); (· rw [hτ2, ln_up_s, ho 9 (by omega)]); (· rw [hτ2, ln_up_n _ _ h1]; exact ho c h2)) dX6_fillSeen_58
      · skip
        refine lv_aload_n X.1 X.2.1 dX6_fillSeen_15 rfl (lv_at hl 0 rfl) ?_
        refine gC_7_1 X hP mF_X6_11 dX6_fillSeen_16 ?_
        refine lv_iconst (v := nI 2) X.1 X.2.1 dX6_fillSeen_19 (by decide) ?_
        refine oC_8 X hP (by omega) dX6_fillSeen_20 ?_
        refine lv_iload_n X.1 X.2.1 dX6_fillSeen_21 rfl (lv_at hl 2 rfl) ?_
        refine lv_aload_n X.1 X.2.1 dX6_fillSeen_22 rfl (lv_at hl 0 rfl) ?_
        refine gC_7_1 X hP mF_X6_11 dX6_fillSeen_23 ?_
        refine lv_iconst (v := nI 1) X.1 X.2.1 dX6_fillSeen_26 (by decide) ?_
        refine oC_8 X hP (by omega) dX6_fillSeen_27 ?_
        refine lv_aload_n X.1 X.2.1 dX6_fillSeen_28 rfl (lv_at hl 0 rfl) ?_
        refine gC_7_0 X hP mF_X6_20 dX6_fillSeen_29 ?_
        refine lv_iload_n X.1 X.2.1 dX6_fillSeen_32 rfl (lv_at hl 2 rfl) ?_
        refine ln_vR X (c_X4_withBehind l D g a τ 1 N hW hN k (show k < 4096 by omega) (Nat.le_refl _)) hP 1 rfl rfl mM_X6_68 Y_X4_withBehind rfl (by omega) hl.1 rfl (Nat.le_of_ble_eq_true rfl) dX6_fillSeen_33 ⟨Nat.zero_le _, Nat.zero_le _⟩ (fun r33 hr33 => ?_)
        subst hr33
        refine lC_r37 X hP (by omega) (ln_wb12 hW (show k < 4096 by omega)) (v := nI (ln_end N 2 k)) (by rw [ho (37 + 1) (by decide), hE1 _ (ln_wb_lt hW (show k < 2 ^ N 0 0 by omega)), ← ln_end_seen hW (by omega)]) dX6_fillSeen_36 ?_
        refine sC_r37 X hP hDw hSw (by omega) (by omega) dX6_fillSeen_37 (fun H locs hP hDw hSw => ?_)
        obtain ⟨τ1, hτ1⟩ : ∃ z : ln_S, z = (ln_up τ (37 + 2) (upd (τ (37 + 2)) k (nI (ln_end N 2 k)))) := ⟨_, rfl⟩
        rw [← hτ1] at hP hDw
        have hT1 : ∀ S, S < k + 1 → τ1 (37 + 2) S = nI (ln_end N 2 S) := fun S h1 => by rw [hτ1, ln_up_s]; by_cases e : S = k; (· subst e; exact ln_upd_s); (· rw [ln_upd_n e]; exact hT S (by omega))
        have ho1 : ∀ c, c ≠ 37 + 2 → τ1 c = σ c := fun c h1 => by rw [hτ1, ln_up_n _ _ h1]; exact ho c h1
        refine lv_iinc (v := nI (k + 1)) (lv' := [(2, .int (nI (k + 1))), (0, .ref (a 7)), (1, .int (nI (2 ^ N 0 0 - 1)))]) X.1 X.2.1 dX6_fillSeen_38 hl (k := 2) rfl rn_inc (by decide) rfl (fun ls hl => ?_)
        refine lv_goto (tgt := 10) X.1 X.2.1 dX6_fillSeen_41 (by decide) ?_
        exact ih10 (k + 1) τ1 H locs (by omega) (by omega) hT1 ho1 hP hDw hSw ls (lv_sub hl [1, 2, 0] rfl)
  exact L10 _ 0 σ H locs (Nat.lt_succ_self _) (Nat.zero_le _) (fun S h1 => absurd h1 (Nat.not_lt_zero S)) (fun c hc => rfl) hP hDw hSw ls (lv_sub hl [2, 1, 0] rfl)
set_option maxHeartbeats 4000000 in
set_option maxRecDepth 100000 in
theorem c_X6_endsOf (l : Launch) (D : va_G) (g : Nat → ClassId) (a : Nat → Nat) (σ : ln_S) (d : Nat) (N : ln_N) (hW : ln_wf N) (hN : ln_nC N σ) (rv bv : Nat) (hV : ln_vs σ rv bv) (hE : ln_eK N σ rv bv) (r : Nat) (hr3 : r < 3) (hd : 4 ≤ d) : ln_F l D g (CW a g) yX6_endsOf (.code yX6_endsOf cX6_endsOf 2 (some (.array .int))) d [.ref (a 7), .int (nI r)] σ (a (37 + r)) (fun τ => ln_eT N τ r ∧ ln_eK N τ rv bv ∧ ∀ c, c ≠ 9 → c ≠ 37 → c ≠ 38 → c ≠ 39 → τ c = σ c) := by
  have hN12 := hW.n12
  have hp12 := hW.p12
  obtain ⟨e0, he0, hle, himp⟩ := hE r hr3
  have hvl := ln_ver_lt hV r
  refine ln_ofF (by decide +kernel) (Nat.le_of_ble_eq_true rfl) (fun prg env rum sta mid args below meth cod ls A hr hlk X hA hP hDw hSw hl => ?_)
  have hl : lv_has ls 2 [(0, .ref (a 7)), (1, .int (nI r))] := hl
  generalize hQ0 : (MQ below (va_Qr (fun τ => ln_eT N τ r ∧ ln_eK N τ rv bv ∧ ∀ c, c ≠ 9 → c ≠ 37 → c ≠ 38 → c ≠ 39 → τ c = σ c) (fun τ a1 t => a1 = a (37 + r) ∧ va_P D ln_cl (CW a g τ) t.heap) A) args sta 0 0 A) = Q0
  obtain ⟨H, hH⟩ : ∃ H, H = sta.heap := ⟨_, rfl⟩
  obtain ⟨locs, hlo⟩ : ∃ x : List Loc, x = [] := ⟨_, rfl⟩
  rw [← hH] at hP
  have hSw : va_S A sta.heap H locs := by rw [hH, hlo]; exact hSw
  have goal : W prg l env rum sta mid args below meth cod H locs 0 0 Q0 (F0 mid 0 ls []) := ?_
  · rw [hH, hlo] at goal; exact goal
  clear hlo
  refine lv_aload_n X.1 X.2.1 dX6_endsOf_0 rfl (lv_at hl 0 rfl) ?_
  refine gC_7_2 X hP mF_X6_16 dX6_endsOf_1 ?_
  refine lv_iload_n X.1 X.2.1 dX6_endsOf_4 rfl (lv_at hl 1 rfl) ?_
  refine lC_9 X hP (by omega) (v := nI e0) he0 dX6_endsOf_5 ?_
  refine lv_aload_n X.1 X.2.1 dX6_endsOf_6 rfl (lv_at hl 0 rfl) ?_
  refine gC_7_0 X hP mF_X6_20 dX6_endsOf_7 ?_
  refine lv_iload_n X.1 X.2.1 dX6_endsOf_10 rfl (lv_at hl 1 rfl) ?_
  refine ln_vR X (c_X4_versionOf l D g a σ 0 rv bv hV r (by omega) (Nat.le_refl _)) hP 1 rfl rfl mM_X6_51 Y_X4_versionOf rfl (by omega) hl.1 rfl (Nat.le_of_ble_eq_true rfl) dX6_endsOf_11 ⟨Nat.zero_le _, Nat.zero_le _⟩ (fun r11 hr11 => ?_)
  subst hr11
  refine rn_eq X (by omega) (by omega) (tgt := 39) dX6_endsOf_14 (by decide) (fun h14 => ?_) (fun h14 => ?_)
  · skip
    refine lv_aload_n X.1 X.2.1 dX6_endsOf_39 rfl (lv_at hl 0 rfl) ?_
    refine gC_7_1 X hP mF_X6_11 dX6_endsOf_40 ?_
    refine lv_iload_n X.1 X.2.1 dX6_endsOf_43 rfl (lv_at hl 1 rfl) ?_
    refine oC_8 X hP (by omega) dX6_endsOf_44 ?_
    subst hQ0
    exact ln_retF X hr hlk hP hSw (by first | exact ⟨himp h14, hE, fun c _ _ _ _ => rfl⟩ | exact ⟨q1, ln_eK_fill hE (by omega) q1 q2 q3, fun c h1 h2 h3 h4 => q3 c h1 (by omega)⟩ | (subst h19; exact ⟨p1, ln_eK_fill (ln_eK_fill hE (by decide) q1 q2 q3) (by decide) p1 p2 p3, fun c h1 h2 h3 h4 => (p3 c h1 h4).trans (q3 c h1 h3)⟩)) dX6_endsOf_45
  · skip
    refine lv_iload_n X.1 X.2.1 dX6_endsOf_17 rfl (lv_at hl 1 rfl) ?_
    refine lv_iconst (v := nI 2) X.1 X.2.1 dX6_endsOf_18 (by decide) ?_
    refine rn_ne X (by omega) (by decide) (tgt := 34) dX6_endsOf_19 (by decide) (fun h19 => ?_) (fun h19 => ?_)
    · skip
      refine lv_aload_n X.1 X.2.1 dX6_endsOf_34 rfl (lv_at hl 0 rfl) ?_
      refine lv_iload_n X.1 X.2.1 dX6_endsOf_35 rfl (lv_at hl 1 rfl) ?_
      refine ln_vV X (CW_ad a g) hA (c_X6_fillPlain l D g a σ 3 N hW hN rv bv hV r (by omega) (Nat.le_refl _)) hP hDw hSw 7 rfl rfl mM_X6_54 Y_X6_fillPlain rfl (by omega) hl.1 rfl (Nat.le_of_ble_eq_true rfl) dX6_endsOf_36 ⟨Nat.zero_le _, Nat.zero_le _⟩ (fun τ36 H locs hr36 hP hDw hSw => ?_)
      obtain ⟨q1, q2, q3⟩ := hr36
      refine lv_aload_n X.1 X.2.1 dX6_endsOf_39 rfl (lv_at hl 0 rfl) ?_
      refine gC_7_1 X hP mF_X6_11 dX6_endsOf_40 ?_
      refine lv_iload_n X.1 X.2.1 dX6_endsOf_43 rfl (lv_at hl 1 rfl) ?_
      refine oC_8 X hP (by omega) dX6_endsOf_44 ?_
      subst hQ0
      exact ln_retF X hr hlk hP hSw (by first | exact ⟨himp h14, hE, fun c _ _ _ _ => rfl⟩ | exact ⟨q1, ln_eK_fill hE (by omega) q1 q2 q3, fun c h1 h2 h3 h4 => q3 c h1 (by omega)⟩ | (subst h19; exact ⟨p1, ln_eK_fill (ln_eK_fill hE (by decide) q1 q2 q3) (by decide) p1 p2 p3, fun c h1 h2 h3 h4 => (p3 c h1 h4).trans (q3 c h1 h3)⟩)) dX6_endsOf_45
    · skip
      refine lv_aload_n X.1 X.2.1 dX6_endsOf_22 rfl (lv_at hl 0 rfl) ?_
      refine lv_iconst (v := nI 1) X.1 X.2.1 dX6_endsOf_23 (by decide) ?_
      refine ln_vV X (CW_ad a g) hA (c_X6_fillPlain l D g a σ 3 N hW hN rv bv hV 1 (by omega) (Nat.le_refl _)) hP hDw hSw 7 rfl rfl mM_X6_54 Y_X6_fillPlain rfl (by omega) hl.1 rfl (Nat.le_of_ble_eq_true rfl) dX6_endsOf_24 ⟨Nat.zero_le _, Nat.zero_le _⟩ (fun τ24 H locs hr24 hP hDw hSw => ?_)
      obtain ⟨q1, q2, q3⟩ := hr24
      have hN1 : ln_nC N τ24 := hN.of (fun c hc => q3 c (by omega) (by omega))
      have hV1 : ln_vs τ24 rv bv := hV.of (q3 1 (by omega) (by omega))
      refine lv_aload_n X.1 X.2.1 dX6_endsOf_27 rfl (lv_at hl 0 rfl) ?_
      refine ln_vV X (CW_ad a g) hA (c_X6_fillSeen l D g a τ24 3 N hW hN1 rv bv hV1 q1 (Nat.le_refl _)) hP hDw hSw 7 rfl rfl mM_X6_58 Y_X6_fillSeen rfl (by omega) hl.1 rfl (Nat.le_of_ble_eq_true rfl) dX6_endsOf_28 ⟨Nat.zero_le _, Nat.zero_le _⟩ (fun τ28 H locs hr28 hP hDw hSw => ?_)
      obtain ⟨p1, p2, p3⟩ := hr28
      refine lv_goto (tgt := 39) X.1 X.2.1 dX6_endsOf_31 (by decide) ?_
      refine lv_aload_n X.1 X.2.1 dX6_endsOf_39 rfl (lv_at hl 0 rfl) ?_
      refine gC_7_1 X hP mF_X6_11 dX6_endsOf_40 ?_
      refine lv_iload_n X.1 X.2.1 dX6_endsOf_43 rfl (lv_at hl 1 rfl) ?_
      refine oC_8 X hP (by omega) dX6_endsOf_44 ?_
      subst hQ0
      exact ln_retF X hr hlk hP hSw (by first | exact ⟨himp h14, hE, fun c _ _ _ _ => rfl⟩ | exact ⟨q1, ln_eK_fill hE (by omega) q1 q2 q3, fun c h1 h2 h3 h4 => q3 c h1 (by omega)⟩ | (subst h19; exact ⟨p1, ln_eK_fill (ln_eK_fill hE (by decide) q1 q2 q3) (by decide) p1 p2 p3, fun c h1 h2 h3 h4 => (p3 c h1 h4).trans (q3 c h1 h3)⟩)) dX6_endsOf_45
set_option maxHeartbeats 4000000 in
set_option maxRecDepth 100000 in
theorem c_X10_isKnown (l : Launch) (D : va_G) (g : Nat → ClassId) (a : Nat → Nat) (σ : ln_S) (d : Nat) (K k : Nat) (h0 : σ 0 1 = nI K) (hK : K < 2048) (hk : k < 11) (hd : 0 ≤ d) : ln_U l D g (MW a g) yX10_isKnown (.code yX10_isKnown cX10_isKnown 3 (some .boolean)) d [.ref (a 0), .int (nI k)] σ (fun z τ => z = ln_b (K.testBit k) ∧ τ = ln_up σ 0 (upd (σ 0) 1 (nI (K ||| 2 ^ k)))) := by
  refine ln_ofU (by decide +kernel) (Nat.le_of_ble_eq_true rfl) (fun prg env rum sta mid args below meth cod ls A hr hlk X hA hP hDw hSw hl => ?_)
  have hl : lv_has ls 3 [(0, .ref (a 0)), (1, .int (nI k))] := hl
  generalize hQ0 : (MQ below (va_Qi (fun z τ => z = ln_b (K.testBit k) ∧ τ = ln_up σ 0 (upd (σ 0) 1 (nI (K ||| 2 ^ k)))) (fun τ t => va_P D ln_cl (MW a g τ) t.heap) A) args sta 0 0 A) = Q0
  obtain ⟨H, hH⟩ : ∃ H, H = sta.heap := ⟨_, rfl⟩
  obtain ⟨locs, hlo⟩ : ∃ x : List Loc, x = [] := ⟨_, rfl⟩
  rw [← hH] at hP
  have hSw : va_S A sta.heap H locs := by rw [hH, hlo]; exact hSw
  have goal : W prg l env rum sta mid args below meth cod H locs 0 0 Q0 (F0 mid 0 ls []) := ?_
  · rw [hH, hlo] at goal; exact goal
  clear hlo
  refine lv_aload_n X.1 X.2.1 dX10_isKnown_0 rfl (lv_at hl 0 rfl) ?_
  refine gM_0_5 X hP (v := nI K) h0 mF_X10_56 dX10_isKnown_1 ?_
  refine lv_iload_n X.1 X.2.1 dX10_isKnown_4 rfl (lv_at hl 1 rfl) ?_
  refine rn_shr X (by omega) (by omega) dX10_isKnown_5 ?_
  refine lv_iconst (v := nI 1) X.1 X.2.1 dX10_isKnown_6 (by decide) ?_
  refine rn_and X dX10_isKnown_7 ?_
  refine rn_top (y := nI ((if K.testBit k then 1 else 0))) (by rw [ln_shr_and]) ?_
  refine lv_iconst (v := nI 1) X.1 X.2.1 dX10_isKnown_8 (by decide) ?_
  refine rn_ne X (by split <;> decide) (by decide) (tgt := 16) dX10_isKnown_9 (by decide) (fun h9 => ?_) (fun h9 => ?_)
  · skip
    have h9b : K.testBit k = false := by cases hq : K.testBit k with | false => rfl | true => rw [hq] at h9; exact absurd rfl h9
    refine lv_iconst (v := nI 0) X.1 X.2.1 dX10_isKnown_16 (by decide) ?_
    refine lv_istore_n (lv' := [(2, .int (nI 0)), (0, .ref (a 0)), (1, .int (nI k))]) X.1 X.2.1 dX10_isKnown_17 rfl hl (by decide) rfl (fun ls hl => ?_)
    refine lv_aload_n X.1 X.2.1 dX10_isKnown_18 rfl (lv_at hl 1 rfl) ?_
    refine lv_dup X.1 X.2.1 dX10_isKnown_19 rfl ?_
    refine gM_0_5 X hP (v := nI K) h0 mF_X10_56 dX10_isKnown_20 ?_
    refine lv_iconst (v := nI 1) X.1 X.2.1 dX10_isKnown_23 (by decide) ?_
    refine lv_iload_n X.1 X.2.1 dX10_isKnown_24 rfl (lv_at hl 2 rfl) ?_
    refine rn_shl X (by omega) dX10_isKnown_25 ?_
    refine rn_or X dX10_isKnown_26 ?_
    refine pM_0_5 X hP hDw hSw mF_X10_56 dX10_isKnown_27 (fun H locs hP hDw hSw => ?_)
    refine lv_iload_n X.1 X.2.1 dX10_isKnown_30 rfl (lv_at hl 0 rfl) ?_
    subst hQ0
    exact ln_retU X hr hlk hP hSw rfl ⟨by rw [h9b]; rfl, rfl⟩ dX10_isKnown_31
  · skip
    have h9b : K.testBit k = true := by cases hq : K.testBit k with | true => rfl | false => rw [hq] at h9; exact absurd h9 (by decide)
    refine lv_iconst (v := nI 1) X.1 X.2.1 dX10_isKnown_12 (by decide) ?_
    refine lv_goto (tgt := 17) X.1 X.2.1 dX10_isKnown_13 (by decide) ?_
    refine lv_istore_n (lv' := [(2, .int (nI 1)), (0, .ref (a 0)), (1, .int (nI k))]) X.1 X.2.1 dX10_isKnown_17 rfl hl (by decide) rfl (fun ls hl => ?_)
    refine lv_aload_n X.1 X.2.1 dX10_isKnown_18 rfl (lv_at hl 1 rfl) ?_
    refine lv_dup X.1 X.2.1 dX10_isKnown_19 rfl ?_
    refine gM_0_5 X hP (v := nI K) h0 mF_X10_56 dX10_isKnown_20 ?_
    refine lv_iconst (v := nI 1) X.1 X.2.1 dX10_isKnown_23 (by decide) ?_
    refine lv_iload_n X.1 X.2.1 dX10_isKnown_24 rfl (lv_at hl 2 rfl) ?_
    refine rn_shl X (by omega) dX10_isKnown_25 ?_
    refine rn_or X dX10_isKnown_26 ?_
    refine pM_0_5 X hP hDw hSw mF_X10_56 dX10_isKnown_27 (fun H locs hP hDw hSw => ?_)
    refine lv_iload_n X.1 X.2.1 dX10_isKnown_30 rfl (lv_at hl 0 rfl) ?_
    subst hQ0
    exact ln_retU X hr hlk hP hSw rfl ⟨by rw [h9b]; rfl, rfl⟩ dX10_isKnown_31
set_option maxHeartbeats 4000000 in
set_option maxRecDepth 100000 in
theorem c_X10_runs (l : Launch) (D : va_G) (g : Nat → ClassId) (a : Nat → Nat) (σ : ln_S) (d : Nat) (N : ln_N) (hW : ln_wf N) (hN : ln_nM N σ) (r S : Nat) (hr3 : r < 3) (hS : S < 2 ^ N 0 0) (hd : 3 ≤ d) : ln_U l D g (MW a g) yX10_runs (.code yX10_runs cX10_runs 6 (some .int)) d [.ref (a 0), .int (nI r), .int (nI S)] σ (fun z τ => z = nI (ln_end N r S) ∧ ln_ran N r S (τ 5) (τ 0 2) ∧ (∀ c, c ≠ 0 → c ≠ 5 → τ c = σ c) ∧ ∀ j, j ≠ 2 → τ 0 j = σ 0 j) := by
  have hN12 := hW.n12
  have hp12 := hW.p12
  refine ln_ofU (by decide +kernel) (Nat.le_of_ble_eq_true rfl) (fun prg env rum sta mid args below meth cod ls A hr hlk X hA hP hDw hSw hl => ?_)
  have hl : lv_has ls 6 [(0, .ref (a 0)), (1, .int (nI r)), (2, .int (nI S))] := hl
  generalize hQ0 : (MQ below (va_Qi (fun z τ => z = nI (ln_end N r S) ∧ ln_ran N r S (τ 5) (τ 0 2) ∧ (∀ c, c ≠ 0 → c ≠ 5 → τ c = σ c) ∧ ∀ j, j ≠ 2 → τ 0 j = σ 0 j) (fun τ t => va_P D ln_cl (MW a g τ) t.heap) A) args sta 0 0 A) = Q0
  obtain ⟨H, hH⟩ : ∃ H, H = sta.heap := ⟨_, rfl⟩
  obtain ⟨locs, hlo⟩ : ∃ x : List Loc, x = [] := ⟨_, rfl⟩
  rw [← hH] at hP
  have hSw : va_S A sta.heap H locs := by rw [hH, hlo]; exact hSw
  have goal : W prg l env rum sta mid args below meth cod H locs 0 0 Q0 (F0 mid 0 ls []) := ?_
  · rw [hH, hlo] at goal; exact goal
  clear hlo
  refine lv_aload_n X.1 X.2.1 dX10_runs_0 rfl (lv_at hl 0 rfl) ?_
  refine gM_0_6 X hP mF_X10_22 dX10_runs_1 ?_
  refine lv_iconst (v := nI 0) X.1 X.2.1 dX10_runs_4 (by decide) ?_
  refine lv_iload_n X.1 X.2.1 dX10_runs_5 rfl (lv_at hl 2 rfl) ?_
  refine sM_5 X hP hDw hSw (by decide) dX10_runs_6 (fun H locs hP hDw hSw => ?_)
  obtain ⟨σ1, hσ1⟩ : ∃ z : ln_S, z = (ln_up σ 5 (upd (σ 5) 0 (nI S))) := ⟨_, rfl⟩
  rw [← hσ1] at hP hDw
  refine lv_aload_n X.1 X.2.1 dX10_runs_7 rfl (lv_at hl 0 rfl) ?_
  refine lv_iconst (v := nI 0) X.1 X.2.1 dX10_runs_8 (by decide) ?_
  refine pM_0_7 X hP hDw hSw mF_X10_77 dX10_runs_9 (fun H locs hP hDw hSw => ?_)
  obtain ⟨σ2, hσ2⟩ : ∃ z : ln_S, z = (ln_up σ1 0 (upd (σ1 0) 2 (nI 0))) := ⟨_, rfl⟩
  rw [← hσ2] at hP hDw
  refine lv_iconst (v := nI 0) X.1 X.2.1 dX10_runs_12 (by decide) ?_
  refine lv_istore_n (lv' := [(3, .int (nI 0)), (0, .ref (a 0)), (1, .int (nI r)), (2, .int (nI S))]) X.1 X.2.1 dX10_runs_13 rfl hl (by decide) rfl (fun ls hl => ?_)
  refine lv_iconst (v := ln_b true) X.1 X.2.1 dX10_runs_14 (by decide) ?_
  refine lv_istore (lv' := [(4, .int (ln_b true)), (3, .int (nI 0)), (0, .ref (a 0)), (1, .int (nI r)), (2, .int (nI S))]) X.1 X.2.1 dX10_runs_15 hl (by decide) rfl (fun ls hl => ?_)
  have L17 : ∀ (K : Nat) (t : Nat) (b : Bool) (τ : ln_S) (H : Heap) (locs : List Loc), 13 - t + (if b then 1 else 0) < K → (t ≤ 13) → (∀ j, j ≤ t → τ 5 j = nI (ln_st N r S j)) → (τ 0 2 = nI (ln_lc (ln_st N r S) t)) → (b = true → t ≤ 12) → (b = false → ln_lc (ln_st N r S) t = ln_et N r S ∧ ln_st N r S t = ln_end N r S) → (∀ c, c ≠ 0 → c ≠ 5 → τ c = σ c) → (∀ j, j ≠ 2 → τ 0 j = σ 0 j) → va_P D ln_cl (MW a g τ) H → va_D A (MW a g τ) → va_S A sta.heap H locs → ∀ ls : Array Slot, lv_has ls 6 [(0, .ref (a 0)), (1, .int (nI r)), (3, .int (nI t)), (4, .int (ln_b b))] → W prg l env rum sta mid args below meth cod H locs 0 0 Q0 (F0 mid 17 ls []) := by
    intro K
    induction K with
    | zero => intro t b τ H locs hm; exact absurd hm (Nat.not_lt_zero _)
    | succ K ih17 =>
      intro t b τ H locs hm17 ht hj he hb1 hb2 ho ho2 hP hDw hSw ls hl
      have hN : ln_nM N τ := hN.of (ho2 0 (by decide)) (fun c h1 h2 => ho c (by omega) (by omega))
      refine lv_iload X.1 X.2.1 dX10_runs_17 (lv_at hl 3 rfl) ?_
      refine rn_eqB X (tgt := 104) dX10_runs_19 (by decide) (fun h19 => ?_) (fun h19 => ?_)
      · skip
        refine lv_aload_n X.1 X.2.1 dX10_runs_104 rfl (lv_at hl 0 rfl) ?_
        refine gM_0_6 X hP mF_X10_22 dX10_runs_105 ?_
        refine lv_iload_n X.1 X.2.1 dX10_runs_108 rfl (lv_at hl 2 rfl) ?_
        refine lM_5 X hP (by omega) (v := nI (ln_end N r S)) (by rw [hj t (Nat.le_refl t), (hb2 h19).2]) dX10_runs_109 ?_
        subst hQ0
        exact ln_retU X hr hlk hP hSw rfl ⟨rfl, ⟨by rw [he, (hb2 h19).1], fun j hq => hj j (by have := ln_lc_le (ln_st N r S) t; rw [← (hb2 h19).1] at hq; omega)⟩, ho, ho2⟩ dX10_runs_110
      · skip
        have ht12 : t ≤ 12 := hb1 h19
        refine lv_iinc (v := nI (t + 1)) (lv' := [(3, .int (nI (t + 1))), (0, .ref (a 0)), (1, .int (nI r)), (4, .int (ln_b b))]) X.1 X.2.1 dX10_runs_22 hl (k := 2) rfl rn_inc (by decide) rfl (fun ls hl => ?_)
        refine lv_aload_n X.1 X.2.1 dX10_runs_25 rfl (lv_at hl 1 rfl) ?_
        refine gM_0_6 X hP mF_X10_22 dX10_runs_26 ?_
        refine lv_iload_n X.1 X.2.1 dX10_runs_29 rfl (lv_at hl 0 rfl) ?_
        refine lv_aload_n X.1 X.2.1 dX10_runs_30 rfl (lv_at hl 1 rfl) ?_
        refine lv_iload_n X.1 X.2.1 dX10_runs_31 rfl (lv_at hl 2 rfl) ?_
        refine lv_aload_n X.1 X.2.1 dX10_runs_32 rfl (lv_at hl 1 rfl) ?_
        refine gM_0_6 X hP mF_X10_22 dX10_runs_33 ?_
        refine lv_iload_n X.1 X.2.1 dX10_runs_36 rfl (lv_at hl 0 rfl) ?_
        refine lv_iconst (v := nI 1) X.1 X.2.1 dX10_runs_37 (by decide) ?_
        refine rn_sub X (by omega) dX10_runs_38 ?_
        refine rn_top (y := nI t) rfl ?_
        refine lM_5 X hP (by omega) (v := nI (ln_st N r S t)) (hj t (Nat.le_refl t)) dX10_runs_39 ?_
        refine lv_iload_n X.1 X.2.1 dX10_runs_40 rfl (lv_at hl 0 rfl) ?_
        refine ln_vR X (c_X10_tick l D g a τ 2 N hW hN r (ln_st N r S t) (t + 1) (by omega) (ln_st12 hW r hS t) (by omega) (Nat.le_refl _)) hP 0 rfl rfl mM_X10_80 Y_X10_tick rfl (by omega) hl.1 rfl (Nat.le_of_ble_eq_true rfl) dX10_runs_41 ⟨Nat.zero_le _, Nat.zero_le _⟩ (fun r41 hr41 => ?_)
        subst hr41
        refine rn_top (y := nI (ln_st N r S (t + 1))) rfl ?_
        refine sM_5 X hP hDw hSw (by omega) dX10_runs_44 (fun H locs hP hDw hSw => ?_)
        obtain ⟨τ1, hτ1⟩ : ∃ z : ln_S, z = (ln_up τ 5 (upd (τ 5) (t + 1) (nI (ln_st N r S (t + 1))))) := ⟨_, rfl⟩
        rw [← hτ1] at hP hDw
        have hj1 : ∀ j, j ≤ t + 1 → τ1 5 j = nI (ln_st N r S j) := fun j hj2 => by rw [hτ1, ln_up_s]; by_cases e : j = t + 1; (· subst e; exact ln_upd_s); (· rw [ln_upd_n e]; exact hj j (by omega))
        have he1 : τ1 0 2 = nI (ln_lc (ln_st N r S) t) := by rw [hτ1, ln_up_n _ _ (by decide)]; exact he
        have hq1 : ∀ c, c ≠ 0 → c ≠ 5 → τ1 c = σ c := fun c h1 h2 => by rw [hτ1, ln_up_n _ _ h2]; exact ho c h1 h2
        have hu1 : ∀ j, j ≠ 2 → τ1 0 j = σ 0 j := fun j h1 => by rw [hτ1, ln_up_n _ _ (by decide)]; exact ho2 j h1
        refine lv_aload_n X.1 X.2.1 dX10_runs_45 rfl (lv_at hl 1 rfl) ?_
        refine gM_0_6 X hP mF_X10_22 dX10_runs_46 ?_
        refine lv_iload_n X.1 X.2.1 dX10_runs_49 rfl (lv_at hl 0 rfl) ?_
        refine lM_5 X hP (by omega) (v := nI (ln_st N r S (t + 1))) (hj1 _ (Nat.le_refl _)) dX10_runs_50 ?_
        refine lv_aload_n X.1 X.2.1 dX10_runs_51 rfl (lv_at hl 1 rfl) ?_
        refine gM_0_6 X hP mF_X10_22 dX10_runs_52 ?_
        refine lv_iload_n X.1 X.2.1 dX10_runs_55 rfl (lv_at hl 0 rfl) ?_
        refine lv_iconst (v := nI 1) X.1 X.2.1 dX10_runs_56 (by decide) ?_
        refine rn_sub X (by omega) dX10_runs_57 ?_
        refine rn_top (y := nI t) rfl ?_
        refine lM_5 X hP (by omega) (v := nI (ln_st N r S t)) (hj1 t (by omega)) dX10_runs_58 ?_
        refine rn_eq X (ln_31 (ln_st12 hW r hS (t + 1))) (ln_31 (ln_st12 hW r hS t)) (tgt := 66) dX10_runs_59 (by decide) (fun h59 => ?_) (fun h59 => ?_)
        · skip
          refine lv_iconst (v := nI 0) X.1 X.2.1 dX10_runs_66 (by decide) ?_
          refine lv_istore (lv' := [(5, .int (nI 0)), (3, .int (nI (t + 1))), (0, .ref (a 0)), (1, .int (nI r)), (4, .int (ln_b b))]) X.1 X.2.1 dX10_runs_67 hl (by decide) rfl (fun ls hl => ?_)
          refine lv_iload X.1 X.2.1 dX10_runs_69 (lv_at hl 0 rfl) ?_
          refine rn_eq0 X (by decide) (tgt := 79) dX10_runs_71 (by decide) (fun _ => ?_) (fun q => absurd (q) (by decide))
          refine lv_iload X.1 X.2.1 dX10_runs_79 (lv_at hl 0 rfl) ?_
          refine rn_ne0 X (by decide) (tgt := 94) dX10_runs_81 (by decide) (fun q => absurd q (by decide)) (fun _ => ?_)
          refine lv_iload_n X.1 X.2.1 dX10_runs_84 rfl (lv_at hl 3 rfl) ?_
          refine lv_iconst (v := nI 2) X.1 X.2.1 dX10_runs_85 (by decide) ?_
          refine rn_ne X (by omega) (by decide) (tgt := 98) dX10_runs_86 (by decide) (fun h86 => ?_) (fun h86 => ?_)
          · skip
            refine lv_iconst (v := ln_b false) X.1 X.2.1 dX10_runs_98 (by decide) ?_
            refine lv_istore (lv' := [(4, .int (ln_b false)), (5, .int (nI 0)), (3, .int (nI (t + 1))), (0, .ref (a 0)), (1, .int (nI r))]) X.1 X.2.1 dX10_runs_99 hl (by decide) rfl (fun ls hl => ?_)
            refine lv_goto (tgt := 17) X.1 X.2.1 dX10_runs_101 (by decide) ?_
            exact ih17 (t + 1) _ τ1 H locs (by subst h19; simp at hm17 ⊢; omega) (by omega) (by first | exact hj2 | exact hj1) (by first | exact he2 | (rw [he1, ln_lc_s h59])) (by first | (intro q; exact absurd q (by decide)) | (intro _; exact hs12) | (intro _; omega)) (by first | (intro q; exact absurd q (by decide)) | (intro _; rw [ln_lc_s h59, h59]; exact ln_stop ht12 (by omega) h59)) (by first | exact hq2 | exact hq1) (by first | exact hu2 | exact hu1) hP hDw hSw ls (lv_sub hl [3, 4, 2, 0] rfl)
          · skip
            refine lv_iload_n X.1 X.2.1 dX10_runs_89 rfl (lv_at hl 1 rfl) ?_
            refine lv_iconst (v := nI 1) X.1 X.2.1 dX10_runs_90 (by decide) ?_
            refine rn_ne X (by omega) (by decide) (tgt := 98) dX10_runs_91 (by decide) (fun h91 => ?_) (fun h91 => ?_)
            · skip
              refine lv_iconst (v := ln_b false) X.1 X.2.1 dX10_runs_98 (by decide) ?_
              refine lv_istore (lv' := [(4, .int (ln_b false)), (5, .int (nI 0)), (3, .int (nI (t + 1))), (0, .ref (a 0)), (1, .int (nI r))]) X.1 X.2.1 dX10_runs_99 hl (by decide) rfl (fun ls hl => ?_)
              refine lv_goto (tgt := 17) X.1 X.2.1 dX10_runs_101 (by decide) ?_
              exact ih17 (t + 1) _ τ1 H locs (by subst h19; simp at hm17 ⊢; omega) (by omega) (by first | exact hj2 | exact hj1) (by first | exact he2 | (rw [he1, ln_lc_s h59])) (by first | (intro q; exact absurd q (by decide)) | (intro _; exact hs12) | (intro _; omega)) (by first | (intro q; exact absurd q (by decide)) | (intro _; rw [ln_lc_s h59, h59]; exact ln_stop ht12 (by omega) h59)) (by first | exact hq2 | exact hq1) (by first | exact hu2 | exact hu1) hP hDw hSw ls (lv_sub hl [3, 4, 2, 0] rfl)
            · skip
              refine lv_iconst (v := ln_b true) X.1 X.2.1 dX10_runs_94 (by decide) ?_
              refine lv_goto (tgt := 99) X.1 X.2.1 dX10_runs_95 (by decide) ?_
              refine lv_istore (lv' := [(4, .int (ln_b true)), (5, .int (nI 0)), (3, .int (nI (t + 1))), (0, .ref (a 0)), (1, .int (nI r))]) X.1 X.2.1 dX10_runs_99 hl (by decide) rfl (fun ls hl => ?_)
              refine lv_goto (tgt := 17) X.1 X.2.1 dX10_runs_101 (by decide) ?_
              exact ih17 (t + 1) _ τ1 H locs (by subst h19; simp at hm17 ⊢; omega) (by omega) (by first | exact hj2 | exact hj1) (by first | exact he2 | (rw [he1, ln_lc_s h59])) (by first | (intro q; exact absurd q (by decide)) | (intro _; exact hs12) | (intro _; omega)) (by first | (intro q; exact absurd q (by decide)) | (intro _; rw [ln_lc_s h59, h59]; exact ln_stop ht12 (by omega) h59)) (by first | exact hq2 | exact hq1) (by first | exact hu2 | exact hu1) hP hDw hSw ls (lv_sub hl [3, 4, 2, 0] rfl)
        · skip
          have hs12 : t + 1 ≤ 12 := Nat.lt_of_le_of_ne ht12 (fun q => by subst q; exact h59 (ln_st_fix hW hS 12 (Nat.le_refl 12)))
          refine lv_iconst (v := nI 1) X.1 X.2.1 dX10_runs_62 (by decide) ?_
          refine lv_goto (tgt := 67) X.1 X.2.1 dX10_runs_63 (by decide) ?_
          refine lv_istore (lv' := [(5, .int (nI 1)), (3, .int (nI (t + 1))), (0, .ref (a 0)), (1, .int (nI r)), (4, .int (ln_b b))]) X.1 X.2.1 dX10_runs_67 hl (by decide) rfl (fun ls hl => ?_)
          refine lv_iload X.1 X.2.1 dX10_runs_69 (lv_at hl 0 rfl) ?_
          refine rn_eq0 X (by decide) (tgt := 79) dX10_runs_71 (by decide) (fun q => absurd q (by decide)) (fun _ => ?_)
          refine lv_aload_n X.1 X.2.1 dX10_runs_74 rfl (lv_at hl 2 rfl) ?_
          refine lv_iload_n X.1 X.2.1 dX10_runs_75 rfl (lv_at hl 1 rfl) ?_
          refine pM_0_7 X hP hDw hSw mF_X10_77 dX10_runs_76 (fun H locs hP hDw hSw => ?_)
          obtain ⟨τ2, hτ2⟩ : ∃ z : ln_S, z = (ln_up τ1 0 (upd (τ1 0) 2 (nI (t + 1)))) := ⟨_, rfl⟩
          rw [← hτ2] at hP hDw
          have hj2 : ∀ j, j ≤ t + 1 → τ2 5 j = nI (ln_st N r S j) := fun j hq => by rw [hτ2, ln_up_n _ _ (by decide)]; exact hj1 j hq
          have he2 : τ2 0 2 = nI (ln_lc (ln_st N r S) (t + 1)) := by rw [hτ2, ln_up_s, ln_upd_s, ln_lc_n h59]
          have hq2 : ∀ c, c ≠ 0 → c ≠ 5 → τ2 c = σ c := fun c h1 h2 => by rw [hτ2, ln_up_n _ _ h1]; exact hq1 c h1 h2
          have hu2 : ∀ j, j ≠ 2 → τ2 0 j = σ 0 j := fun j h1 => by rw [hτ2, ln_up_s, ln_upd_n h1]; exact hu1 j h1
          refine lv_iload X.1 X.2.1 dX10_runs_79 (lv_at hl 0 rfl) ?_
          refine rn_ne0 X (by decide) (tgt := 94) dX10_runs_81 (by decide) (fun _ => ?_) (fun q => absurd q (by decide))
          refine lv_iconst (v := ln_b true) X.1 X.2.1 dX10_runs_94 (by decide) ?_
          refine lv_goto (tgt := 99) X.1 X.2.1 dX10_runs_95 (by decide) ?_
          refine lv_istore (lv' := [(4, .int (ln_b true)), (5, .int (nI 1)), (3, .int (nI (t + 1))), (0, .ref (a 0)), (1, .int (nI r))]) X.1 X.2.1 dX10_runs_99 hl (by decide) rfl (fun ls hl => ?_)
          refine lv_goto (tgt := 17) X.1 X.2.1 dX10_runs_101 (by decide) ?_
          exact ih17 (t + 1) _ τ2 H locs (by subst h19; simp at hm17 ⊢; omega) (by omega) (by first | exact hj2 | exact hj1) (by first | exact he2 | (rw [he1, ln_lc_s h59])) (by first | (intro q; exact absurd q (by decide)) | (intro _; exact hs12) | (intro _; omega)) (by first | (intro q; exact absurd q (by decide)) | (intro _; rw [ln_lc_s h59, h59]; exact ln_stop ht12 (by omega) h59)) (by first | exact hq2 | exact hq1) (by first | exact hu2 | exact hu1) hP hDw hSw ls (lv_sub hl [3, 4, 2, 0] rfl)
  exact L17 _ 0 true σ2 H locs (Nat.lt_succ_self _) (by decide) (fun j hj => by rw [show j = 0 by omega, hσ2, hσ1]; rfl) (by rw [hσ2]; rfl) (fun _ => by decide) (fun h => absurd h (by decide)) (fun c h1 h2 => by rw [hσ2, hσ1, ln_up_n _ _ h1, ln_up_n _ _ h2]) (fun j h1 => by rw [hσ2, ln_up_s, ln_upd_n h1, hσ1]; rfl) hP hDw hSw ls (lv_sub hl [2, 3, 1, 0] rfl)
set_option maxHeartbeats 4000000 in
set_option maxRecDepth 100000 in
theorem c_X10_comes (l : Launch) (D : va_G) (g : Nat → ClassId) (a : Nat → Nat) (σ : ln_S) (d : Nat) (N : ln_N) (hW : ln_wf N) (r S p : Nat) (hS : S < 2 ^ N 0 0) (hp : p < 12) (hR : ln_ran N r S (σ 5) (σ 0 2)) (hd : 1 ≤ d) : ln_R l D g (MW a g σ) yX10_comes (.code yX10_comes cX10_comes 3 (some .int)) d [.ref (a 0), .int (nI p)] (fun z => z = ln_cm N r S p) := by
  have het := ln_et13 N r S
  refine ln_ofR (by decide +kernel) (Nat.le_of_ble_eq_true rfl) (fun prg env rum sta mid args below meth cod ls hr hlk X hP hl => ?_)
  have hl : lv_has ls 3 [(0, .ref (a 0)), (1, .int (nI p))] := hl
  generalize hQ0 : (MQ below (vp_Si (fun z => z = ln_cm N r S p)) args sta 0 0 (fun _ => False)) = Q0
  refine lv_iconst (v := nI 0) X.1 X.2.1 dX10_comes_0 (by decide) ?_
  refine lv_istore_n (lv' := [(2, .int (nI 0)), (0, .ref (a 0)), (1, .int (nI p))]) X.1 X.2.1 dX10_comes_1 rfl hl (by decide) rfl (fun ls hl => ?_)
  have L2 : ∀ (K : Nat) (t : Nat), ln_et N r S + 1 - t < K → (t ≤ ln_et N r S + 1) → (∀ j, j < t → ln_stb N r S p j = false) → ∀ ls : Array Slot, lv_has ls 3 [(0, .ref (a 0)), (1, .int (nI p)), (2, .int (nI t))] → W prg l env rum sta mid args below meth cod sta.heap [] 0 0 Q0 (F0 mid 2 ls []) := by
    intro K
    induction K with
    | zero => intro t hm; exact absurd hm (Nat.not_lt_zero _)
    | succ K ih2 =>
      intro t hm2 ht hj ls hl
      refine lv_iload_n X.1 X.2.1 dX10_comes_2 rfl (lv_at hl 2 rfl) ?_
      refine lv_aload_n X.1 X.2.1 dX10_comes_3 rfl (lv_at hl 0 rfl) ?_
      refine gM_0_7 X hP (v := nI (ln_et N r S)) hR.1 mF_X10_77 dX10_comes_4 ?_
      refine rn_gt X (by omega) (by omega) (tgt := 31) dX10_comes_7 (by decide) (fun h7 => ?_) (fun h7 => ?_)
      · skip
        refine lv_iconst (v := ((-1))) X.1 X.2.1 dX10_comes_31 (by decide) ?_
        subst hQ0
        exact ln_retR X hr hlk rfl (ln_fr_none (fun j hj2 => hj j (by omega))) dX10_comes_32
      · skip
        refine lv_aload_n X.1 X.2.1 dX10_comes_10 rfl (lv_at hl 0 rfl) ?_
        refine gM_0_6 X hP mF_X10_22 dX10_comes_11 ?_
        refine lv_iload_n X.1 X.2.1 dX10_comes_14 rfl (lv_at hl 2 rfl) ?_
        refine lM_5 X hP (by omega) (v := nI (ln_st N r S t)) (hR.2 t (by omega)) dX10_comes_15 ?_
        refine lv_iload_n X.1 X.2.1 dX10_comes_16 rfl (lv_at hl 1 rfl) ?_
        refine ln_sR X (c_X10_has l D g 0 (ln_st N r S t) p (ln_31 (ln_st12 hW r hS t)) (by omega) (Nat.le_refl _)) ln_nil mM_X10_70 Y_X10_has rfl (by omega) hl.1 rfl (Nat.le_of_ble_eq_true rfl) dX10_comes_17 ⟨Nat.zero_le _, Nat.zero_le _⟩ (fun r17 hr17 => ?_)
        subst hr17
        refine rn_eqB X (tgt := 25) dX10_comes_20 (by decide) (fun h20 => ?_) (fun h20 => ?_)
        · skip
          refine lv_iinc (v := nI (t + 1)) (lv' := [(2, .int (nI (t + 1))), (0, .ref (a 0)), (1, .int (nI p))]) X.1 X.2.1 dX10_comes_25 hl (k := 2) rfl rn_inc (by decide) rfl (fun ls hl => ?_)
          refine lv_goto (tgt := 2) X.1 X.2.1 dX10_comes_28 (by decide) ?_
          exact ih2 (t + 1) (by omega) (by omega) (ln_lt_s hj h20) ls (lv_sub hl [1, 2, 0] rfl)
        · skip
          refine lv_iload_n X.1 X.2.1 dX10_comes_23 rfl (lv_at hl 2 rfl) ?_
          subst hQ0
          exact ln_retR X hr hlk rfl (ln_fr_eq h20 hj (by omega)) dX10_comes_24
  exact L2 _ 0 (Nat.lt_succ_self _) (Nat.zero_le _) (fun j hj => absurd hj (Nat.not_lt_zero j)) ls (lv_sub hl [1, 2, 0] rfl)
