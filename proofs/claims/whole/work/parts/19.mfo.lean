theorem ln_bool_eq {x b : Bool} (h1 : b = true → x = true) (h2 : b = false → x = false) : x = b := by
  cases b with
  | true => exact h1 rfl
  | false => exact h2 rfl
def ln_oFt (N : ln_N) (x y z : Int32) : Prop := ((ln_inr x 2 = false ∨ ln_inr y (2 ^ N 0 0) = false) ∧ z = -2) ∨ ∃ r S, r < 2 ∧ S < 2 ^ N 0 0 ∧ x = nI r ∧ y = nI S ∧ z = ln_b (ln_ft N r S)
def ln_oFk (N : ln_N) (x y z : Int32) : Prop := ((ln_inr x 2 = false ∨ y < 0) ∧ z = -2) ∨ ∃ r k, r < 2 ∧ k < 2 ^ 31 ∧ x = nI r ∧ y = nI k ∧ ln_isK N r k z
def ln_oAp (N : ln_N) (x z : Int32) : Prop := (ln_inr x 2 = false ∧ z = -2) ∨ ∃ r v, r < 2 ∧ x = nI r ∧ z = nI v ∧ ln_isA N r (2 ^ N 0 0 - 1) v
theorem ln_s_one {S T M : Nat} (hM : M ≤ 2 ^ 30) (hS : S < M) (hT : T < M) {y : Int32} (h : y = nI S) (h2 : y = nI T) : S = T := (nI_eq (by omega) (by omega)).mp (h.symm.trans h2)
theorem ln_oFt_one {N : ln_N} (hW : ln_wf N) {x y z w : Int32} (h : ln_oFt N x y z) (h2 : ln_oFt N x y w) : z = w := by
  have hp := hW.p12
  rcases h with ⟨a1, a2⟩ | ⟨r, S, hr, hS, hx, hy, hz⟩ <;> rcases h2 with ⟨b1, b2⟩ | ⟨q, T, hq, hT, hx2, hy2, hw⟩
  · rw [a2, b2]
  · rcases a1 with a1 | a1
    · exact (ln_r_in hq (by decide) hx2 a1).elim
    · exact (ln_r_in hT (by omega) hy2 a1).elim
  · rcases b1 with b1 | b1
    · exact (ln_r_in hr (by decide) hx b1).elim
    · exact (ln_r_in hS (by omega) hy b1).elim
  · have e := ln_s_one (by decide) hr hq hx hx2
    have e2 := ln_s_one (by omega) hS hT hy hy2
    subst e e2
    rw [hz, hw]
theorem ln_oFk_one {N : ln_N} {x y z w : Int32} (h : ln_oFk N x y z) (h2 : ln_oFk N x y w) : z = w := by
  rcases h with ⟨a1, a2⟩ | ⟨r, S, hr, hS, hx, hy, hz⟩ <;> rcases h2 with ⟨b1, b2⟩ | ⟨q, T, hq, hT, hx2, hy2, hw⟩
  · rw [a2, b2]
  · rcases a1 with a1 | a1
    · exact (ln_r_in hq (by decide) hx2 a1).elim
    · rw [hy2] at a1; exact absurd a1 (nI_pos hT)
  · rcases b1 with b1 | b1
    · exact (ln_r_in hr (by decide) hx b1).elim
    · rw [hy] at b1; exact absurd b1 (nI_pos hS)
  · have e := ln_s_one (by decide) hr hq hx hx2
    have e2 : S = T := (nI_eq hS hT).mp (hy.symm.trans hy2)
    subst e e2
    exact ln_isK_one hz hw
theorem ln_oAp_one {N : ln_N} {x z w : Int32} (h : ln_oAp N x z) (h2 : ln_oAp N x w) : z = w := by
  rcases h with ⟨a1, a2⟩ | ⟨r, v, hr, hx, hz, ha⟩ <;> rcases h2 with ⟨b1, b2⟩ | ⟨q, u, hq, hy, hw, hb⟩
  · rw [a2, b2]
  · exact (ln_r_in hq (by decide) hy a1).elim
  · exact (ln_r_in hr (by decide) hx b1).elim
  · have e := ln_s_one (by decide) hr hq hx hy
    subst e
    rw [hz, hw, ln_isA_one ha hb]
theorem ln_in2 (x : Int32) : decide (nI 0 ≤ x ∧ x ≤ nI 1) = ln_inr x 2 := ln_in_inr2 (n := 1) (by decide)
theorem ln_ft_tk {N : ln_N} {r S : Nat} (hr : r < 2) (h0 : S ≠ 0) (h : ln_tk N r 2 (ln_df (2 ^ N 0 0 - 1) S) = ln_df (2 ^ N 0 0 - 1) S) : ln_ft N r S = true := by
  unfold ln_tk at h
  rw [if_neg (by omega)] at h
  exact decide_eq_true ⟨h0, h⟩
theorem ln_ft_tn {N : ln_N} {r S : Nat} (hr : r < 2) (h : ln_tk N r 2 (ln_df (2 ^ N 0 0 - 1) S) ≠ ln_df (2 ^ N 0 0 - 1) S) : ln_ft N r S = false := by
  unfold ln_tk at h
  rw [if_neg (by omega)] at h
  exact decide_eq_false (fun q => h q.2)
/-- other tables beside one of the forts' -/
theorem ln_mT_fo {N : ln_N} (hW : ln_wf N) {σ τ : ln_S} {r k : Nat} (hk : k ≠ 6 + r) (h7 : ∀ i, i < 4096 * r ∨ 4096 * r + 4096 ≤ i → τ 7 i = σ 7 i) (ho : ∀ c, c ≠ 0 → c ≠ 7 → τ c = σ c) (h : ln_mT N σ k) : ln_mT N τ k := by
  by_cases h3 : 6 ≤ k ∧ k < 8
  · obtain ⟨q, rfl⟩ : ∃ q, k = 6 + q := ⟨k - 6, by omega⟩
    rw [ln_mT_f (by omega)] at h ⊢
    intro S hS
    have := hW.p12
    rw [h7 _ (by omega)]
    exact h S hS
  · exact h.of (fun c hc => ho c (by omega) (by omega))
theorem ln_lf_of {N : ln_N} {r k : Nat} (h : ln_ft N r k = true ∧ ∀ P, 0 < P → P < k → P ≠ 0 → P &&& k = P → ln_ft N r P = false) : ln_lf N r k = true := decide_eq_true ⟨h.1, fun P h1 h2 h3 => h.2 P (by omega) h1 h2 h3⟩
theorem ln_lf_no {N : ln_N} {r k : Nat} (h : ln_ft N r k = false) : ln_lf N r k = false := by
  cases hf : ln_lf N r k with
  | false => rfl
  | true => rw [ln_lf_ft hf] at h; exact absurd h (by decide)
theorem ln_lf_no2 {N : ln_N} {r k P : Nat} (h1 : P < k) (h2 : P ≠ 0) (h3 : P &&& k = P) (h4 : ln_ft N r P = true) : ln_lf N r k = false := by
  cases hf : ln_lf N r k with
  | false => rfl
  | true => rw [(of_decide_eq_true hf).2 P h1 h2 h3] at h4; exact absurd h4 (by decide)
set_option maxHeartbeats 4000000 in
set_option maxRecDepth 100000 in
theorem c_X10_isFort (l : Launch) (D : va_G) (g : Nat → ClassId) (a : Nat → Nat) (σ : ln_S) (d : Nat) (N : ln_N) (hW : ln_wf N) (hN : ln_nM N σ) (r S : Nat) (hr2 : r < 2) (hS : S < 2 ^ N 0 0) (hd : 3 ≤ d) : ln_R l D g (MW a g σ) yX10_isFort (.code yX10_isFort cX10_isFort 4 (some .boolean)) d [.ref (a 0), .int (nI r), .int (nI S)] (fun z => z = ln_b (ln_ft N r S)) := by
  have hN12 := hW.n12
  have hp12 := hW.p12
  have hs1 := ln_sub1 (N 0 0)
  refine ln_ofR (by decide +kernel) (Nat.le_of_ble_eq_true rfl) (fun prg env rum sta mid args below meth cod ls hr hlk X hP hl => ?_)
  have hl : lv_has ls 4 [(0, .ref (a 0)), (1, .int (nI r)), (2, .int (nI S))] := hl
  generalize hQ0 : (MQ below (vp_Si (fun z => z = ln_b (ln_ft N r S))) args sta 0 0 (fun _ => False)) = Q0
  refine lv_aload_n X.1 X.2.1 dX10_isFort_0 rfl (lv_at hl 0 rfl) ?_
  refine ln_vR X (c_X10_all l D g a σ 0 N hW hN (Nat.le_refl _)) hP 0 rfl rfl mM_X10_87 Y_X10_all rfl (by omega) hl.1 rfl (Nat.le_of_ble_eq_true rfl) dX10_isFort_1 ⟨Nat.zero_le _, Nat.zero_le _⟩ (fun r1 hr1 => ?_)
  subst hr1
  refine lv_iload_n X.1 X.2.1 dX10_isFort_4 rfl (lv_at hl 2 rfl) ?_
  refine lv_iconst (v := ((-1))) X.1 X.2.1 dX10_isFort_5 (by decide) ?_
  refine lv_ixor X.1 X.2.1 dX10_isFort_6 ?_
  refine rn_nt X dX10_isFort_7 ?_
  refine lv_istore_n (lv' := [(3, .int (nI (ln_df (2 ^ N 0 0 - 1) S))), (0, .ref (a 0)), (1, .int (nI r)), (2, .int (nI S))]) X.1 X.2.1 dX10_isFort_8 rfl hl (by decide) rfl (fun ls hl => ?_)
  refine lv_iload_n X.1 X.2.1 dX10_isFort_9 rfl (lv_at hl 3 rfl) ?_
  refine rn_eq0 X (ln_31 (ln_n12 hW hS)) (tgt := 28) dX10_isFort_10 (by decide) (fun h10 => ?_) (fun h10 => ?_)
  · skip
    refine lv_iconst (v := nI 0) X.1 X.2.1 dX10_isFort_28 (by decide) ?_
    subst hQ0
    exact ln_retR X hr hlk rfl (by first | (subst h10; rw [ln_ft_0]; rfl) | (rw [ln_ft_tn hr2 h21]; rfl) | (rw [ln_ft_tk hr2 h10 h21]; rfl)) dX10_isFort_29
  · skip
    refine lv_aload_n X.1 X.2.1 dX10_isFort_13 rfl (lv_at hl 1 rfl) ?_
    refine lv_iload_n X.1 X.2.1 dX10_isFort_14 rfl (lv_at hl 2 rfl) ?_
    refine lv_iload_n X.1 X.2.1 dX10_isFort_15 rfl (lv_at hl 0 rfl) ?_
    refine lv_iconst (v := nI 2) X.1 X.2.1 dX10_isFort_16 (by decide) ?_
    refine ln_vR X (c_X10_tick l D g a σ 2 N hW hN r (ln_df (2 ^ N 0 0 - 1) S) 2 (by omega) (ln_df_lt (Nat.lt_of_lt_of_le (Nat.sub_lt (ln_pos2 _) (by decide)) hp12)) (by omega) (Nat.le_refl _)) hP 0 rfl rfl mM_X10_80 Y_X10_tick rfl (by omega) hl.1 rfl (Nat.le_of_ble_eq_true rfl) dX10_isFort_17 ⟨Nat.zero_le _, Nat.zero_le _⟩ (fun r17 hr17 => ?_)
    subst hr17
    refine lv_iload_n X.1 X.2.1 dX10_isFort_20 rfl (lv_at hl 0 rfl) ?_
    refine rn_ne X (ln_31 (ln_n12 hW (ln_tk_lt hW _ _ (ln_dfa_lt _ _)))) (ln_31 (ln_df_lt (Nat.lt_of_lt_of_le (Nat.sub_lt (ln_pos2 _) (by decide)) hp12))) (tgt := 28) dX10_isFort_21 (by decide) (fun h21 => ?_) (fun h21 => ?_)
    · skip
      refine lv_iconst (v := nI 0) X.1 X.2.1 dX10_isFort_28 (by decide) ?_
      subst hQ0
      exact ln_retR X hr hlk rfl (by first | (subst h10; rw [ln_ft_0]; rfl) | (rw [ln_ft_tn hr2 h21]; rfl) | (rw [ln_ft_tk hr2 h10 h21]; rfl)) dX10_isFort_29
    · skip
      refine lv_iconst (v := nI 1) X.1 X.2.1 dX10_isFort_24 (by decide) ?_
      refine lv_goto (tgt := 29) X.1 X.2.1 dX10_isFort_25 (by decide) ?_
      subst hQ0
      exact ln_retR X hr hlk rfl (by first | (subst h10; rw [ln_ft_0]; rfl) | (rw [ln_ft_tn hr2 h21]; rfl) | (rw [ln_ft_tk hr2 h10 h21]; rfl)) dX10_isFort_29
set_option maxHeartbeats 4000000 in
set_option maxRecDepth 100000 in
theorem c_X10_fort (l : Launch) (D : va_G) (g : Nat → ClassId) (a : Nat → Nat) (σ : ln_S) (d : Nat) (N : ln_N) (hW : ln_wf N) (hN : ln_nM N σ) (x y : Int32) (hd : 4 ≤ d) : ln_R l D g (MW a g σ) yX10_fort (.code yX10_fort cX10_fort 3 (some .int)) d [.ref (a 0), .int x, .int y] (fun z => ln_oFt N x y z) := by
  have hN12 := hW.n12
  have hp12 := hW.p12
  have hs1 := ln_sub1 (N 0 0)
  refine ln_ofR (by decide +kernel) (Nat.le_of_ble_eq_true rfl) (fun prg env rum sta mid args below meth cod ls hr hlk X hP hl => ?_)
  have hl : lv_has ls 3 [(0, .ref (a 0)), (1, .int x), (2, .int y)] := hl
  generalize hQ0 : (MQ below (vp_Si (fun z => ln_oFt N x y z)) args sta 0 0 (fun _ => False)) = Q0
  refine lv_iload_n X.1 X.2.1 dX10_fort_0 rfl (lv_at hl 1 rfl) ?_
  refine lv_iconst (v := nI 0) X.1 X.2.1 dX10_fort_1 (by decide) ?_
  refine lv_iconst (v := nI 1) X.1 X.2.1 dX10_fort_2 (by decide) ?_
  refine ln_sR X (c_X10_in l D g 0 x (nI 0) (nI 1) (Nat.le_refl _)) ln_nil mM_X10_52 Y_X10_in rfl (by omega) hl.1 rfl (Nat.le_of_ble_eq_true rfl) dX10_fort_3 ⟨Nat.zero_le _, Nat.zero_le _⟩ (fun r3 hr3 => ?_)
  subst hr3
  refine rn_top (y := ln_b (ln_inr x 2)) (by rw [ln_in2]) ?_
  refine rn_eqB X (tgt := 17) dX10_fort_6 (by decide) (fun h6 => ?_) (fun h6 => ?_)
  · skip
    refine lv_bipush (v := ((-2))) X.1 X.2.1 dX10_fort_17 (by decide) ?_
    subst hQ0
    exact ln_retR X hr hlk rfl (Or.inl ⟨by first | exact Or.inl h6 | exact Or.inr h14, rfl⟩) dX10_fort_19
  · skip
    obtain ⟨r, hr2, rfl⟩ := ln_inr_t (by decide) h6
    refine lv_aload_n X.1 X.2.1 dX10_fort_9 rfl (lv_at hl 0 rfl) ?_
    refine lv_iload_n X.1 X.2.1 dX10_fort_10 rfl (lv_at hl 2 rfl) ?_
    refine ln_vR X (c_X10_isSet l D g a σ 0 N hW hN y (Nat.le_refl _)) hP 0 rfl rfl mM_X10_98 Y_X10_isSet rfl (by omega) hl.1 rfl (Nat.le_of_ble_eq_true rfl) dX10_fort_11 ⟨Nat.zero_le _, Nat.zero_le _⟩ (fun r11 hr11 => ?_)
    subst hr11
    refine rn_neB X (tgt := 20) dX10_fort_14 (by decide) (fun h14 => ?_) (fun h14 => ?_)
    · skip
      obtain ⟨S, hS, rfl⟩ := ln_inr_t (by omega) h14
      refine lv_aload_n X.1 X.2.1 dX10_fort_20 rfl (lv_at hl 0 rfl) ?_
      refine lv_iload_n X.1 X.2.1 dX10_fort_21 rfl (lv_at hl 1 rfl) ?_
      refine lv_iload_n X.1 X.2.1 dX10_fort_22 rfl (lv_at hl 2 rfl) ?_
      refine ln_vR X (c_X10_isFort l D g a σ 3 N hW hN r S (by omega) (show S < 2 ^ N 0 0 by omega) (Nat.le_refl _)) hP 0 rfl rfl mM_X10_104 Y_X10_isFort rfl (by omega) hl.1 rfl (Nat.le_of_ble_eq_true rfl) dX10_fort_23 ⟨Nat.zero_le _, Nat.zero_le _⟩ (fun r23 hr23 => ?_)
      subst hr23
      refine rn_eqB X (tgt := 33) dX10_fort_26 (by decide) (fun h26 => ?_) (fun h26 => ?_)
      · skip
        refine lv_iconst (v := nI 0) X.1 X.2.1 dX10_fort_33 (by decide) ?_
        subst hQ0
        exact ln_retR X hr hlk rfl (Or.inr ⟨r, S, hr2, hS, rfl, rfl, by rw [h26]; rfl⟩) dX10_fort_34
      · skip
        refine lv_iconst (v := nI 1) X.1 X.2.1 dX10_fort_29 (by decide) ?_
        refine lv_goto (tgt := 34) X.1 X.2.1 dX10_fort_30 (by decide) ?_
        subst hQ0
        exact ln_retR X hr hlk rfl (Or.inr ⟨r, S, hr2, hS, rfl, rfl, by rw [h26]; rfl⟩) dX10_fort_34
    · skip
      refine lv_bipush (v := ((-2))) X.1 X.2.1 dX10_fort_17 (by decide) ?_
      subst hQ0
      exact ln_retR X hr hlk rfl (Or.inl ⟨by first | exact Or.inl h6 | exact Or.inr h14, rfl⟩) dX10_fort_19
set_option maxHeartbeats 4000000 in
set_option maxRecDepth 100000 in
theorem c_X10_findForts (l : Launch) (D : va_G) (g : Nat → ClassId) (a : Nat → Nat) (σ : ln_S) (d : Nat) (N : ln_N) (hW : ln_wf N) (hN : ln_nM N σ) (E : Nat) (hK : ln_MK N σ E) (r : Nat) (hr2 : r < 2) (hEr : 6 + r ≠ E) (hd : 4 ≤ d) : ln_V l D g (MW a g) yX10_findForts (.code yX10_findForts cX10_findForts 6 none) d [.ref (a 0), .int (nI r)] σ (fun τ => ln_nM N τ ∧ ln_MK N τ E ∧ ln_mT N τ (6 + r) ∧ ∀ c, c ≠ 0 → c ≠ 7 → τ c = σ c) := by
  have hN12 := hW.n12
  have hp12 := hW.p12
  have hs1 := ln_sub1 (N 0 0)
  obtain ⟨K, hK1, hK2, hK3⟩ := hK
  refine ln_ofV (by decide +kernel) (Nat.le_of_ble_eq_true rfl) (fun prg env rum sta mid args below meth cod ls A hr hlk X hA hP hDw hSw hl => ?_)
  have hl : lv_has ls 6 [(0, .ref (a 0)), (1, .int (nI r))] := hl
  generalize hQ0 : (MQ below (va_Qv (fun τ => ln_nM N τ ∧ ln_MK N τ E ∧ ln_mT N τ (6 + r) ∧ ∀ c, c ≠ 0 → c ≠ 7 → τ c = σ c) (fun τ t => va_P D ln_cl (MW a g τ) t.heap) A) args sta 0 0 A) = Q0
  obtain ⟨H, hH⟩ : ∃ H, H = sta.heap := ⟨_, rfl⟩
  obtain ⟨locs, hlo⟩ : ∃ x : List Loc, x = [] := ⟨_, rfl⟩
  rw [← hH] at hP
  have hSw : va_S A sta.heap H locs := by rw [hH, hlo]; exact hSw
  have goal : W prg l env rum sta mid args below meth cod H locs 0 0 Q0 (F0 mid 0 ls []) := ?_
  · rw [hH, hlo] at goal; exact goal
  clear hlo
  refine lv_aload_n X.1 X.2.1 dX10_findForts_0 rfl (lv_at hl 0 rfl) ?_
  refine lv_bipush (v := nI 6) X.1 X.2.1 dX10_findForts_1 (by decide) ?_
  refine lv_iload_n X.1 X.2.1 dX10_findForts_3 rfl (lv_at hl 1 rfl) ?_
  refine rn_add X dX10_findForts_4 ?_
  refine ln_vU X (MW_ad a g) hA (c_X10_isKnown l D g a σ 0 K (6 + r) hK1 hK2 (by omega) (Nat.le_refl _)) hP hDw hSw 0 rfl rfl mM_X10_84 Y_X10_isKnown rfl (by omega) hl.1 rfl (Nat.le_of_ble_eq_true rfl) dX10_findForts_5 ⟨Nat.zero_le _, Nat.zero_le _⟩ (fun r5 τ5 H locs hr5 hP hDw hSw => ?_)
  obtain ⟨hz5, hτ5⟩ := hr5
  subst hz5
  have hN5 : ln_nM N τ5 := by rw [hτ5]; exact hN.up0 (by decide) _
  have h51 : τ5 0 1 = nI (K ||| 2 ^ (6 + r)) := by rw [hτ5]; rfl
  have ho5 : ∀ c, c ≠ 0 → τ5 c = σ c := fun c hc => by rw [hτ5, ln_up_n _ _ hc]
  refine rn_eqB X (tgt := 12) dX10_findForts_8 (by decide) (fun h8 => ?_) (fun h8 => ?_)
  · skip
    refine lv_sipush (v := nI 4096) X.1 X.2.1 dX10_findForts_12 (by decide) ?_
    refine lv_iload_n X.1 X.2.1 dX10_findForts_15 rfl (lv_at hl 1 rfl) ?_
    refine rn_mul X dX10_findForts_16 ?_
    refine lv_istore_n (lv' := [(2, .int (nI (4096 * r))), (0, .ref (a 0)), (1, .int (nI r))]) X.1 X.2.1 dX10_findForts_17 rfl hl (by decide) rfl (fun ls hl => ?_)
    refine lv_iconst (v := nI 0) X.1 X.2.1 dX10_findForts_18 (by decide) ?_
    refine lv_istore_n (lv' := [(3, .int (nI 0)), (2, .int (nI (4096 * r))), (0, .ref (a 0)), (1, .int (nI r))]) X.1 X.2.1 dX10_findForts_19 rfl hl (by decide) rfl (fun ls hl => ?_)
    have L20 : ∀ (K : Nat) (k : Nat) (τ : ln_S) (H : Heap) (locs : List Loc), 2 ^ N 0 0 - k < K → (k ≤ 2 ^ N 0 0) → (∀ T, T < k → τ 7 (4096 * r + T) = ln_b (ln_ft N r T)) → (∀ i, i < 4096 * r ∨ 4096 * r + 4096 ≤ i → τ 7 i = σ 7 i) → (∀ c, c ≠ 7 → τ c = τ5 c) → va_P D ln_cl (MW a g τ) H → va_D A (MW a g τ) → va_S A sta.heap H locs → ∀ ls : Array Slot, lv_has ls 6 [(0, .ref (a 0)), (1, .int (nI r)), (2, .int (nI (4096 * r))), (3, .int (nI k))] → W prg l env rum sta mid args below meth cod H locs 0 0 Q0 (F0 mid 20 ls []) := by
      intro K
      induction K with
      | zero => intro k τ H locs hm; exact absurd hm (Nat.not_lt_zero _)
      | succ K ih20 =>
        intro k τ H locs hm20 hk hT h7 ho hP hDw hSw ls hl
        have hN : ln_nM N τ := hN5.of (by rw [ho 0 (by decide)]) (fun c h1 h2 => ho c (by omega))
        refine lv_iload_n X.1 X.2.1 dX10_findForts_20 rfl (lv_at hl 3 rfl) ?_
        refine lv_aload_n X.1 X.2.1 dX10_findForts_21 rfl (lv_at hl 0 rfl) ?_
        refine ln_vR X (c_X10_all l D g a τ 0 N hW hN (Nat.le_refl _)) hP 0 rfl rfl mM_X10_87 Y_X10_all rfl (by omega) hl.1 rfl (Nat.le_of_ble_eq_true rfl) dX10_findForts_22 ⟨Nat.zero_le _, Nat.zero_le _⟩ (fun r22 hr22 => ?_)
        subst hr22
        refine rn_gt X (by omega) (ln_31 (Nat.lt_of_lt_of_le (Nat.sub_lt (ln_pos2 _) (by decide)) hp12)) (tgt := 48) dX10_findForts_25 (by decide) (fun h25 => ?_) (fun h25 => ?_)
        · skip
          refine lv_aload_n X.1 X.2.1 dX10_findForts_48 rfl (lv_at hl 0 rfl) ?_
          refine ln_vR X (c_X10_all l D g a τ 0 N hW hN (Nat.le_refl _)) hP 0 rfl rfl mM_X10_87 Y_X10_all rfl (by omega) hl.1 rfl (Nat.le_of_ble_eq_true rfl) dX10_findForts_49 ⟨Nat.zero_le _, Nat.zero_le _⟩ (fun r49 hr49 => ?_)
          subst hr49
          refine lv_istore_n (lv' := [(3, .int (nI (2 ^ N 0 0 - 1))), (0, .ref (a 0)), (1, .int (nI r)), (2, .int (nI (4096 * r)))]) X.1 X.2.1 dX10_findForts_52 rfl hl (by decide) rfl (fun ls hl => ?_)
          have L53 : ∀ (K : Nat) (k : Nat) (τ : ln_S) (H : Heap) (locs : List Loc), k < K → (k < 2 ^ N 0 0) → (∀ T, k < T → T < 2 ^ N 0 0 → τ 7 (4096 * r + T) = ln_b (ln_lf N r T)) → (∀ T, T ≤ k → τ 7 (4096 * r + T) = ln_b (ln_ft N r T)) → (∀ i, i < 4096 * r ∨ 4096 * r + 4096 ≤ i → τ 7 i = σ 7 i) → (∀ c, c ≠ 7 → τ c = τ5 c) → va_P D ln_cl (MW a g τ) H → va_D A (MW a g τ) → va_S A sta.heap H locs → ∀ ls : Array Slot, lv_has ls 6 [(0, .ref (a 0)), (1, .int (nI r)), (2, .int (nI (4096 * r))), (3, .int (nI k))] → W prg l env rum sta mid args below meth cod H locs 0 0 Q0 (F0 mid 53 ls []) := by
            intro K
            induction K with
            | zero => intro k τ H locs hm; exact absurd hm (Nat.not_lt_zero _)
            | succ K ih53 =>
              intro k τ H locs hm53 hk hA hB h7 ho hP hDw hSw ls hl
              refine lv_iload_n X.1 X.2.1 dX10_findForts_53 rfl (lv_at hl 3 rfl) ?_
              refine rn_le0 X (ln_31 (show k < 4096 by omega)) (tgt := 130) dX10_findForts_54 (by decide) (fun h54 => ?_) (fun h54 => ?_)
              · skip
                subst hQ0
                exact ln_retV X hr hlk hP hSw (by subst h54; have hTT : ln_mT N τ (6 + r) := (by rw [ln_mT_f hr2]; intro T hT2; by_cases e : T = 0; (· subst e; rw [hB 0 (Nat.le_refl 0), ln_ft_0, ln_lf_0]); (· exact hA T (by omega) hT2)); exact ⟨hN5.of (by rw [ho 0 (by decide)]) (fun c h1 h2 => ho c (by omega)), ln_MK_put hK2 (by omega) hK3 (by rw [ho 0 (by decide)]; exact h51) (fun _ => hTT) (fun k hk h => ln_mT_fo hW hk h7 (fun c h1 h2 => (ho c h2).trans (ho5 c h1)) h), hTT, fun c h1 h2 => (ho c h2).trans (ho5 c h1)⟩) dX10_findForts_130
              · skip
                refine lv_aload_n X.1 X.2.1 dX10_findForts_57 rfl (lv_at hl 0 rfl) ?_
                refine gM_0_9 X hP mF_X10_28 dX10_findForts_58 ?_
                refine lv_iload_n X.1 X.2.1 dX10_findForts_61 rfl (lv_at hl 2 rfl) ?_
                refine lv_iload_n X.1 X.2.1 dX10_findForts_62 rfl (lv_at hl 3 rfl) ?_
                refine rn_add X dX10_findForts_63 ?_
                refine lM_7 X hP (by omega) (v := ln_b (ln_ft N r k)) (hB k (Nat.le_refl k)) dX10_findForts_64 ?_
                refine lv_istore (lv' := [(4, .int (ln_b (ln_ft N r k))), (0, .ref (a 0)), (1, .int (nI r)), (2, .int (nI (4096 * r))), (3, .int (nI k))]) X.1 X.2.1 dX10_findForts_65 hl (by decide) rfl (fun ls hl => ?_)
                refine lv_iload_n X.1 X.2.1 dX10_findForts_67 rfl (lv_at hl 4 rfl) ?_
                refine lv_iconst (v := nI 1) X.1 X.2.1 dX10_findForts_68 (by decide) ?_
                refine rn_sub X (by omega) dX10_findForts_69 ?_
                refine lv_iload_n X.1 X.2.1 dX10_findForts_70 rfl (lv_at hl 4 rfl) ?_
                refine rn_and X dX10_findForts_71 ?_
                refine lv_istore (lv' := [(5, .int (nI ((k - 1) &&& k))), (4, .int (ln_b (ln_ft N r k))), (0, .ref (a 0)), (1, .int (nI r)), (2, .int (nI (4096 * r))), (3, .int (nI k))]) X.1 X.2.1 dX10_findForts_72 hl (by decide) rfl (fun ls hl => ?_)
                have L74 : ∀ (K : Nat) (q : Nat) (b : Bool), q < K → (ln_sb q k ∧ q < k) → (b = true → ln_ft N r k = true ∧ ∀ P, q < P → P < k → P ≠ 0 → P &&& k = P → ln_ft N r P = false) → (b = false → ln_lf N r k = false) → ∀ ls : Array Slot, lv_has ls 6 [(0, .ref (a 0)), (1, .int (nI r)), (2, .int (nI (4096 * r))), (3, .int (nI k)), (4, .int (ln_b b)), (5, .int (nI q))] → W prg l env rum sta mid args below meth cod H locs 0 0 Q0 (F0 mid 74 ls []) := by
                  intro K
                  induction K with
                  | zero => intro q b hm; exact absurd hm (Nat.not_lt_zero _)
                  | succ K ih74 =>
                    intro q b hm74 hq hb1 hb2 ls hl
                    refine lv_iload X.1 X.2.1 dX10_findForts_74 (lv_at hl 5 rfl) ?_
                    refine rn_le0 X (ln_31 (show q < 4096 by omega)) (tgt := 114) dX10_findForts_76 (by decide) (fun h76 => ?_) (fun h76 => ?_)
                    · skip
                      have hlf : ln_lf N r k = b := ln_bool_eq (fun hbb => by first | (rw [hbb] at h81; exact absurd h81 (by decide)) | (have z := hb1 hbb; rw [show q = 0 by omega] at z; exact ln_lf_of z)) hb2
                      refine lv_aload_n X.1 X.2.1 dX10_findForts_114 rfl (lv_at hl 0 rfl) ?_
                      refine gM_0_9 X hP mF_X10_28 dX10_findForts_115 ?_
                      refine lv_iload_n X.1 X.2.1 dX10_findForts_118 rfl (lv_at hl 2 rfl) ?_
                      refine lv_iload_n X.1 X.2.1 dX10_findForts_119 rfl (lv_at hl 3 rfl) ?_
                      refine rn_add X dX10_findForts_120 ?_
                      refine lv_iload X.1 X.2.1 dX10_findForts_121 (lv_at hl 4 rfl) ?_
                      refine sM_7 X hP hDw hSw (by omega) (ln_b_zar _) dX10_findForts_123 (fun H locs hP hDw hSw => ?_)
                      obtain ⟨τ2, hτ2⟩ : ∃ z : ln_S, z = (ln_up τ 7 (upd (τ 7) (4096 * r + k) (ln_b b))) := ⟨_, rfl⟩
                      rw [← hτ2] at hP hDw
                      refine lv_iinc (v := nI (k - 1)) (lv' := [(3, .int (nI (k - 1))), (0, .ref (a 0)), (1, .int (nI r)), (2, .int (nI (4096 * r))), (4, .int (ln_b b)), (5, .int (nI q))]) X.1 X.2.1 dX10_findForts_124 hl (k := 3) rfl (rn_inm (by omega)) (by decide) rfl (fun ls hl => ?_)
                      refine lv_goto (tgt := 53) X.1 X.2.1 dX10_findForts_127 (by decide) ?_
                      exact ih53 (k - 1) τ2 H locs (by omega) (by omega) (fun T h1 h2 => by rw [hτ2, ln_up_s]; by_cases e : T = k; (· subst e; rw [ln_upd_s, hlf]); (· rw [ln_upd_n (by omega)]; exact hA T (by omega) h2)) (fun T h1 => by rw [hτ2, ln_up_s, ln_upd_n (by omega)]; exact hB T (by omega)) (fun i hi => by rw [hτ2, ln_up_s, ln_upd_n (by omega)]; exact h7 i hi) (fun c hc => by rw [hτ2, ln_up_n _ _ hc]; exact ho c hc) hP hDw hSw ls (lv_sub hl [1, 2, 3, 0] rfl)
                    · skip
                      refine lv_iload X.1 X.2.1 dX10_findForts_79 (lv_at hl 4 rfl) ?_
                      refine rn_eqB X (tgt := 114) dX10_findForts_81 (by decide) (fun h81 => ?_) (fun h81 => ?_)
                      · skip
                        have hlf : ln_lf N r k = b := ln_bool_eq (fun hbb => by first | (rw [hbb] at h81; exact absurd h81 (by decide)) | (have z := hb1 hbb; rw [show q = 0 by omega] at z; exact ln_lf_of z)) hb2
                        refine lv_aload_n X.1 X.2.1 dX10_findForts_114 rfl (lv_at hl 0 rfl) ?_
                        refine gM_0_9 X hP mF_X10_28 dX10_findForts_115 ?_
                        refine lv_iload_n X.1 X.2.1 dX10_findForts_118 rfl (lv_at hl 2 rfl) ?_
                        refine lv_iload_n X.1 X.2.1 dX10_findForts_119 rfl (lv_at hl 3 rfl) ?_
                        refine rn_add X dX10_findForts_120 ?_
                        refine lv_iload X.1 X.2.1 dX10_findForts_121 (lv_at hl 4 rfl) ?_
                        refine sM_7 X hP hDw hSw (by omega) (ln_b_zar _) dX10_findForts_123 (fun H locs hP hDw hSw => ?_)
                        obtain ⟨τ2, hτ2⟩ : ∃ z : ln_S, z = (ln_up τ 7 (upd (τ 7) (4096 * r + k) (ln_b b))) := ⟨_, rfl⟩
                        rw [← hτ2] at hP hDw
                        refine lv_iinc (v := nI (k - 1)) (lv' := [(3, .int (nI (k - 1))), (0, .ref (a 0)), (1, .int (nI r)), (2, .int (nI (4096 * r))), (4, .int (ln_b b)), (5, .int (nI q))]) X.1 X.2.1 dX10_findForts_124 hl (k := 3) rfl (rn_inm (by omega)) (by decide) rfl (fun ls hl => ?_)
                        refine lv_goto (tgt := 53) X.1 X.2.1 dX10_findForts_127 (by decide) ?_
                        exact ih53 (k - 1) τ2 H locs (by omega) (by omega) (fun T h1 h2 => by rw [hτ2, ln_up_s]; by_cases e : T = k; (· subst e; rw [ln_upd_s, hlf]); (· rw [ln_upd_n (by omega)]; exact hA T (by omega) h2)) (fun T h1 => by rw [hτ2, ln_up_s, ln_upd_n (by omega)]; exact hB T (by omega)) (fun i hi => by rw [hτ2, ln_up_s, ln_upd_n (by omega)]; exact h7 i hi) (fun c hc => by rw [hτ2, ln_up_n _ _ hc]; exact ho c hc) hP hDw hSw ls (lv_sub hl [1, 2, 3, 0] rfl)
                      · skip
                        refine lv_aload_n X.1 X.2.1 dX10_findForts_84 rfl (lv_at hl 0 rfl) ?_
                        refine gM_0_9 X hP mF_X10_28 dX10_findForts_85 ?_
                        refine lv_iload_n X.1 X.2.1 dX10_findForts_88 rfl (lv_at hl 2 rfl) ?_
                        refine lv_iload X.1 X.2.1 dX10_findForts_89 (lv_at hl 5 rfl) ?_
                        refine rn_add X dX10_findForts_91 ?_
                        refine lM_7 X hP (by omega) (v := ln_b (ln_ft N r q)) (hB q (by omega)) dX10_findForts_92 ?_
                        refine rn_neB X (tgt := 100) dX10_findForts_93 (by decide) (fun h93 => ?_) (fun h93 => ?_)
                        · skip
                          refine lv_iconst (v := ln_b false) X.1 X.2.1 dX10_findForts_100 (by decide) ?_
                          refine lv_istore (lv' := [(4, .int (ln_b false)), (0, .ref (a 0)), (1, .int (nI r)), (2, .int (nI (4096 * r))), (3, .int (nI k)), (5, .int (nI q))]) X.1 X.2.1 dX10_findForts_101 hl (by decide) rfl (fun ls hl => ?_)
                          refine lv_iload X.1 X.2.1 dX10_findForts_103 (lv_at hl 5 rfl) ?_
                          refine lv_iconst (v := nI 1) X.1 X.2.1 dX10_findForts_105 (by decide) ?_
                          refine rn_sub X (by omega) dX10_findForts_106 ?_
                          refine lv_iload_n X.1 X.2.1 dX10_findForts_107 rfl (lv_at hl 4 rfl) ?_
                          refine rn_and X dX10_findForts_108 ?_
                          refine lv_istore (lv' := [(5, .int (nI ((q - 1) &&& k))), (4, .int (ln_b false)), (0, .ref (a 0)), (1, .int (nI r)), (2, .int (nI (4096 * r))), (3, .int (nI k))]) X.1 X.2.1 dX10_findForts_109 hl (by decide) rfl (fun ls hl => ?_)
                          refine lv_goto (tgt := 74) X.1 X.2.1 dX10_findForts_111 (by decide) ?_
                          exact ih74 _ _ (by have := ln_part_lt k (show 0 < q by omega); omega) ⟨ln_part_sb _ _, by have := ln_part_lt k (show 0 < q by omega); omega⟩ (by first | (intro z; exact absurd z (by decide)) | (intro _; exact ⟨(hb1 h81).1, fun P h1 h2 h3 h4 => by by_cases e : q < P; (· exact (hb1 h81).2 P e h2 h3 h4); (· by_cases e2 : P = q; (· subst e2; exact h93); (· exact absurd h1 (by have := ln_part_dn k q P (ln_sb_and.mpr hq.1) (by omega) h4 (by omega); omega)))⟩)) (by first | (intro z; exact absurd z (by decide)) | (intro _; exact ln_lf_no2 hq.2 (by omega) (ln_sb_and.mpr hq.1) h93)) ls (lv_sub hl [2, 3, 4, 5, 1, 0] rfl)
                        · skip
                          refine lv_iconst (v := ln_b true) X.1 X.2.1 dX10_findForts_96 (by decide) ?_
                          refine lv_goto (tgt := 101) X.1 X.2.1 dX10_findForts_97 (by decide) ?_
                          refine lv_istore (lv' := [(4, .int (ln_b true)), (0, .ref (a 0)), (1, .int (nI r)), (2, .int (nI (4096 * r))), (3, .int (nI k)), (5, .int (nI q))]) X.1 X.2.1 dX10_findForts_101 hl (by decide) rfl (fun ls hl => ?_)
                          refine lv_iload X.1 X.2.1 dX10_findForts_103 (lv_at hl 5 rfl) ?_
                          refine lv_iconst (v := nI 1) X.1 X.2.1 dX10_findForts_105 (by decide) ?_
                          refine rn_sub X (by omega) dX10_findForts_106 ?_
                          refine lv_iload_n X.1 X.2.1 dX10_findForts_107 rfl (lv_at hl 4 rfl) ?_
                          refine rn_and X dX10_findForts_108 ?_
                          refine lv_istore (lv' := [(5, .int (nI ((q - 1) &&& k))), (4, .int (ln_b true)), (0, .ref (a 0)), (1, .int (nI r)), (2, .int (nI (4096 * r))), (3, .int (nI k))]) X.1 X.2.1 dX10_findForts_109 hl (by decide) rfl (fun ls hl => ?_)
                          refine lv_goto (tgt := 74) X.1 X.2.1 dX10_findForts_111 (by decide) ?_
                          exact ih74 _ _ (by have := ln_part_lt k (show 0 < q by omega); omega) ⟨ln_part_sb _ _, by have := ln_part_lt k (show 0 < q by omega); omega⟩ (by first | (intro z; exact absurd z (by decide)) | (intro _; exact ⟨(hb1 h81).1, fun P h1 h2 h3 h4 => by by_cases e : q < P; (· exact (hb1 h81).2 P e h2 h3 h4); (· by_cases e2 : P = q; (· subst e2; exact h93); (· exact absurd h1 (by have := ln_part_dn k q P (ln_sb_and.mpr hq.1) (by omega) h4 (by omega); omega)))⟩)) (by first | (intro z; exact absurd z (by decide)) | (intro _; exact ln_lf_no2 hq.2 (by omega) (ln_sb_and.mpr hq.1) h93)) ls (lv_sub hl [2, 3, 4, 5, 1, 0] rfl)
                exact L74 _ _ _ (Nat.lt_succ_self _) ⟨ln_part_sb _ _, ln_part_lt _ (by omega)⟩ (fun h => ⟨h, fun P h1 h2 h3 h4 => absurd h1 (by have := ln_part_dn k k P (Nat.and_self k) (by omega) h4 h2; omega)⟩) (fun h => ln_lf_no h) ls (lv_sub hl [2, 3, 4, 5, 1, 0] rfl)
          exact L53 _ _ τ H locs (Nat.lt_succ_self _) (ln_all_lt _) (fun T h1 h2 => absurd h1 (by omega)) (fun T h => hT T (by have := ln_all_lt (N 0 0); omega)) h7 ho hP hDw hSw ls (lv_sub hl [1, 2, 3, 0] rfl)
        · skip
          refine lv_aload_n X.1 X.2.1 dX10_findForts_28 rfl (lv_at hl 0 rfl) ?_
          refine gM_0_9 X hP mF_X10_28 dX10_findForts_29 ?_
          refine lv_iload_n X.1 X.2.1 dX10_findForts_32 rfl (lv_at hl 2 rfl) ?_
          refine lv_iload_n X.1 X.2.1 dX10_findForts_33 rfl (lv_at hl 3 rfl) ?_
          refine rn_add X dX10_findForts_34 ?_
          refine lv_aload_n X.1 X.2.1 dX10_findForts_35 rfl (lv_at hl 0 rfl) ?_
          refine lv_iload_n X.1 X.2.1 dX10_findForts_36 rfl (lv_at hl 1 rfl) ?_
          refine lv_iload_n X.1 X.2.1 dX10_findForts_37 rfl (lv_at hl 3 rfl) ?_
          refine ln_vR X (c_X10_isFort l D g a τ 3 N hW hN r k (by omega) (show k < 2 ^ N 0 0 by omega) (Nat.le_refl _)) hP 0 rfl rfl mM_X10_104 Y_X10_isFort rfl (by omega) hl.1 rfl (Nat.le_of_ble_eq_true rfl) dX10_findForts_38 ⟨Nat.zero_le _, Nat.zero_le _⟩ (fun r38 hr38 => ?_)
          subst hr38
          refine sM_7 X hP hDw hSw (by omega) (ln_b_zar _) dX10_findForts_41 (fun H locs hP hDw hSw => ?_)
          obtain ⟨τ1, hτ1⟩ : ∃ z : ln_S, z = (ln_up τ 7 (upd (τ 7) (4096 * r + k) (ln_b (ln_ft N r k)))) := ⟨_, rfl⟩
          rw [← hτ1] at hP hDw
          refine lv_iinc (v := nI (k + 1)) (lv' := [(3, .int (nI (k + 1))), (0, .ref (a 0)), (1, .int (nI r)), (2, .int (nI (4096 * r)))]) X.1 X.2.1 dX10_findForts_42 hl (k := 3) rfl rn_inc (by decide) rfl (fun ls hl => ?_)
          refine lv_goto (tgt := 20) X.1 X.2.1 dX10_findForts_45 (by decide) ?_
          exact ih20 (k + 1) τ1 H locs (by omega) (by omega) (fun T hT2 => by rw [hτ1, ln_up_s]; by_cases e : T = k; (· subst e; exact ln_upd_s); (· rw [ln_upd_n (by omega)]; exact hT T (by omega))) (fun i hi => by rw [hτ1, ln_up_s, ln_upd_n (by omega)]; exact h7 i hi) (fun c hc => by rw [hτ1, ln_up_n _ _ hc]; exact ho c hc) hP hDw hSw ls (lv_sub hl [1, 2, 3, 0] rfl)
    exact L20 _ 0 τ5 H locs (Nat.lt_succ_self _) (Nat.zero_le _) (fun T h => absurd h (Nat.not_lt_zero T)) (fun i _ => by rw [ho5 7 (by decide)]) (fun c _ => rfl) hP hDw hSw ls (lv_sub hl [2, 3, 1, 0] rfl)
  · skip
    subst hQ0
    exact ln_retV X hr hlk hP hSw ⟨hN5, ln_MK_put hK2 (by omega) hK3 h51 (fun _ => (hK3 _ hEr h8).of (fun c hc => ho5 c (by omega))) (fun k _ hk => hk.of (fun c hc => ho5 c (by omega))), (hK3 _ hEr h8).of (fun c hc => ho5 c (by omega)), fun c h1 _ => ho5 c h1⟩ dX10_findForts_11
set_option maxHeartbeats 4000000 in
set_option maxRecDepth 100000 in
theorem c_X10_forts (l : Launch) (D : va_G) (g : Nat → ClassId) (a : Nat → Nat) (σ : ln_S) (d : Nat) (N : ln_N) (hI : ln_MI N σ) (x y : Int32) (hd : 5 ≤ d) : ln_U l D g (MW a g) yX10_forts (.code yX10_forts cX10_forts 6 (some .int)) d [.ref (a 0), .int x, .int y] σ (fun z τ => ln_MI N τ ∧ ln_oFk N x y z) := by
  obtain ⟨hW, hN, hK⟩ := hI
  obtain ⟨E, hE99⟩ : ∃ E, E = 99 := ⟨_, rfl⟩
  rw [← hE99] at hK
  have hN12 := hW.n12
  have hp12 := hW.p12
  have hs1 := ln_sub1 (N 0 0)
  refine ln_ofU (by decide +kernel) (Nat.le_of_ble_eq_true rfl) (fun prg env rum sta mid args below meth cod ls A hr hlk X hA hP hDw hSw hl => ?_)
  have hl : lv_has ls 6 [(0, .ref (a 0)), (1, .int x), (2, .int y)] := hl
  generalize hQ0 : (MQ below (va_Qi (fun z τ => ln_MI N τ ∧ ln_oFk N x y z) (fun τ t => va_P D ln_cl (MW a g τ) t.heap) A) args sta 0 0 A) = Q0
  obtain ⟨H, hH⟩ : ∃ H, H = sta.heap := ⟨_, rfl⟩
  obtain ⟨locs, hlo⟩ : ∃ x : List Loc, x = [] := ⟨_, rfl⟩
  rw [← hH] at hP
  have hSw : va_S A sta.heap H locs := by rw [hH, hlo]; exact hSw
  have goal : W prg l env rum sta mid args below meth cod H locs 0 0 Q0 (F0 mid 0 ls []) := ?_
  · rw [hH, hlo] at goal; exact goal
  clear hlo
  refine lv_iload_n X.1 X.2.1 dX10_forts_0 rfl (lv_at hl 1 rfl) ?_
  refine lv_iconst (v := nI 0) X.1 X.2.1 dX10_forts_1 (by decide) ?_
  refine lv_iconst (v := nI 1) X.1 X.2.1 dX10_forts_2 (by decide) ?_
  refine ln_sR X (c_X10_in l D g 0 x (nI 0) (nI 1) (Nat.le_refl _)) ln_nil mM_X10_52 Y_X10_in rfl (by omega) hl.1 rfl (Nat.le_of_ble_eq_true rfl) dX10_forts_3 ⟨Nat.zero_le _, Nat.zero_le _⟩ (fun r3 hr3 => ?_)
  subst hr3
  refine rn_top (y := ln_b (ln_inr x 2)) (by rw [ln_in2]) ?_
  refine rn_eqB X (tgt := 13) dX10_forts_6 (by decide) (fun h6 => ?_) (fun h6 => ?_)
  · skip
    refine lv_bipush (v := ((-2))) X.1 X.2.1 dX10_forts_13 (by decide) ?_
    subst hQ0
    exact ln_retU X hr hlk hP hSw rfl ⟨⟨hW, hN, by rw [hE99] at hK; exact hK⟩, Or.inl ⟨by first | exact Or.inl h6 | exact Or.inr (Int32.not_le.mp h10), rfl⟩⟩ dX10_forts_15
  · skip
    obtain ⟨r, hr2, rfl⟩ := ln_inr_t (by decide) h6
    refine lv_iload_n X.1 X.2.1 dX10_forts_9 rfl (lv_at hl 2 rfl) ?_
    refine lv_if_ge (tgt := 16) X.1 X.2.1 dX10_forts_10 (by decide) (fun h10 => ?_) (fun h10 => ?_)
    · skip
      obtain ⟨kk, hkk, rfl⟩ := nI_of (show ¬ y < 0 from Int32.not_lt.mpr h10)
      refine lv_aload_n X.1 X.2.1 dX10_forts_16 rfl (lv_at hl 0 rfl) ?_
      refine lv_iload_n X.1 X.2.1 dX10_forts_17 rfl (lv_at hl 1 rfl) ?_
      refine ln_vV X (MW_ad a g) hA (c_X10_findForts l D g a σ 4 N hW hN E hK r hr2 (by omega) (Nat.le_refl _)) hP hDw hSw 0 rfl rfl mM_X10_107 Y_X10_findForts rfl (by omega) hl.1 rfl (Nat.le_of_ble_eq_true rfl) dX10_forts_18 ⟨Nat.zero_le _, Nat.zero_le _⟩ (fun τ18 H locs hr18 hP hDw hSw => ?_)
      obtain ⟨hN, hK, hTf, hff⟩ := hr18
      rw [ln_mT_f hr2] at hTf
      refine lv_iload_n X.1 X.2.1 dX10_forts_21 rfl (lv_at hl 2 rfl) ?_
      refine lv_istore_n (lv' := [(3, .int (nI kk)), (0, .ref (a 0)), (1, .int (nI r)), (2, .int (nI kk))]) X.1 X.2.1 dX10_forts_22 rfl hl (by decide) rfl (fun ls hl => ?_)
      refine lv_iconst (v := nI 1) X.1 X.2.1 dX10_forts_23 (by decide) ?_
      refine lv_istore (lv' := [(4, .int (nI 1)), (3, .int (nI kk)), (0, .ref (a 0)), (1, .int (nI r)), (2, .int (nI kk))]) X.1 X.2.1 dX10_forts_24 hl (by decide) rfl (fun ls hl => ?_)
      have L26 : ∀ (K : Nat) (z : Nat) (m : Nat), N 0 0 + 1 - z < K → (1 ≤ z ∧ z ≤ N 0 0 + 1) → (m + ln_cS N r z = kk) → ∀ ls : Array Slot, lv_has ls 6 [(0, .ref (a 0)), (1, .int (nI r)), (3, .int (nI m)), (4, .int (nI z))] → W prg l env rum sta mid args below meth cod H locs 0 0 Q0 (F0 mid 26 ls []) := by
        intro K
        induction K with
        | zero => intro z m hm; exact absurd hm (Nat.not_lt_zero _)
        | succ K ih26 =>
          intro z m hm26 hz hm ls hl
          refine lv_iload X.1 X.2.1 dX10_forts_26 (lv_at hl 3 rfl) ?_
          refine lv_aload_n X.1 X.2.1 dX10_forts_28 rfl (lv_at hl 0 rfl) ?_
          refine gM_0_0 X hP (v := nI (N 0 0)) hN.n mF_X10_48 dX10_forts_29 ?_
          refine rn_gt X (by omega) (by omega) (tgt := 98) dX10_forts_32 (by decide) (fun h32 => ?_) (fun h32 => ?_)
          · skip
            refine lv_iconst (v := ((-1))) X.1 X.2.1 dX10_forts_98 (by decide) ?_
            subst hQ0
            exact ln_retU X hr hlk hP hSw rfl ⟨⟨hW, hN, by rw [hE99] at hK; exact hK⟩, Or.inr ⟨r, kk, hr2, hkk, rfl, rfl, Or.inr ⟨rfl, by rw [show N 0 0 + 1 = z by omega]; omega⟩⟩⟩ dX10_forts_99
          · skip
            refine lv_iconst (v := nI 1) X.1 X.2.1 dX10_forts_35 (by decide) ?_
            refine lv_istore (lv' := [(5, .int (nI 1)), (0, .ref (a 0)), (1, .int (nI r)), (3, .int (nI m)), (4, .int (nI z))]) X.1 X.2.1 dX10_forts_36 hl (by decide) rfl (fun ls hl => ?_)
            have L38 : ∀ (K : Nat) (s : Nat) (m : Nat), 2 ^ N 0 0 - s < K → (1 ≤ s ∧ s ≤ 2 ^ N 0 0) → (m + (ln_cS N r z + ln_ct (ln_cz N r z) s) = kk) → ∀ ls : Array Slot, lv_has ls 6 [(0, .ref (a 0)), (1, .int (nI r)), (3, .int (nI m)), (4, .int (nI z)), (5, .int (nI s))] → W prg l env rum sta mid args below meth cod H locs 0 0 Q0 (F0 mid 38 ls []) := by
              intro K
              induction K with
              | zero => intro s m hm; exact absurd hm (Nat.not_lt_zero _)
              | succ K ih38 =>
                intro s m hm38 hs hm2 ls hl
                refine lv_iload X.1 X.2.1 dX10_forts_38 (lv_at hl 4 rfl) ?_
                refine lv_aload_n X.1 X.2.1 dX10_forts_40 rfl (lv_at hl 0 rfl) ?_
                refine ln_vR X (c_X10_all l D g a τ18 0 N hW hN (Nat.le_refl _)) hP 0 rfl rfl mM_X10_87 Y_X10_all rfl (by omega) hl.1 rfl (Nat.le_of_ble_eq_true rfl) dX10_forts_41 ⟨Nat.zero_le _, Nat.zero_le _⟩ (fun r41 hr41 => ?_)
                subst hr41
                refine rn_gt X (by omega) (ln_31 (Nat.lt_of_lt_of_le (Nat.sub_lt (ln_pos2 _) (by decide)) hp12)) (tgt := 92) dX10_forts_44 (by decide) (fun h44 => ?_) (fun h44 => ?_)
                · skip
                  refine lv_iinc (v := nI (z + 1)) (lv' := [(4, .int (nI (z + 1))), (0, .ref (a 0)), (1, .int (nI r)), (3, .int (nI m)), (5, .int (nI s))]) X.1 X.2.1 dX10_forts_92 hl (k := 3) rfl rn_inc (by decide) rfl (fun ls hl => ?_)
                  refine lv_goto (tgt := 26) X.1 X.2.1 dX10_forts_95 (by decide) ?_
                  exact ih26 (z + 1) _ (by omega) (by omega) (by rw [ln_cS_s, ← hm2, show s = 2 ^ N 0 0 by omega]) ls (lv_sub hl [1, 2, 3, 0] rfl)
                · skip
                  refine lv_aload_n X.1 X.2.1 dX10_forts_47 rfl (lv_at hl 0 rfl) ?_
                  refine gM_0_9 X hP mF_X10_28 dX10_forts_48 ?_
                  refine lv_sipush (v := nI 4096) X.1 X.2.1 dX10_forts_51 (by decide) ?_
                  refine lv_iload_n X.1 X.2.1 dX10_forts_54 rfl (lv_at hl 1 rfl) ?_
                  refine rn_mul X dX10_forts_55 ?_
                  refine lv_iload X.1 X.2.1 dX10_forts_56 (lv_at hl 4 rfl) ?_
                  refine rn_add X dX10_forts_58 ?_
                  refine lM_7 X hP (by omega) (v := ln_b (ln_lf N r s)) (hTf s (by omega)) dX10_forts_59 ?_
                  refine rn_eqB X (tgt := 86) dX10_forts_60 (by decide) (fun h60 => ?_) (fun h60 => ?_)
                  · skip
                    refine lv_iinc (v := nI (s + 1)) (lv' := [(5, .int (nI (s + 1))), (0, .ref (a 0)), (1, .int (nI r)), (3, .int (nI m)), (4, .int (nI z))]) X.1 X.2.1 dX10_forts_86 hl (k := 4) rfl rn_inc (by decide) rfl (fun ls hl => ?_)
                    refine lv_goto (tgt := 38) X.1 X.2.1 dX10_forts_89 (by decide) ?_
                    exact ih38 (s + 1) _ (by omega) ⟨by omega, by omega⟩ (by first | (rw [ln_ct_f (ln_cz_f h60)]; exact hm2) | (rw [ln_ct_f (ln_cz_g h70)]; exact hm2) | (rw [ln_ct_t (ln_cz_t h60 h70)]; omega)) ls (lv_sub hl [1, 2, 3, 4, 0] rfl)
                  · skip
                    refine lv_iload X.1 X.2.1 dX10_forts_63 (lv_at hl 4 rfl) ?_
                    refine ln_sR X (c_X10_ones l D g 0 s (ln_31 (show s < 4096 by omega)) (Nat.le_refl _)) ln_nil mM_X10_111 Y_X10_ones rfl (by omega) hl.1 rfl (Nat.le_of_ble_eq_true rfl) dX10_forts_65 ⟨Nat.zero_le _, Nat.zero_le _⟩ (fun r65 hr65 => ?_)
                    subst hr65
                    refine lv_iload X.1 X.2.1 dX10_forts_68 (lv_at hl 3 rfl) ?_
                    refine rn_eq X (ln_31 (Nat.lt_of_le_of_lt (ln_pc_le _) (by decide))) (by omega) (tgt := 76) dX10_forts_70 (by decide) (fun h70 => ?_) (fun h70 => ?_)
                    · skip
                      refine lv_iload_n X.1 X.2.1 dX10_forts_76 rfl (lv_at hl 2 rfl) ?_
                      refine rn_ne0 X (by omega) (tgt := 83) dX10_forts_77 (by decide) (fun h77 => ?_) (fun h77 => ?_)
                      · skip
                        refine lv_iinc (v := nI (m - 1)) (lv' := [(3, .int (nI (m - 1))), (0, .ref (a 0)), (1, .int (nI r)), (4, .int (nI z)), (5, .int (nI s))]) X.1 X.2.1 dX10_forts_83 hl (k := 2) rfl (rn_inm (by omega)) (by decide) rfl (fun ls hl => ?_)
                        refine lv_iinc (v := nI (s + 1)) (lv' := [(5, .int (nI (s + 1))), (3, .int (nI (m - 1))), (0, .ref (a 0)), (1, .int (nI r)), (4, .int (nI z))]) X.1 X.2.1 dX10_forts_86 hl (k := 4) rfl rn_inc (by decide) rfl (fun ls hl => ?_)
                        refine lv_goto (tgt := 38) X.1 X.2.1 dX10_forts_89 (by decide) ?_
                        exact ih38 (s + 1) _ (by omega) ⟨by omega, by omega⟩ (by first | (rw [ln_ct_f (ln_cz_f h60)]; exact hm2) | (rw [ln_ct_f (ln_cz_g h70)]; exact hm2) | (rw [ln_ct_t (ln_cz_t h60 h70)]; omega)) ls (lv_sub hl [2, 3, 1, 4, 0] rfl)
                      · skip
                        refine lv_iload X.1 X.2.1 dX10_forts_80 (lv_at hl 4 rfl) ?_
                        subst hQ0
                        exact ln_retU X hr hlk hP hSw rfl ⟨⟨hW, hN, by rw [hE99] at hK; exact hK⟩, Or.inr ⟨r, kk, hr2, hkk, rfl, rfl, Or.inl ⟨z, s, by omega, by omega, ln_cz_t h60 h70, by omega, rfl⟩⟩⟩ dX10_forts_82
                    · skip
                      refine lv_goto (tgt := 86) X.1 X.2.1 dX10_forts_73 (by decide) ?_
                      refine lv_iinc (v := nI (s + 1)) (lv' := [(5, .int (nI (s + 1))), (0, .ref (a 0)), (1, .int (nI r)), (3, .int (nI m)), (4, .int (nI z))]) X.1 X.2.1 dX10_forts_86 hl (k := 4) rfl rn_inc (by decide) rfl (fun ls hl => ?_)
                      refine lv_goto (tgt := 38) X.1 X.2.1 dX10_forts_89 (by decide) ?_
                      exact ih38 (s + 1) _ (by omega) ⟨by omega, by omega⟩ (by first | (rw [ln_ct_f (ln_cz_f h60)]; exact hm2) | (rw [ln_ct_f (ln_cz_g h70)]; exact hm2) | (rw [ln_ct_t (ln_cz_t h60 h70)]; omega)) ls (lv_sub hl [1, 2, 3, 4, 0] rfl)
            exact L38 _ 1 _ (Nat.lt_succ_self _) ⟨Nat.le_refl _, ln_pos2 _⟩ (by rw [ln_ct_1]; exact hm) ls (lv_sub hl [1, 2, 3, 4, 0] rfl)
      exact L26 _ 1 _ (Nat.lt_succ_self _) ⟨Nat.le_refl _, by omega⟩ (by rw [ln_cS_1 hW r]; rfl) ls (lv_sub hl [2, 3, 1, 0] rfl)
    · skip
      refine lv_bipush (v := ((-2))) X.1 X.2.1 dX10_forts_13 (by decide) ?_
      subst hQ0
      exact ln_retU X hr hlk hP hSw rfl ⟨⟨hW, hN, by rw [hE99] at hK; exact hK⟩, Or.inl ⟨by first | exact Or.inl h6 | exact Or.inr (Int32.not_le.mp h10), rfl⟩⟩ dX10_forts_15
set_option maxHeartbeats 4000000 in
set_option maxRecDepth 100000 in
theorem c_X10_apart (l : Launch) (D : va_G) (g : Nat → ClassId) (a : Nat → Nat) (σ : ln_S) (d : Nat) (N : ln_N) (hI : ln_MI N σ) (x : Int32) (hd : 5 ≤ d) : ln_U l D g (MW a g) yX10_apart (.code yX10_apart cX10_apart 6 (some .int)) d [.ref (a 0), .int x] σ (fun z τ => ln_MI N τ ∧ ln_oAp N x z) := by
  obtain ⟨hW, hN, hK⟩ := hI
  obtain ⟨E, hE99⟩ : ∃ E, E = 99 := ⟨_, rfl⟩
  rw [← hE99] at hK
  have hN12 := hW.n12
  have hp12 := hW.p12
  have hs1 := ln_sub1 (N 0 0)
  refine ln_ofU (by decide +kernel) (Nat.le_of_ble_eq_true rfl) (fun prg env rum sta mid args below meth cod ls A hr hlk X hA hP hDw hSw hl => ?_)
  have hl : lv_has ls 6 [(0, .ref (a 0)), (1, .int x)] := hl
  generalize hQ0 : (MQ below (va_Qi (fun z τ => ln_MI N τ ∧ ln_oAp N x z) (fun τ t => va_P D ln_cl (MW a g τ) t.heap) A) args sta 0 0 A) = Q0
  obtain ⟨H, hH⟩ : ∃ H, H = sta.heap := ⟨_, rfl⟩
  obtain ⟨locs, hlo⟩ : ∃ x : List Loc, x = [] := ⟨_, rfl⟩
  rw [← hH] at hP
  have hSw : va_S A sta.heap H locs := by rw [hH, hlo]; exact hSw
  have goal : W prg l env rum sta mid args below meth cod H locs 0 0 Q0 (F0 mid 0 ls []) := ?_
  · rw [hH, hlo] at goal; exact goal
  clear hlo
  refine lv_iload_n X.1 X.2.1 dX10_apart_0 rfl (lv_at hl 1 rfl) ?_
  refine lv_iconst (v := nI 0) X.1 X.2.1 dX10_apart_1 (by decide) ?_
  refine lv_iconst (v := nI 1) X.1 X.2.1 dX10_apart_2 (by decide) ?_
  refine ln_sR X (c_X10_in l D g 0 x (nI 0) (nI 1) (Nat.le_refl _)) ln_nil mM_X10_52 Y_X10_in rfl (by omega) hl.1 rfl (Nat.le_of_ble_eq_true rfl) dX10_apart_3 ⟨Nat.zero_le _, Nat.zero_le _⟩ (fun r3 hr3 => ?_)
  subst hr3
  refine rn_top (y := ln_b (ln_inr x 2)) (by rw [ln_in2]) ?_
  refine rn_neB X (tgt := 12) dX10_apart_6 (by decide) (fun h6 => ?_) (fun h6 => ?_)
  · skip
    obtain ⟨r, hr2, rfl⟩ := ln_inr_t (by decide) h6
    refine lv_aload_n X.1 X.2.1 dX10_apart_12 rfl (lv_at hl 0 rfl) ?_
    refine lv_iload_n X.1 X.2.1 dX10_apart_13 rfl (lv_at hl 1 rfl) ?_
    refine ln_vV X (MW_ad a g) hA (c_X10_findForts l D g a σ 4 N hW hN E hK r hr2 (by omega) (Nat.le_refl _)) hP hDw hSw 0 rfl rfl mM_X10_107 Y_X10_findForts rfl (by omega) hl.1 rfl (Nat.le_of_ble_eq_true rfl) dX10_apart_14 ⟨Nat.zero_le _, Nat.zero_le _⟩ (fun τ14 H locs hr14 hP hDw hSw => ?_)
    obtain ⟨hN, hK, hTf, hff⟩ := hr14
    rw [ln_mT_f hr2] at hTf
    refine lv_aload_n X.1 X.2.1 dX10_apart_17 rfl (lv_at hl 0 rfl) ?_
    refine gM_0_10 X hP mF_X10_32 dX10_apart_18 ?_
    refine lv_iconst (v := nI 0) X.1 X.2.1 dX10_apart_21 (by decide) ?_
    refine lv_iconst (v := nI 0) X.1 X.2.1 dX10_apart_22 (by decide) ?_
    refine sM_8 X hP hDw hSw (by decide) dX10_apart_23 (fun H locs hP hDw hSw => ?_)
    obtain ⟨σ1, hσ1⟩ : ∃ z : ln_S, z = (ln_up τ14 8 (upd (τ14 8) 0 (nI 0))) := ⟨_, rfl⟩
    rw [← hσ1] at hP hDw
    refine lv_iconst (v := nI 1) X.1 X.2.1 dX10_apart_24 (by decide) ?_
    refine lv_istore_n (lv' := [(2, .int (nI 1)), (0, .ref (a 0)), (1, .int (nI r))]) X.1 X.2.1 dX10_apart_25 rfl hl (by decide) rfl (fun ls hl => ?_)
    have L26 : ∀ (K : Nat) (k : Nat) (τ : ln_S) (H : Heap) (locs : List Loc), 2 ^ N 0 0 - k < K → (1 ≤ k ∧ k ≤ 2 ^ N 0 0) → (ln_mst N r (τ 8) k) → (∀ c, c ≠ 8 → τ c = τ14 c) → va_P D ln_cl (MW a g τ) H → va_D A (MW a g τ) → va_S A sta.heap H locs → ∀ ls : Array Slot, lv_has ls 6 [(0, .ref (a 0)), (1, .int (nI r)), (2, .int (nI k))] → W prg l env rum sta mid args below meth cod H locs 0 0 Q0 (F0 mid 26 ls []) := by
      intro K
      induction K with
      | zero => intro k τ H locs hm; exact absurd hm (Nat.not_lt_zero _)
      | succ K ih26 =>
        intro k τ H locs hm26 hk hM ho hP hDw hSw ls hl
        have hN : ln_nM N τ := hN.of (by rw [ho 0 (by decide)]) (fun c h1 h2 => ho c (by omega))
        have hTf : ∀ T, T < 2 ^ N 0 0 → τ 7 (4096 * r + T) = ln_b (ln_lf N r T) := by rw [ho 7 (by decide)]; exact hTf
        refine lv_iload_n X.1 X.2.1 dX10_apart_26 rfl (lv_at hl 2 rfl) ?_
        refine lv_aload_n X.1 X.2.1 dX10_apart_27 rfl (lv_at hl 0 rfl) ?_
        refine ln_vR X (c_X10_all l D g a τ 0 N hW hN (Nat.le_refl _)) hP 0 rfl rfl mM_X10_87 Y_X10_all rfl (by omega) hl.1 rfl (Nat.le_of_ble_eq_true rfl) dX10_apart_28 ⟨Nat.zero_le _, Nat.zero_le _⟩ (fun r28 hr28 => ?_)
        subst hr28
        refine rn_gt X (by omega) (ln_31 (Nat.lt_of_lt_of_le (Nat.sub_lt (ln_pos2 _) (by decide)) hp12)) (tgt := 140) dX10_apart_31 (by decide) (fun h31 => ?_) (fun h31 => ?_)
        · skip
          obtain ⟨va, hva, hma, haa⟩ := hM (2 ^ N 0 0 - 1) (by omega)
          refine lv_aload_n X.1 X.2.1 dX10_apart_140 rfl (lv_at hl 0 rfl) ?_
          refine gM_0_10 X hP mF_X10_32 dX10_apart_141 ?_
          refine lv_aload_n X.1 X.2.1 dX10_apart_144 rfl (lv_at hl 0 rfl) ?_
          refine ln_vR X (c_X10_all l D g a τ 0 N hW hN (Nat.le_refl _)) hP 0 rfl rfl mM_X10_87 Y_X10_all rfl (by omega) hl.1 rfl (Nat.le_of_ble_eq_true rfl) dX10_apart_145 ⟨Nat.zero_le _, Nat.zero_le _⟩ (fun r145 hr145 => ?_)
          subst hr145
          refine lM_8 X hP (Nat.lt_of_lt_of_le (ln_all_lt _) hp12) (v := nI va) hma dX10_apart_148 ?_
          subst hQ0
          exact ln_retU X hr hlk hP hSw rfl ⟨⟨hW, hN, by rw [hE99] at hK; exact hK.of (by rw [ho 0 (by decide)]) (fun c h1 h2 h3 => ho c h3)⟩, Or.inr ⟨r, va, hr2, rfl, rfl, haa⟩⟩ dX10_apart_149
        · skip
          obtain ⟨l1, hlw, hl12, hlb⟩ := ln_lw_bit (show k < 4096 by omega) (show k ≠ 0 by omega)
          obtain ⟨v0, hv0, hm0, ha0⟩ := hM _ (ln_dfp_lt hlb)
          refine lv_iload_n X.1 X.2.1 dX10_apart_34 rfl (lv_at hl 2 rfl) ?_
          refine lv_iload_n X.1 X.2.1 dX10_apart_35 rfl (lv_at hl 2 rfl) ?_
          refine lv_ineg X.1 X.2.1 dX10_apart_36 ?_
          refine lv_iand X.1 X.2.1 dX10_apart_37 ?_
          refine rn_top (y := nI (2 ^ l1)) (by rw [ln_lw_ok (by omega), hlw]) ?_
          refine lv_istore_n (lv' := [(3, .int (nI (2 ^ l1))), (0, .ref (a 0)), (1, .int (nI r)), (2, .int (nI k))]) X.1 X.2.1 dX10_apart_38 rfl hl (by decide) rfl (fun ls hl => ?_)
          refine lv_aload_n X.1 X.2.1 dX10_apart_39 rfl (lv_at hl 1 rfl) ?_
          refine gM_0_10 X hP mF_X10_32 dX10_apart_40 ?_
          refine lv_iload_n X.1 X.2.1 dX10_apart_43 rfl (lv_at hl 3 rfl) ?_
          refine lv_iload_n X.1 X.2.1 dX10_apart_44 rfl (lv_at hl 0 rfl) ?_
          refine lv_iconst (v := ((-1))) X.1 X.2.1 dX10_apart_45 (by decide) ?_
          refine lv_ixor X.1 X.2.1 dX10_apart_46 ?_
          refine rn_nt X dX10_apart_47 ?_
          refine lM_8 X hP (ln_df_lt (show k < 4096 by omega)) (v := nI v0) hm0 dX10_apart_48 ?_
          refine lv_istore (lv' := [(4, .int (nI v0)), (3, .int (nI (2 ^ l1))), (0, .ref (a 0)), (1, .int (nI r)), (2, .int (nI k))]) X.1 X.2.1 dX10_apart_49 hl (by decide) rfl (fun ls hl => ?_)
          refine lv_iload_n X.1 X.2.1 dX10_apart_51 rfl (lv_at hl 4 rfl) ?_
          refine lv_istore (lv' := [(5, .int (nI k)), (4, .int (nI v0)), (3, .int (nI (2 ^ l1))), (0, .ref (a 0)), (1, .int (nI r)), (2, .int (nI k))]) X.1 X.2.1 dX10_apart_52 hl (by decide) rfl (fun ls hl => ?_)
          have L54 : ∀ (K : Nat) (q : Nat) (n : Nat), q < K → (ln_sb q k) → (v0 ≤ n ∧ n ≤ 13) → (ln_pk N r n k) → (∀ L v, ln_lf N r L = true → L.testBit l1 = true → ln_sb L k → q < L → ln_isA N r (ln_df k L) v → 1 + v ≤ n) → ∀ ls : Array Slot, lv_has ls 6 [(0, .ref (a 0)), (1, .int (nI r)), (2, .int (nI k)), (3, .int (nI (2 ^ l1))), (4, .int (nI n)), (5, .int (nI q))] → W prg l env rum sta mid args below meth cod H locs 0 0 Q0 (F0 mid 54 ls []) := by
            intro K
            induction K with
            | zero => intro q n hm; exact absurd hm (Nat.not_lt_zero _)
            | succ K ih54 =>
              intro q n hm54 hq hn hpk hall ls hl
              have hq12 : q < 4096 := Nat.lt_of_le_of_lt (ln_sb_le hq) (by omega)
              refine lv_iload X.1 X.2.1 dX10_apart_54 (lv_at hl 5 rfl) ?_
              refine rn_le0 X (ln_31 hq12) (tgt := 126) dX10_apart_56 (by decide) (fun h56 => ?_) (fun h56 => ?_)
              · skip
                have hnA : ln_isA N r k n := ln_isA_model hlb ha0 (by omega) hpk (fun L v f1 f2 f3 f5 => hall L v f1 f2 f3 (by have := (ln_ft_cl (ln_lf_ft f1)).1; omega) f5) (fun L f1 f2 => by obtain ⟨v, _, _, h⟩ := hM _ (ln_df_ne f1 f2); exact ⟨v, h⟩)
                refine lv_aload_n X.1 X.2.1 dX10_apart_126 rfl (lv_at hl 0 rfl) ?_
                refine gM_0_10 X hP mF_X10_32 dX10_apart_127 ?_
                refine lv_iload_n X.1 X.2.1 dX10_apart_130 rfl (lv_at hl 2 rfl) ?_
                refine lv_iload X.1 X.2.1 dX10_apart_131 (lv_at hl 4 rfl) ?_
                refine sM_8 X hP hDw hSw (by omega) dX10_apart_133 (fun H locs hP hDw hSw => ?_)
                obtain ⟨τ1, hτ1⟩ : ∃ z : ln_S, z = (ln_up τ 8 (upd (τ 8) k (nI n))) := ⟨_, rfl⟩
                rw [← hτ1] at hP hDw
                refine lv_iinc (v := nI (k + 1)) (lv' := [(2, .int (nI (k + 1))), (0, .ref (a 0)), (1, .int (nI r)), (3, .int (nI (2 ^ l1))), (4, .int (nI n)), (5, .int (nI q))]) X.1 X.2.1 dX10_apart_134 hl (k := 2) rfl rn_inc (by decide) rfl (fun ls hl => ?_)
                refine lv_goto (tgt := 26) X.1 X.2.1 dX10_apart_137 (by decide) ?_
                exact ih26 (k + 1) τ1 H locs (by omega) ⟨by omega, by omega⟩ (by rw [hτ1, ln_up_s]; exact ln_mst_s hM (ln_isA_le12 (by omega) hnA) hnA) (fun c hc => by rw [hτ1, ln_up_n _ _ hc]; exact ho c hc) hP hDw hSw ls (lv_sub hl [1, 2, 0] rfl)
              · skip
                obtain ⟨vq, hvq, hmq, haq⟩ := hM _ (ln_df_ne hq h56)
                have hqk := ln_sb_le hq
                refine lv_aload_n X.1 X.2.1 dX10_apart_59 rfl (lv_at hl 0 rfl) ?_
                refine gM_0_9 X hP mF_X10_28 dX10_apart_60 ?_
                refine lv_sipush (v := nI 4096) X.1 X.2.1 dX10_apart_63 (by decide) ?_
                refine lv_iload_n X.1 X.2.1 dX10_apart_66 rfl (lv_at hl 1 rfl) ?_
                refine rn_mul X dX10_apart_67 ?_
                refine lv_iload X.1 X.2.1 dX10_apart_68 (lv_at hl 5 rfl) ?_
                refine rn_add X dX10_apart_70 ?_
                refine lM_7 X hP (by omega) (v := ln_b (ln_lf N r q)) (hTf q (by omega)) dX10_apart_71 ?_
                refine rn_eqB X (tgt := 115) dX10_apart_72 (by decide) (fun h72 => ?_) (fun h72 => ?_)
                · skip
                  refine lv_iload X.1 X.2.1 dX10_apart_115 (lv_at hl 5 rfl) ?_
                  refine lv_iconst (v := nI 1) X.1 X.2.1 dX10_apart_117 (by decide) ?_
                  refine rn_sub X (by omega) dX10_apart_118 ?_
                  refine lv_iload_n X.1 X.2.1 dX10_apart_119 rfl (lv_at hl 2 rfl) ?_
                  refine rn_and X dX10_apart_120 ?_
                  refine lv_istore (lv' := [(5, .int (nI ((q - 1) &&& k))), (0, .ref (a 0)), (1, .int (nI r)), (2, .int (nI k)), (3, .int (nI (2 ^ l1))), (4, .int (nI n))]) X.1 X.2.1 dX10_apart_121 hl (by decide) rfl (fun ls hl => ?_)
                  refine lv_goto (tgt := 54) X.1 X.2.1 dX10_apart_123 (by decide) ?_
                  exact ih54 _ _ (by have := ln_part_lt k (show 0 < q by omega); omega) (ln_part_sb _ _) (by omega) (by first | exact hpk | (rw [Nat.add_comm]; exact ⟨q, ln_lf_ft h72, ln_sb_and.mpr hq, haq.1⟩)) (ln_map_step hq h56 haq (n := n) (by omega) (by first | (intro z; rw [h72] at z; exact absurd z (by decide)) | (intro _ z; rw [ln_and_p0 h79] at z; exact absurd z (by decide)) | (intro _ _; omega)) hall) ls (lv_sub hl [1, 2, 3, 4, 5, 0] rfl)
                · skip
                  refine lv_iload X.1 X.2.1 dX10_apart_75 (lv_at hl 5 rfl) ?_
                  refine lv_iload_n X.1 X.2.1 dX10_apart_77 rfl (lv_at hl 3 rfl) ?_
                  refine rn_and X dX10_apart_78 ?_
                  refine rn_eq0 X (ln_31 (ln_and_lt hq12)) (tgt := 115) dX10_apart_79 (by decide) (fun h79 => ?_) (fun h79 => ?_)
                  · skip
                    refine lv_iload X.1 X.2.1 dX10_apart_115 (lv_at hl 5 rfl) ?_
                    refine lv_iconst (v := nI 1) X.1 X.2.1 dX10_apart_117 (by decide) ?_
                    refine rn_sub X (by omega) dX10_apart_118 ?_
                    refine lv_iload_n X.1 X.2.1 dX10_apart_119 rfl (lv_at hl 2 rfl) ?_
                    refine rn_and X dX10_apart_120 ?_
                    refine lv_istore (lv' := [(5, .int (nI ((q - 1) &&& k))), (0, .ref (a 0)), (1, .int (nI r)), (2, .int (nI k)), (3, .int (nI (2 ^ l1))), (4, .int (nI n))]) X.1 X.2.1 dX10_apart_121 hl (by decide) rfl (fun ls hl => ?_)
                    refine lv_goto (tgt := 54) X.1 X.2.1 dX10_apart_123 (by decide) ?_
                    exact ih54 _ _ (by have := ln_part_lt k (show 0 < q by omega); omega) (ln_part_sb _ _) (by omega) (by first | exact hpk | (rw [Nat.add_comm]; exact ⟨q, ln_lf_ft h72, ln_sb_and.mpr hq, haq.1⟩)) (ln_map_step hq h56 haq (n := n) (by omega) (by first | (intro z; rw [h72] at z; exact absurd z (by decide)) | (intro _ z; rw [ln_and_p0 h79] at z; exact absurd z (by decide)) | (intro _ _; omega)) hall) ls (lv_sub hl [1, 2, 3, 4, 5, 0] rfl)
                  · skip
                    refine lv_iconst (v := nI 1) X.1 X.2.1 dX10_apart_82 (by decide) ?_
                    refine lv_aload_n X.1 X.2.1 dX10_apart_83 rfl (lv_at hl 0 rfl) ?_
                    refine gM_0_10 X hP mF_X10_32 dX10_apart_84 ?_
                    refine lv_iload_n X.1 X.2.1 dX10_apart_87 rfl (lv_at hl 2 rfl) ?_
                    refine lv_iload X.1 X.2.1 dX10_apart_88 (lv_at hl 5 rfl) ?_
                    refine lv_iconst (v := ((-1))) X.1 X.2.1 dX10_apart_90 (by decide) ?_
                    refine lv_ixor X.1 X.2.1 dX10_apart_91 ?_
                    refine rn_nt X dX10_apart_92 ?_
                    refine lM_8 X hP (ln_df_lt (show k < 4096 by omega)) (v := nI vq) hmq dX10_apart_93 ?_
                    refine rn_add X dX10_apart_94 ?_
                    refine lv_iload X.1 X.2.1 dX10_apart_95 (lv_at hl 4 rfl) ?_
                    refine rn_le X (by omega) (by omega) (tgt := 115) dX10_apart_97 (by decide) (fun h97 => ?_) (fun h97 => ?_)
                    · skip
                      refine lv_iload X.1 X.2.1 dX10_apart_115 (lv_at hl 5 rfl) ?_
                      refine lv_iconst (v := nI 1) X.1 X.2.1 dX10_apart_117 (by decide) ?_
                      refine rn_sub X (by omega) dX10_apart_118 ?_
                      refine lv_iload_n X.1 X.2.1 dX10_apart_119 rfl (lv_at hl 2 rfl) ?_
                      refine rn_and X dX10_apart_120 ?_
                      refine lv_istore (lv' := [(5, .int (nI ((q - 1) &&& k))), (0, .ref (a 0)), (1, .int (nI r)), (2, .int (nI k)), (3, .int (nI (2 ^ l1))), (4, .int (nI n))]) X.1 X.2.1 dX10_apart_121 hl (by decide) rfl (fun ls hl => ?_)
                      refine lv_goto (tgt := 54) X.1 X.2.1 dX10_apart_123 (by decide) ?_
                      exact ih54 _ _ (by have := ln_part_lt k (show 0 < q by omega); omega) (ln_part_sb _ _) (by omega) (by first | exact hpk | (rw [Nat.add_comm]; exact ⟨q, ln_lf_ft h72, ln_sb_and.mpr hq, haq.1⟩)) (ln_map_step hq h56 haq (n := n) (by omega) (by first | (intro z; rw [h72] at z; exact absurd z (by decide)) | (intro _ z; rw [ln_and_p0 h79] at z; exact absurd z (by decide)) | (intro _ _; omega)) hall) ls (lv_sub hl [1, 2, 3, 4, 5, 0] rfl)
                    · skip
                      refine lv_iconst (v := nI 1) X.1 X.2.1 dX10_apart_100 (by decide) ?_
                      refine lv_aload_n X.1 X.2.1 dX10_apart_101 rfl (lv_at hl 0 rfl) ?_
                      refine gM_0_10 X hP mF_X10_32 dX10_apart_102 ?_
                      refine lv_iload_n X.1 X.2.1 dX10_apart_105 rfl (lv_at hl 2 rfl) ?_
                      refine lv_iload X.1 X.2.1 dX10_apart_106 (lv_at hl 5 rfl) ?_
                      refine lv_iconst (v := ((-1))) X.1 X.2.1 dX10_apart_108 (by decide) ?_
                      refine lv_ixor X.1 X.2.1 dX10_apart_109 ?_
                      refine rn_nt X dX10_apart_110 ?_
                      refine lM_8 X hP (ln_df_lt (show k < 4096 by omega)) (v := nI vq) hmq dX10_apart_111 ?_
                      refine rn_add X dX10_apart_112 ?_
                      refine lv_istore (lv' := [(4, .int (nI (1 + vq))), (0, .ref (a 0)), (1, .int (nI r)), (2, .int (nI k)), (3, .int (nI (2 ^ l1))), (5, .int (nI q))]) X.1 X.2.1 dX10_apart_113 hl (by decide) rfl (fun ls hl => ?_)
                      refine lv_iload X.1 X.2.1 dX10_apart_115 (lv_at hl 5 rfl) ?_
                      refine lv_iconst (v := nI 1) X.1 X.2.1 dX10_apart_117 (by decide) ?_
                      refine rn_sub X (by omega) dX10_apart_118 ?_
                      refine lv_iload_n X.1 X.2.1 dX10_apart_119 rfl (lv_at hl 3 rfl) ?_
                      refine rn_and X dX10_apart_120 ?_
                      refine lv_istore (lv' := [(5, .int (nI ((q - 1) &&& k))), (4, .int (nI (1 + vq))), (0, .ref (a 0)), (1, .int (nI r)), (2, .int (nI k)), (3, .int (nI (2 ^ l1)))]) X.1 X.2.1 dX10_apart_121 hl (by decide) rfl (fun ls hl => ?_)
                      refine lv_goto (tgt := 54) X.1 X.2.1 dX10_apart_123 (by decide) ?_
                      exact ih54 _ _ (by have := ln_part_lt k (show 0 < q by omega); omega) (ln_part_sb _ _) (by omega) (by first | exact hpk | (rw [Nat.add_comm]; exact ⟨q, ln_lf_ft h72, ln_sb_and.mpr hq, haq.1⟩)) (ln_map_step hq h56 haq (n := n) (by omega) (by first | (intro z; rw [h72] at z; exact absurd z (by decide)) | (intro _ z; rw [ln_and_p0 h79] at z; exact absurd z (by decide)) | (intro _ _; omega)) hall) ls (lv_sub hl [2, 3, 4, 5, 1, 0] rfl)
          exact L54 _ _ _ (Nat.lt_succ_self _) (ln_sb_rf _) ⟨Nat.le_refl _, by omega⟩ (ln_pk_mono (ln_sb_df _ _) ha0.1) (fun L v f1 f2 f3 f4 f5 => absurd f4 (Nat.not_lt.mpr (ln_sb_le f3))) ls (lv_sub hl [3, 4, 5, 2, 1, 0] rfl)
    exact L26 _ 1 σ1 H locs (Nat.lt_succ_self _) ⟨Nat.le_refl _, ln_pos2 _⟩ (fun T hT => by rw [show T = 0 by omega, hσ1]; exact ⟨0, by decide, rfl, ln_isA_0 N r⟩) (fun c hc => by rw [hσ1, ln_up_n _ _ hc]) hP hDw hSw ls (lv_sub hl [1, 2, 0] rfl)
  · skip
    refine lv_bipush (v := ((-2))) X.1 X.2.1 dX10_apart_9 (by decide) ?_
    subst hQ0
    exact ln_retU X hr hlk hP hSw rfl ⟨⟨hW, hN, by rw [hE99] at hK; exact hK⟩, Or.inl ⟨h6, rfl⟩⟩ dX10_apart_11
