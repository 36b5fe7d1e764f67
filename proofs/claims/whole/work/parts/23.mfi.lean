def ln_oSv (N : ln_N) (x z : Int32) : Prop := ((ln_inr x (2 ^ N 0 0) = false ∨ 10 < N 0 0) ∧ z = -2) ∨ ∃ S, S < 2 ^ N 0 0 ∧ N 0 0 ≤ 10 ∧ x = nI S ∧ z = nI (ln_sv N S 0)
def ln_oWl (N : ln_N) (x y z : Int32) : Prop := ((ln_inr x (2 ^ N 0 0) = false ∨ 10 < N 0 0) ∧ z = -2) ∨ ∃ S, S < 2 ^ N 0 0 ∧ N 0 0 ≤ 10 ∧ x = nI S ∧ z = ln_wl N y 12 0 S 0
theorem ln_oSv_one {N : ln_N} (hW : ln_wf N) {x z w : Int32} (h : ln_oSv N x z) (h2 : ln_oSv N x w) : z = w := by
  have hp := hW.p12
  rcases h with ⟨a1, a2⟩ | ⟨S, hS, hn, hx, hz⟩ <;> rcases h2 with ⟨b1, b2⟩ | ⟨T, hT, hm, hy, hw⟩
  · rw [a2, b2]
  · rcases a1 with a1 | a1
    · exact (ln_r_in hT (by omega) hy a1).elim
    · omega
  · rcases b1 with b1 | b1
    · exact (ln_r_in hS (by omega) hx b1).elim
    · omega
  · have e := ln_s_one (by omega) hS hT hx hy
    subst e
    rw [hz, hw]
theorem ln_oWl_one {N : ln_N} (hW : ln_wf N) {x y z w : Int32} (h : ln_oWl N x y z) (h2 : ln_oWl N x y w) : z = w := by
  have hp := hW.p12
  rcases h with ⟨a1, a2⟩ | ⟨S, hS, hn, hx, hz⟩ <;> rcases h2 with ⟨b1, b2⟩ | ⟨T, hT, hm, hy, hw⟩
  · rw [a2, b2]
  · rcases a1 with a1 | a1
    · exact (ln_r_in hT (by omega) hy a1).elim
    · omega
  · rcases b1 with b1 | b1
    · exact (ln_r_in hS (by omega) hx b1).elim
    · omega
  · have e := ln_s_one (by omega) hS hT hx hy
    subst e
    rw [hz, hw]
/-- the best so far, raw -/
def ln_mI (g : Nat → Nat) (c : Nat → Bool) (mi : Int32) (k : Nat) : Prop := (mi = -1 ∧ ∀ p, p < k → c p = false) ∨ ∃ q, q < k ∧ c q = true ∧ mi = nI (ln_mx g c k)
theorem ln_mI_skip {g : Nat → Nat} {c : Nat → Bool} {mi : Int32} {k : Nat} (h : ln_mI g c mi k) (hk : c k = false) : ln_mI g c mi (k + 1) := by
  rcases h with ⟨h1, h2⟩ | ⟨q, h1, h2, h3⟩
  · exact Or.inl ⟨h1, ln_lt_s h2 hk⟩
  · exact Or.inr ⟨q, by omega, h2, by rw [ln_mx_f hk]; exact h3⟩
theorem ln_mI_keep {g : Nat → Nat} {c : Nat → Bool} {mi : Int32} {k : Nat} (h : ln_mI g c mi k) (hk : c k = true) (h12 : g k ≤ 12) (hm12 : ln_mx g c k ≤ 12) (hv : nI (g k) ≤ mi) : ln_mI g c mi (k + 1) := by
  rcases h with ⟨h1, h2⟩ | ⟨q, h1, h2, h3⟩
  · rw [h1] at hv; exact absurd hv (ln_neg_le (by omega))
  · rw [h3, nI_leI (by omega) (by omega)] at hv
    exact Or.inr ⟨q, by omega, h2, by rw [ln_mx_t hk, Nat.max_eq_left hv]; exact h3⟩
theorem ln_mx_none {g : Nat → Nat} {c : Nat → Bool} : ∀ {k : Nat}, (∀ p, p < k → c p = false) → ln_mx g c k = 0
  | 0, _ => rfl
  | k + 1, h => by rw [ln_mx_f (h k (by omega)), ln_mx_none (fun p hp => h p (by omega))]
theorem ln_mI_take {g : Nat → Nat} {c : Nat → Bool} {mi : Int32} {k : Nat} (h : ln_mI g c mi k) (hk : c k = true) (h12 : g k ≤ 12) (hm12 : ln_mx g c k ≤ 12) (hv : ¬ nI (g k) ≤ mi) : ln_mI g c (nI (g k)) (k + 1) := by
  rcases h with ⟨h1, h2⟩ | ⟨q, h1, h2, h3⟩
  · exact Or.inr ⟨k, by omega, hk, by rw [ln_mx_t hk, ln_mx_none h2, Nat.max_eq_right (Nat.zero_le _)]⟩
  · rw [h3, nI_leI (by omega) (by omega)] at hv
    exact Or.inr ⟨k, by omega, hk, by rw [ln_mx_t hk, Nat.max_eq_right (by omega)]⟩
theorem ln_all_of {N : ln_N} {x : Nat} (hx : x < 2 ^ N 0 0) (h : ∀ p, p < N 0 0 → x.testBit p = true) : x = 2 ^ N 0 0 - 1 := by
  refine Classical.byContradiction (fun q => ?_)
  obtain ⟨p, h1, h2⟩ := ln_free hx q
  rw [h p h1] at h2
  exact absurd h2 (by decide)
theorem ln_ne_f {b : Bool} (h : (!b) = false) : b = true := by cases b with | true => rfl | false => exact absurd h (by decide)
theorem ln_tf {b : Bool} (h : b = true) : (!b) = false := by rw [h]; rfl
theorem ln_wpf_a {N : ln_N} {b w p : Nat} (h : (b ||| w).testBit p = true) : ln_wpf N b w p = false := by unfold ln_wpf; rw [h]; rfl
theorem ln_wpf_b {N : ln_N} {b w p : Nat} (h : ln_bw N (ln_sv N) b (w ||| 2 ^ p) ≠ ln_sv N b w) : ln_wpf N b w p = false := by unfold ln_wpf; rw [decide_eq_false h, Bool.and_false]
theorem ln_wpf_c {N : ln_N} {b w p : Nat} (h : (b ||| w).testBit p = false) (h2 : ln_bw N (ln_sv N) b (w ||| 2 ^ p) = ln_sv N b w) : ln_wpf N b w p = true := by unfold ln_wpf; rw [h, decide_eq_true h2]; rfl
theorem ln_mx_at {g : Nat → Nat} {c : Nat → Bool} : ∀ {k : Nat}, (∃ q, q < k ∧ c q = true) → ∃ q, q < k ∧ c q = true ∧ g q = ln_mx g c k
  | 0, ⟨q, h, _⟩ => absurd h (Nat.not_lt_zero q)
  | k + 1, ⟨q, h, hc⟩ => by
    cases hk : c k with
    | false =>
      have hq : q < k := by
        refine Nat.lt_of_le_of_ne (by omega) (fun e => ?_)
        subst e; rw [hk] at hc; exact absurd hc (by decide)
      obtain ⟨r, h1, h2, h3⟩ := ln_mx_at (g := g) ⟨q, hq, hc⟩
      exact ⟨r, by omega, h2, by rw [ln_mx_f hk]; exact h3⟩
    | true =>
      rw [ln_mx_t hk]
      by_cases hm : ln_mx g c k ≤ g k
      · exact ⟨k, by omega, hk, by omega⟩
      · by_cases hex : ∃ q, q < k ∧ c q = true
        · obtain ⟨r, h1, h2, h3⟩ := ln_mx_at (g := g) hex
          exact ⟨r, by omega, h2, by omega⟩
        · rw [ln_mx_none (fun p hp => by cases hcp : c p with | false => rfl | true => exact absurd ⟨p, hp, hcp⟩ hex)] at hm
          omega
theorem ln_wpf_ex {N : ln_N} (hW : ln_wf N) {b w : Nat} (hb : b < 2 ^ N 0 0) (hw : w < 2 ^ N 0 0) (h : b ||| w ≠ 2 ^ N 0 0 - 1) : ln_fs (ln_wpf N b w) (N 0 0) < N 0 0 := by
  obtain ⟨p, hp, hf⟩ := ln_free (ln_or_lt2 hb hw) h
  obtain ⟨q, h1, h2, h3⟩ := ln_mx_at (g := fun p => ln_bw N (ln_sv N) b (w ||| 2 ^ p)) (c := fun p => !(b ||| w).testBit p) ⟨p, hp, ln_notb.mpr hf⟩
  exact ln_fs_ex h1 (ln_wpf_c (ln_notb.mp h2) (by rw [ln_sv_b hW (ln_n12 hW hb) h]; exact h3))
theorem ln_wpf_no {N : ln_N} {b w : Nat} (h : b ||| w = 2 ^ N 0 0 - 1) : ¬ ln_fs (ln_wpf N b w) (N 0 0) < N 0 0 := by
  rw [ln_fs_none (fun j hj => ln_wpf_a (by rw [h, ln_all_bit, decide_eq_true hj]))]
  omega
theorem ln_mT_so {N : ln_N} {σ τ : ln_S} {k : Nat} (hk : k ≠ 9) (ho : ∀ c, c ≠ 0 → c ≠ 10 → τ c = σ c) (h : ln_mT N σ k) : ln_mT N τ k := h.of (fun c hc => ho c (by omega) (by omega))
set_option maxHeartbeats 4000000 in
set_option maxRecDepth 100000 in
theorem c_X10_next (l : Launch) (D : va_G) (g : Nat → ClassId) (a : Nat → Nat) (σ : ln_S) (d : Nat) (N : ln_N) (hW : ln_wf N) (hN : ln_nM N σ) (b w : Nat) (hb : b < 4096) (hw : w < 4096) (hd : 2 ≤ d) : ln_R l D g (MW a g σ) yX10_next (.code yX10_next cX10_next 3 (some .int)) d [.ref (a 0), .int (nI b), .int (nI w)] (fun z => z = nI (ln_nx N b w)) := by
  have hN12 := hW.n12
  have hp12 := hW.p12
  have hs1 := ln_sub1 (N 0 0)
  refine ln_ofR (by decide +kernel) (Nat.le_of_ble_eq_true rfl) (fun prg env rum sta mid args below meth cod ls hr hlk X hP hl => ?_)
  have hl : lv_has ls 3 [(0, .ref (a 0)), (1, .int (nI b)), (2, .int (nI w))] := hl
  generalize hQ0 : (MQ below (vp_Si (fun z => z = nI (ln_nx N b w))) args sta 0 0 (fun _ => False)) = Q0
  refine lv_iload_n X.1 X.2.1 dX10_next_0 rfl (lv_at hl 1 rfl) ?_
  refine lv_aload_n X.1 X.2.1 dX10_next_1 rfl (lv_at hl 0 rfl) ?_
  refine lv_iload_n X.1 X.2.1 dX10_next_2 rfl (lv_at hl 1 rfl) ?_
  refine ln_vR X (c_X10_allBehind l D g a σ 1 N hW hN b hb (Nat.le_refl _)) hP 0 rfl rfl mM_X10_74 Y_X10_allBehind rfl (by omega) hl.1 rfl (Nat.le_of_ble_eq_true rfl) dX10_next_3 ⟨Nat.zero_le _, Nat.zero_le _⟩ (fun r3 hr3 => ?_)
  subst hr3
  refine lv_iload_n X.1 X.2.1 dX10_next_6 rfl (lv_at hl 2 rfl) ?_
  refine lv_iconst (v := ((-1))) X.1 X.2.1 dX10_next_7 (by decide) ?_
  refine lv_ixor X.1 X.2.1 dX10_next_8 ?_
  refine rn_nt X dX10_next_9 ?_
  refine rn_or X dX10_next_10 ?_
  subst hQ0
  exact ln_retR X hr hlk rfl rfl dX10_next_11
set_option maxHeartbeats 4000000 in
set_option maxRecDepth 100000 in
theorem c_X10_behindWall (l : Launch) (D : va_G) (g : Nat → ClassId) (a : Nat → Nat) (σ : ln_S) (d : Nat) (N : ln_N) (hW : ln_wf N) (hN : ln_nM N σ) (b w : Nat) (hb : b < 2 ^ N 0 0) (hw : w < 2 ^ N 0 0) (hdj : b &&& w = 0) (hn10 : N 0 0 ≤ 10) (hT : ∀ b2, b < b2 → b2 < 2 ^ N 0 0 → b2 &&& w = 0 → σ 10 (1024 * b2 + w) = nI (ln_sv N b2 w)) (hd : 3 ≤ d) : ln_R l D g (MW a g σ) yX10_behindWall (.code yX10_behindWall cX10_behindWall 4 (some .int)) d [.ref (a 0), .int (nI b), .int (nI w)] (fun z => z = nI (ln_bw N (ln_sv N) b w)) := by
  have hN12 := hW.n12
  have hp12 := hW.p12
  have hs1 := ln_sub1 (N 0 0)
  have h1024 : 2 ^ N 0 0 ≤ 1024 := Nat.pow_le_pow_right (n := 2) (by decide) hn10
  have hpcb := ln_pc_n hW hb
  have hnl := ln_nx_lt hW w hb
  refine ln_ofR (by decide +kernel) (Nat.le_of_ble_eq_true rfl) (fun prg env rum sta mid args below meth cod ls hr hlk X hP hl => ?_)
  have hl : lv_has ls 4 [(0, .ref (a 0)), (1, .int (nI b)), (2, .int (nI w))] := hl
  generalize hQ0 : (MQ below (vp_Si (fun z => z = nI (ln_bw N (ln_sv N) b w))) args sta 0 0 (fun _ => False)) = Q0
  refine lv_aload_n X.1 X.2.1 dX10_behindWall_0 rfl (lv_at hl 0 rfl) ?_
  refine lv_iload_n X.1 X.2.1 dX10_behindWall_1 rfl (lv_at hl 1 rfl) ?_
  refine lv_iload_n X.1 X.2.1 dX10_behindWall_2 rfl (lv_at hl 2 rfl) ?_
  refine ln_vR X (c_X10_next l D g a σ 2 N hW hN b w (ln_n12 hW hb) (ln_n12 hW hw) (Nat.le_refl _)) hP 0 rfl rfl mM_X10_129 Y_X10_next rfl (by omega) hl.1 rfl (Nat.le_of_ble_eq_true rfl) dX10_behindWall_3 ⟨Nat.zero_le _, Nat.zero_le _⟩ (fun r3 hr3 => ?_)
  subst hr3
  refine lv_istore_n (lv' := [(3, .int (nI (ln_nx N b w))), (0, .ref (a 0)), (1, .int (nI b)), (2, .int (nI w))]) X.1 X.2.1 dX10_behindWall_6 rfl hl (by decide) rfl (fun ls hl => ?_)
  refine lv_iload_n X.1 X.2.1 dX10_behindWall_7 rfl (lv_at hl 0 rfl) ?_
  refine lv_iload_n X.1 X.2.1 dX10_behindWall_8 rfl (lv_at hl 2 rfl) ?_
  refine rn_ne X (ln_31 (ln_nx12 hW _ (ln_n12 hW hb))) (ln_31 (ln_n12 hW hb)) (tgt := 24) dX10_behindWall_9 (by decide) (fun h9 => ?_) (fun h9 => ?_)
  · skip
    refine lv_aload_n X.1 X.2.1 dX10_behindWall_24 rfl (lv_at hl 1 rfl) ?_
    refine gM_0_12 X hP mF_X10_39 dX10_behindWall_25 ?_
    refine lv_sipush (v := nI 1024) X.1 X.2.1 dX10_behindWall_28 (by decide) ?_
    refine lv_iload_n X.1 X.2.1 dX10_behindWall_31 rfl (lv_at hl 0 rfl) ?_
    refine rn_mul X dX10_behindWall_32 ?_
    refine lv_iload_n X.1 X.2.1 dX10_behindWall_33 rfl (lv_at hl 3 rfl) ?_
    refine rn_add X dX10_behindWall_34 ?_
    refine lM_10 X hP (by omega) (v := nI (ln_sv N (ln_nx N b w) w)) (hT _ (ln_sb_lt (ln_nx_sb N b w) (Ne.symm h9)) hnl (ln_nx_dj hdj)) dX10_behindWall_35 ?_
    subst hQ0
    exact ln_retR X hr hlk rfl (by first | rw [ln_bw_a h9] | rw [ln_bw_b h9]) dX10_behindWall_36
  · skip
    refine lv_aload_n X.1 X.2.1 dX10_behindWall_12 rfl (lv_at hl 1 rfl) ?_
    refine gM_0_0 X hP (v := nI (N 0 0)) hN.n mF_X10_48 dX10_behindWall_13 ?_
    refine lv_iload_n X.1 X.2.1 dX10_behindWall_16 rfl (lv_at hl 2 rfl) ?_
    refine ln_sR X (c_X10_ones l D g 0 b (ln_31 (ln_n12 hW hb)) (Nat.le_refl _)) ln_nil mM_X10_111 Y_X10_ones rfl (by omega) hl.1 rfl (Nat.le_of_ble_eq_true rfl) dX10_behindWall_17 ⟨Nat.zero_le _, Nat.zero_le _⟩ (fun r17 hr17 => ?_)
    subst hr17
    refine rn_sub X (by omega) dX10_behindWall_20 ?_
    refine lv_goto (tgt := 36) X.1 X.2.1 dX10_behindWall_21 (by decide) ?_
    subst hQ0
    exact ln_retR X hr hlk rfl (by first | rw [ln_bw_a h9] | rw [ln_bw_b h9]) dX10_behindWall_36
set_option maxHeartbeats 4000000 in
set_option maxRecDepth 100000 in
theorem c_X10_saves (l : Launch) (D : va_G) (g : Nat → ClassId) (a : Nat → Nat) (σ : ln_S) (d : Nat) (N : ln_N) (hW : ln_wf N) (hN : ln_nM N σ) (E : Nat) (hK : ln_MK N σ E) (hn10 : N 0 0 ≤ 10) (hEr : 9 ≠ E) (hd : 4 ≤ d) : ln_V l D g (MW a g) yX10_saves (.code yX10_saves cX10_saves 6 none) d [.ref (a 0)] σ (fun τ => ln_nM N τ ∧ ln_MK N τ E ∧ ln_mT N τ 9 ∧ ∀ c, c ≠ 0 → c ≠ 10 → τ c = σ c) := by
  have hN12 := hW.n12
  have hp12 := hW.p12
  have hs1 := ln_sub1 (N 0 0)
  have h1024 : 2 ^ N 0 0 ≤ 1024 := Nat.pow_le_pow_right (n := 2) (by decide) hn10
  obtain ⟨K, hK1, hK2, hK3⟩ := hK
  refine ln_ofV (by decide +kernel) (Nat.le_of_ble_eq_true rfl) (fun prg env rum sta mid args below meth cod ls A hr hlk X hA hP hDw hSw hl => ?_)
  have hl : lv_has ls 6 [(0, .ref (a 0))] := hl
  generalize hQ0 : (MQ below (va_Qv (fun τ => ln_nM N τ ∧ ln_MK N τ E ∧ ln_mT N τ 9 ∧ ∀ c, c ≠ 0 → c ≠ 10 → τ c = σ c) (fun τ t => va_P D ln_cl (MW a g τ) t.heap) A) args sta 0 0 A) = Q0
  obtain ⟨H, hH⟩ : ∃ H, H = sta.heap := ⟨_, rfl⟩
  obtain ⟨locs, hlo⟩ : ∃ x : List Loc, x = [] := ⟨_, rfl⟩
  rw [← hH] at hP
  have hSw : va_S A sta.heap H locs := by rw [hH, hlo]; exact hSw
  have goal : W prg l env rum sta mid args below meth cod H locs 0 0 Q0 (F0 mid 0 ls []) := ?_
  · rw [hH, hlo] at goal; exact goal
  clear hlo
  refine lv_aload_n X.1 X.2.1 dX10_saves_0 rfl (lv_at hl 0 rfl) ?_
  refine lv_bipush (v := nI 9) X.1 X.2.1 dX10_saves_1 (by decide) ?_
  refine ln_vU X (MW_ad a g) hA (c_X10_isKnown l D g a σ 0 K 9 hK1 hK2 (by omega) (Nat.le_refl _)) hP hDw hSw 0 rfl rfl mM_X10_84 Y_X10_isKnown rfl (by omega) hl.1 rfl (Nat.le_of_ble_eq_true rfl) dX10_saves_3 ⟨Nat.zero_le _, Nat.zero_le _⟩ (fun r3 τ3 H locs hr3 hP hDw hSw => ?_)
  obtain ⟨hz3, hτ3⟩ := hr3
  subst hz3
  have hN3 : ln_nM N τ3 := by rw [hτ3]; exact hN.up0 (by decide) _
  have h31 : τ3 0 1 = nI (K ||| 2 ^ 9) := by rw [hτ3]; rfl
  have ho3 : ∀ c, c ≠ 0 → τ3 c = σ c := fun c hc => by rw [hτ3, ln_up_n _ _ hc]
  refine rn_eqB X (tgt := 10) dX10_saves_6 (by decide) (fun h6 => ?_) (fun h6 => ?_)
  · skip
    refine lv_aload_n X.1 X.2.1 dX10_saves_10 rfl (lv_at hl 0 rfl) ?_
    refine ln_vR X (c_X10_all l D g a τ3 0 N hW hN3 (Nat.le_refl _)) hP 0 rfl rfl mM_X10_87 Y_X10_all rfl (by omega) hl.1 rfl (Nat.le_of_ble_eq_true rfl) dX10_saves_11 ⟨Nat.zero_le _, Nat.zero_le _⟩ (fun r11 hr11 => ?_)
    subst hr11
    refine rn_top (y := (nI (2 ^ N 0 0) - 1)) (ln_m1p _) ?_
    refine lv_istore_n (lv' := [(1, .int (nI (2 ^ N 0 0) - 1)), (0, .ref (a 0))]) X.1 X.2.1 dX10_saves_14 rfl hl (by decide) rfl (fun ls hl => ?_)
    have L15 : ∀ (K : Nat) (k : Nat) (τ : ln_S) (H : Heap) (locs : List Loc), k < K → (k ≤ 2 ^ N 0 0) → (∀ b2 w2, k ≤ b2 → b2 < 2 ^ N 0 0 → w2 < 2 ^ N 0 0 → b2 &&& w2 = 0 → τ 10 (1024 * b2 + w2) = nI (ln_sv N b2 w2)) → (∀ c, c ≠ 10 → τ c = τ3 c) → va_P D ln_cl (MW a g τ) H → va_D A (MW a g τ) → va_S A sta.heap H locs → ∀ ls : Array Slot, lv_has ls 6 [(0, .ref (a 0)), (1, .int (nI k - 1))] → W prg l env rum sta mid args below meth cod H locs 0 0 Q0 (F0 mid 15 ls []) := by
      intro K
      induction K with
      | zero => intro k τ H locs hm; exact absurd hm (Nat.not_lt_zero _)
      | succ K ih15 =>
        intro k τ H locs hm15 hk hT ho hP hDw hSw ls hl
        have hN : ln_nM N τ := hN3.of (by rw [ho 0 (by decide)]) (fun c h1 h2 => ho c (by omega))
        refine lv_iload_n X.1 X.2.1 dX10_saves_15 rfl (lv_at hl 1 rfl) ?_
        rcases ln_m1_cases k with ⟨ek, e1⟩ | ⟨j, ek, e1⟩
        · refine rn_top (y := ((-1))) e1 ?_
          refine lv_if_lt (tgt := 139) X.1 X.2.1 dX10_saves_16 (by decide) (fun h16 => ?_) (fun h16 => absurd (by decide) h16)
          subst hQ0
          exact ln_retV X hr hlk hP hSw (by subst ek; have hTT : ln_mT N τ 9 := (by rw [ln_mT_s]; exact fun b2 w2 h1 h2 h3 => hT b2 w2 (Nat.zero_le _) h1 h2 h3); exact ⟨hN, ln_MK_put hK2 (by decide) hK3 (by rw [ho 0 (by decide)]; exact h31) (fun _ => hTT) (fun k hk h => ln_mT_so hk (fun c h1 h2 => (ho c h2).trans (ho3 c h1)) h), hTT, fun c h1 h2 => (ho c h2).trans (ho3 c h1)⟩) dX10_saves_139
        · refine rn_top (y := nI j) e1 ?_
          subst ek
          rw [nI_pred] at hl
          refine rn_lt0 X (ln_31 (show j < 4096 by omega)) (tgt := 139) dX10_saves_16 (by decide) ?_
          refine lv_iconst (v := nI 0) X.1 X.2.1 dX10_saves_19 (by decide) ?_
          refine lv_istore_n (lv' := [(2, .int (nI 0)), (0, .ref (a 0)), (1, .int (nI j))]) X.1 X.2.1 dX10_saves_20 rfl hl (by decide) rfl (fun ls hl => ?_)
          have L21 : ∀ (K : Nat) (w : Nat) (τ : ln_S) (H : Heap) (locs : List Loc), 2 ^ N 0 0 - w < K → (w ≤ 2 ^ N 0 0) → (∀ w2, w2 < w → j &&& w2 = 0 → τ 10 (1024 * j + w2) = nI (ln_sv N j w2)) → (∀ b2 w2, j < b2 → b2 < 2 ^ N 0 0 → w2 < 2 ^ N 0 0 → b2 &&& w2 = 0 → τ 10 (1024 * b2 + w2) = nI (ln_sv N b2 w2)) → (∀ c, c ≠ 10 → τ c = τ3 c) → va_P D ln_cl (MW a g τ) H → va_D A (MW a g τ) → va_S A sta.heap H locs → ∀ ls : Array Slot, lv_has ls 6 [(0, .ref (a 0)), (1, .int (nI j)), (2, .int (nI w))] → W prg l env rum sta mid args below meth cod H locs 0 0 Q0 (F0 mid 21 ls []) := by
            intro K
            induction K with
            | zero => intro w τ H locs hm; exact absurd hm (Nat.not_lt_zero _)
            | succ K ih21 =>
              intro w τ H locs hm21 hw hTw hT2 ho2 hP hDw hSw ls hl
              have hN : ln_nM N τ := hN3.of (by rw [ho2 0 (by decide)]) (fun c h1 h2 => ho2 c (by omega))
              refine lv_iload_n X.1 X.2.1 dX10_saves_21 rfl (lv_at hl 2 rfl) ?_
              refine lv_aload_n X.1 X.2.1 dX10_saves_22 rfl (lv_at hl 0 rfl) ?_
              refine ln_vR X (c_X10_all l D g a τ 0 N hW hN (Nat.le_refl _)) hP 0 rfl rfl mM_X10_87 Y_X10_all rfl (by omega) hl.1 rfl (Nat.le_of_ble_eq_true rfl) dX10_saves_23 ⟨Nat.zero_le _, Nat.zero_le _⟩ (fun r23 hr23 => ?_)
              subst hr23
              refine rn_gt X (by omega) (ln_31 (Nat.lt_of_lt_of_le (Nat.sub_lt (ln_pos2 _) (by decide)) hp12)) (tgt := 133) dX10_saves_26 (by decide) (fun h26 => ?_) (fun h26 => ?_)
              · skip
                refine lv_iinc (v := (nI j - 1)) (lv' := [(1, .int (nI j - 1)), (0, .ref (a 0)), (2, .int (nI w))]) X.1 X.2.1 dX10_saves_133 hl (k := 1) rfl rn_inn (by decide) rfl (fun ls hl => ?_)
                refine lv_goto (tgt := 15) X.1 X.2.1 dX10_saves_136 (by decide) ?_
                exact ih15 j τ H locs (by omega) (by omega) (fun b2 w2 h1 h2 h3 h4 => by by_cases e : b2 = j; (· subst e; exact hTw w2 (by omega) h4); (· exact hT2 b2 w2 (by omega) h2 h3 h4)) ho2 hP hDw hSw ls (lv_sub hl [1, 0] rfl)
              · skip
                refine lv_iload_n X.1 X.2.1 dX10_saves_29 rfl (lv_at hl 2 rfl) ?_
                refine lv_iload_n X.1 X.2.1 dX10_saves_30 rfl (lv_at hl 1 rfl) ?_
                refine rn_and X dX10_saves_31 ?_
                refine rn_eq0 X (ln_31 (ln_and_lt (show w < 4096 by omega))) (tgt := 38) dX10_saves_32 (by decide) (fun h32 => ?_) (fun h32 => ?_)
                · skip
                  have hjw : j &&& w = 0 := by rw [Nat.and_comm]; exact h32
                  refine lv_iconst (v := ((-1))) X.1 X.2.1 dX10_saves_38 (by decide) ?_
                  refine lv_istore_n (lv' := [(3, .int ((-1))), (0, .ref (a 0)), (1, .int (nI j)), (2, .int (nI w))]) X.1 X.2.1 dX10_saves_39 rfl hl (by decide) rfl (fun ls hl => ?_)
                  refine lv_iconst (v := nI 0) X.1 X.2.1 dX10_saves_40 (by decide) ?_
                  refine lv_istore (lv' := [(4, .int (nI 0)), (3, .int ((-1))), (0, .ref (a 0)), (1, .int (nI j)), (2, .int (nI w))]) X.1 X.2.1 dX10_saves_41 hl (by decide) rfl (fun ls hl => ?_)
                  have L43 : ∀ (K : Nat) (p : Nat) (mi : Int32), N 0 0 - p < K → (p ≤ N 0 0) → (ln_mI (fun p => ln_bw N (ln_sv N) j (w ||| 2 ^ p)) (fun p => !(j ||| w).testBit p) mi p) → ∀ ls : Array Slot, lv_has ls 6 [(0, .ref (a 0)), (1, .int (nI j)), (2, .int (nI w)), (3, .int mi), (4, .int (nI p))] → W prg l env rum sta mid args below meth cod H locs 0 0 Q0 (F0 mid 43 ls []) := by
                    intro K
                    induction K with
                    | zero => intro p mi hm; exact absurd hm (Nat.not_lt_zero _)
                    | succ K ih43 =>
                      intro p mi hm43 hp hmi ls hl
                      refine lv_iload X.1 X.2.1 dX10_saves_43 (lv_at hl 4 rfl) ?_
                      refine lv_aload_n X.1 X.2.1 dX10_saves_45 rfl (lv_at hl 0 rfl) ?_
                      refine gM_0_0 X hP (v := nI (N 0 0)) hN.n mF_X10_48 dX10_saves_46 ?_
                      refine rn_ge X (by omega) (by omega) (tgt := 98) dX10_saves_49 (by decide) (fun h49 => ?_) (fun h49 => ?_)
                      · skip
                        refine lv_aload_n X.1 X.2.1 dX10_saves_98 rfl (lv_at hl 0 rfl) ?_
                        refine gM_0_12 X hP mF_X10_39 dX10_saves_99 ?_
                        refine lv_sipush (v := nI 1024) X.1 X.2.1 dX10_saves_102 (by decide) ?_
                        refine lv_iload_n X.1 X.2.1 dX10_saves_105 rfl (lv_at hl 1 rfl) ?_
                        refine rn_mul X dX10_saves_106 ?_
                        refine lv_iload_n X.1 X.2.1 dX10_saves_107 rfl (lv_at hl 2 rfl) ?_
                        refine rn_add X dX10_saves_108 ?_
                        refine lv_iload_n X.1 X.2.1 dX10_saves_109 rfl (lv_at hl 3 rfl) ?_
                        rcases hmi with ⟨em, hm1⟩ | ⟨q, hq1, hq2, em⟩
                        · refine rn_top (y := ((-1))) em ?_
                          refine lv_if_ge (tgt := 125) X.1 X.2.1 dX10_saves_110 (by decide) (fun h110 => absurd h110 (by decide)) (fun h110 => ?_)
                          have hpcb := ln_pc_n hW (show j < 2 ^ N 0 0 by omega)
                          have hal : j ||| w = 2 ^ N 0 0 - 1 := ln_all_of (ln_or_lt2 (by omega) (by omega)) (fun q h => ln_ne_f (hm1 q (by omega)))
                          refine lv_aload_n X.1 X.2.1 dX10_saves_113 rfl (lv_at hl 0 rfl) ?_
                          refine gM_0_0 X hP (v := nI (N 0 0)) hN.n mF_X10_48 dX10_saves_114 ?_
                          refine lv_iload_n X.1 X.2.1 dX10_saves_117 rfl (lv_at hl 1 rfl) ?_
                          refine ln_sR X (c_X10_ones l D g 0 j (ln_31 (show j < 4096 by omega)) (Nat.le_refl _)) ln_nil mM_X10_111 Y_X10_ones rfl (by omega) hl.1 rfl (Nat.le_of_ble_eq_true rfl) dX10_saves_118 ⟨Nat.zero_le _, Nat.zero_le _⟩ (fun r118 hr118 => ?_)
                          subst hr118
                          refine rn_sub X (by omega) dX10_saves_121 ?_
                          refine rn_top (y := nI (ln_sv N j w)) (by rw [ln_sv_a hW (by omega) hal]) ?_
                          refine lv_goto (tgt := 126) X.1 X.2.1 dX10_saves_122 (by decide) ?_
                          refine sM_10 X hP hDw hSw (by omega) dX10_saves_126 (fun H locs hP hDw hSw => ?_)
                          obtain ⟨τ1, hτ1⟩ : ∃ z : ln_S, z = (ln_up τ 10 (upd (τ 10) (1024 * j + w) (nI (ln_sv N j w)))) := ⟨_, rfl⟩
                          rw [← hτ1] at hP hDw
                          have hTw1 : ∀ w2, w2 < w + 1 → j &&& w2 = 0 → τ1 10 (1024 * j + w2) = nI (ln_sv N j w2) := fun w2 h1 h2 => by rw [hτ1, ln_up_s]; by_cases e : w2 = w; (· subst e; exact ln_upd_s); (· rw [ln_upd_n (by omega)]; exact hTw w2 (by omega) h2)
                          have hT21 : ∀ b2 w2, j < b2 → b2 < 2 ^ N 0 0 → w2 < 2 ^ N 0 0 → b2 &&& w2 = 0 → τ1 10 (1024 * b2 + w2) = nI (ln_sv N b2 w2) := fun b2 w2 h1 h2 h3 h4 => by rw [hτ1, ln_up_s, ln_upd_n (by omega)]; exact hT2 b2 w2 h1 h2 h3 h4
                          have ho21 : ∀ c, c ≠ 10 → τ1 c = τ3 c := fun c hc => by rw [hτ1, ln_up_n _ _ hc]; exact ho2 c hc
                          refine lv_iinc (v := nI (w + 1)) (lv' := [(2, .int (nI (w + 1))), (0, .ref (a 0)), (1, .int (nI j)), (3, .int mi), (4, .int (nI p))]) X.1 X.2.1 dX10_saves_127 hl (k := 2) rfl rn_inc (by decide) rfl (fun ls hl => ?_)
                          refine lv_goto (tgt := 21) X.1 X.2.1 dX10_saves_130 (by decide) ?_
                          exact ih21 (w + 1) τ1 H locs (by omega) (by omega) (by first | exact hTw1 | exact (fun w2 h1 h2 => by by_cases e : w2 = w; (· subst e; rw [Nat.and_comm] at h2; exact absurd h2 h32); (· exact hTw w2 (by omega) h2))) (by first | exact hT21 | exact hT2) (by first | exact ho21 | exact ho2) hP hDw hSw ls (lv_sub hl [1, 2, 0] rfl)
                        · refine rn_top (y := nI (ln_mx (fun p => ln_bw N (ln_sv N) j (w ||| 2 ^ p)) (fun p => !(j ||| w).testBit p) p)) em ?_
                          rw [em] at hl
                          have hm12 : ln_mx (fun p => ln_bw N (ln_sv N) j (w ||| 2 ^ p)) (fun p => !(j ||| w).testBit p) p ≤ 12 := ln_mx_le (fun q _ _ => ln_bw12 hW _ (by omega))
                          refine rn_ge0 X (by omega) (tgt := 125) dX10_saves_110 (by decide) ?_
                          refine lv_iload_n X.1 X.2.1 dX10_saves_125 rfl (lv_at hl 3 rfl) ?_
                          refine rn_top (y := nI (ln_sv N j w)) (by rw [ln_sv_b hW (by omega) (ln_free_ne (show q < N 0 0 by omega) (ln_notb.mp hq2)), show p = N 0 0 by omega]) ?_
                          refine sM_10 X hP hDw hSw (by omega) dX10_saves_126 (fun H locs hP hDw hSw => ?_)
                          obtain ⟨τ1, hτ1⟩ : ∃ z : ln_S, z = (ln_up τ 10 (upd (τ 10) (1024 * j + w) (nI (ln_sv N j w)))) := ⟨_, rfl⟩
                          rw [← hτ1] at hP hDw
                          have hTw1 : ∀ w2, w2 < w + 1 → j &&& w2 = 0 → τ1 10 (1024 * j + w2) = nI (ln_sv N j w2) := fun w2 h1 h2 => by rw [hτ1, ln_up_s]; by_cases e : w2 = w; (· subst e; exact ln_upd_s); (· rw [ln_upd_n (by omega)]; exact hTw w2 (by omega) h2)
                          have hT21 : ∀ b2 w2, j < b2 → b2 < 2 ^ N 0 0 → w2 < 2 ^ N 0 0 → b2 &&& w2 = 0 → τ1 10 (1024 * b2 + w2) = nI (ln_sv N b2 w2) := fun b2 w2 h1 h2 h3 h4 => by rw [hτ1, ln_up_s, ln_upd_n (by omega)]; exact hT2 b2 w2 h1 h2 h3 h4
                          have ho21 : ∀ c, c ≠ 10 → τ1 c = τ3 c := fun c hc => by rw [hτ1, ln_up_n _ _ hc]; exact ho2 c hc
                          refine lv_iinc (v := nI (w + 1)) (lv' := [(2, .int (nI (w + 1))), (0, .ref (a 0)), (1, .int (nI j)), (3, .int (nI (ln_mx (fun p => ln_bw N (ln_sv N) j (w ||| 2 ^ p)) (fun p => !(j ||| w).testBit p) p))), (4, .int (nI p))]) X.1 X.2.1 dX10_saves_127 hl (k := 2) rfl rn_inc (by decide) rfl (fun ls hl => ?_)
                          refine lv_goto (tgt := 21) X.1 X.2.1 dX10_saves_130 (by decide) ?_
                          exact ih21 (w + 1) τ1 H locs (by omega) (by omega) (by first | exact hTw1 | exact (fun w2 h1 h2 => by by_cases e : w2 = w; (· subst e; rw [Nat.and_comm] at h2; exact absurd h2 h32); (· exact hTw w2 (by omega) h2))) (by first | exact hT21 | exact hT2) (by first | exact ho21 | exact ho2) hP hDw hSw ls (lv_sub hl [1, 2, 0] rfl)
                      · skip
                        refine lv_iload_n X.1 X.2.1 dX10_saves_52 rfl (lv_at hl 1 rfl) ?_
                        refine lv_iload_n X.1 X.2.1 dX10_saves_53 rfl (lv_at hl 2 rfl) ?_
                        refine rn_or X dX10_saves_54 ?_
                        refine lv_iload X.1 X.2.1 dX10_saves_55 (lv_at hl 4 rfl) ?_
                        refine ln_sR X (c_X10_has l D g 0 (j ||| w) p (ln_31 (ln_or12 (show j < 4096 by omega) (show w < 4096 by omega))) (by omega) (Nat.le_refl _)) ln_nil mM_X10_70 Y_X10_has rfl (by omega) hl.1 rfl (Nat.le_of_ble_eq_true rfl) dX10_saves_57 ⟨Nat.zero_le _, Nat.zero_le _⟩ (fun r57 hr57 => ?_)
                        subst hr57
                        refine rn_eqB X (tgt := 66) dX10_saves_60 (by decide) (fun h60 => ?_) (fun h60 => ?_)
                        · skip
                          have hg12 : (fun p => ln_bw N (ln_sv N) j (w ||| 2 ^ p)) p ≤ 12 := ln_bw12 hW _ (by omega)
                          have hm12 : ln_mx (fun p => ln_bw N (ln_sv N) j (w ||| 2 ^ p)) (fun p => !(j ||| w).testBit p) p ≤ 12 := ln_mx_le (fun q _ _ => ln_bw12 hW _ (by omega))
                          refine lv_aload_n X.1 X.2.1 dX10_saves_66 rfl (lv_at hl 0 rfl) ?_
                          refine lv_iload_n X.1 X.2.1 dX10_saves_67 rfl (lv_at hl 1 rfl) ?_
                          refine lv_iload_n X.1 X.2.1 dX10_saves_68 rfl (lv_at hl 2 rfl) ?_
                          refine lv_iconst (v := nI 1) X.1 X.2.1 dX10_saves_69 (by decide) ?_
                          refine lv_iload X.1 X.2.1 dX10_saves_70 (lv_at hl 4 rfl) ?_
                          refine rn_shl X (by omega) dX10_saves_72 ?_
                          refine rn_or X dX10_saves_73 ?_
                          refine ln_vR X (c_X10_behindWall l D g a τ 3 N hW hN j (w ||| 2 ^ p) (by omega) (ln_put_lt (by omega) h49) (ln_dj_put hjw h60) hn10 (fun b2 h1 h2 h3 => hT2 b2 _ h1 h2 (ln_put_lt (by omega) h49) h3) (Nat.le_refl _)) hP 0 rfl rfl mM_X10_132 Y_X10_behindWall rfl (by omega) hl.1 rfl (Nat.le_of_ble_eq_true rfl) dX10_saves_74 ⟨Nat.zero_le _, Nat.zero_le _⟩ (fun r74 hr74 => ?_)
                          subst hr74
                          refine lv_istore (lv' := [(5, .int (nI (ln_bw N (ln_sv N) j (w ||| 2 ^ p)))), (0, .ref (a 0)), (1, .int (nI j)), (2, .int (nI w)), (3, .int mi), (4, .int (nI p))]) X.1 X.2.1 dX10_saves_77 hl (by decide) rfl (fun ls hl => ?_)
                          refine lv_iload X.1 X.2.1 dX10_saves_79 (lv_at hl 0 rfl) ?_
                          refine lv_iload_n X.1 X.2.1 dX10_saves_81 rfl (lv_at hl 4 rfl) ?_
                          refine lv_icmp_le (tgt := 90) X.1 X.2.1 dX10_saves_82 (by decide) (fun h82 => ?_) (fun h82 => ?_)
                          · skip
                            refine lv_iload_n X.1 X.2.1 dX10_saves_90 rfl (lv_at hl 4 rfl) ?_
                            refine lv_istore_n (lv' := [(3, .int mi), (5, .int (nI (ln_bw N (ln_sv N) j (w ||| 2 ^ p)))), (0, .ref (a 0)), (1, .int (nI j)), (2, .int (nI w)), (4, .int (nI p))]) X.1 X.2.1 dX10_saves_91 rfl hl (by decide) rfl (fun ls hl => ?_)
                            refine lv_iinc (v := nI (p + 1)) (lv' := [(4, .int (nI (p + 1))), (3, .int mi), (5, .int (nI (ln_bw N (ln_sv N) j (w ||| 2 ^ p)))), (0, .ref (a 0)), (1, .int (nI j)), (2, .int (nI w))]) X.1 X.2.1 dX10_saves_92 hl (k := 5) rfl rn_inc (by decide) rfl (fun ls hl => ?_)
                            refine lv_goto (tgt := 43) X.1 X.2.1 dX10_saves_95 (by decide) ?_
                            exact ih43 (p + 1) _ (by omega) (by omega) (by first | exact ln_mI_skip hmi (ln_tf h60) | exact ln_mI_keep hmi (ln_notb.mpr h60) hg12 hm12 h82 | exact ln_mI_take hmi (ln_notb.mpr h60) hg12 hm12 h82) ls (lv_sub hl [3, 4, 5, 1, 0] rfl)
                          · skip
                            refine lv_iload X.1 X.2.1 dX10_saves_85 (lv_at hl 0 rfl) ?_
                            refine lv_goto (tgt := 91) X.1 X.2.1 dX10_saves_87 (by decide) ?_
                            refine lv_istore_n (lv' := [(3, .int (nI (ln_bw N (ln_sv N) j (w ||| 2 ^ p)))), (5, .int (nI (ln_bw N (ln_sv N) j (w ||| 2 ^ p)))), (0, .ref (a 0)), (1, .int (nI j)), (2, .int (nI w)), (4, .int (nI p))]) X.1 X.2.1 dX10_saves_91 rfl hl (by decide) rfl (fun ls hl => ?_)
                            refine lv_iinc (v := nI (p + 1)) (lv' := [(4, .int (nI (p + 1))), (3, .int (nI (ln_bw N (ln_sv N) j (w ||| 2 ^ p)))), (5, .int (nI (ln_bw N (ln_sv N) j (w ||| 2 ^ p)))), (0, .ref (a 0)), (1, .int (nI j)), (2, .int (nI w))]) X.1 X.2.1 dX10_saves_92 hl (k := 5) rfl rn_inc (by decide) rfl (fun ls hl => ?_)
                            refine lv_goto (tgt := 43) X.1 X.2.1 dX10_saves_95 (by decide) ?_
                            exact ih43 (p + 1) _ (by omega) (by omega) (by first | exact ln_mI_skip hmi (ln_tf h60) | exact ln_mI_keep hmi (ln_notb.mpr h60) hg12 hm12 h82 | exact ln_mI_take hmi (ln_notb.mpr h60) hg12 hm12 h82) ls (lv_sub hl [3, 4, 5, 1, 0] rfl)
                        · skip
                          refine lv_goto (tgt := 92) X.1 X.2.1 dX10_saves_63 (by decide) ?_
                          refine lv_iinc (v := nI (p + 1)) (lv' := [(4, .int (nI (p + 1))), (0, .ref (a 0)), (1, .int (nI j)), (2, .int (nI w)), (3, .int mi)]) X.1 X.2.1 dX10_saves_92 hl (k := 4) rfl rn_inc (by decide) rfl (fun ls hl => ?_)
                          refine lv_goto (tgt := 43) X.1 X.2.1 dX10_saves_95 (by decide) ?_
                          exact ih43 (p + 1) _ (by omega) (by omega) (by first | exact ln_mI_skip hmi (ln_tf h60) | exact ln_mI_keep hmi (ln_notb.mpr h60) hg12 hm12 h82 | exact ln_mI_take hmi (ln_notb.mpr h60) hg12 hm12 h82) ls (lv_sub hl [1, 2, 3, 4, 0] rfl)
                  exact L43 _ 0 (-1) (Nat.lt_succ_self _) (Nat.zero_le _) (Or.inl ⟨rfl, fun p h => absurd h (Nat.not_lt_zero p)⟩) ls (lv_sub hl [2, 3, 4, 1, 0] rfl)
                · skip
                  refine lv_goto (tgt := 127) X.1 X.2.1 dX10_saves_35 (by decide) ?_
                  refine lv_iinc (v := nI (w + 1)) (lv' := [(2, .int (nI (w + 1))), (0, .ref (a 0)), (1, .int (nI j))]) X.1 X.2.1 dX10_saves_127 hl (k := 2) rfl rn_inc (by decide) rfl (fun ls hl => ?_)
                  refine lv_goto (tgt := 21) X.1 X.2.1 dX10_saves_130 (by decide) ?_
                  exact ih21 (w + 1) τ H locs (by omega) (by omega) (by first | exact hTw1 | exact (fun w2 h1 h2 => by by_cases e : w2 = w; (· subst e; rw [Nat.and_comm] at h2; exact absurd h2 h32); (· exact hTw w2 (by omega) h2))) (by first | exact hT21 | exact hT2) (by first | exact ho21 | exact ho2) hP hDw hSw ls (lv_sub hl [1, 2, 0] rfl)
          exact L21 _ 0 τ H locs (Nat.lt_succ_self _) (Nat.zero_le _) (fun w2 h => absurd h (Nat.not_lt_zero w2)) (fun b2 w2 h1 h2 h3 h4 => hT b2 w2 (by omega) h2 h3 h4) ho hP hDw hSw ls (lv_sub hl [1, 2, 0] rfl)
    exact L15 _ (2 ^ N 0 0) τ3 H locs (Nat.lt_succ_self _) (Nat.le_refl _) (fun b2 w2 h1 h2 => absurd h2 (by omega)) (fun c _ => rfl) hP hDw hSw ls (lv_sub hl [1, 0] rfl)
  · skip
    subst hQ0
    exact ln_retV X hr hlk hP hSw ⟨hN3, ln_MK_put hK2 (by decide) hK3 h31 (fun _ => (hK3 _ hEr h6).of (fun c hc => ho3 c (by omega))) (fun k _ hk => hk.of (fun c hc => ho3 c (by omega))), (hK3 _ hEr h6).of (fun c hc => ho3 c (by omega)), fun c h1 _ => ho3 c h1⟩ dX10_saves_9
set_option maxHeartbeats 4000000 in
set_option maxRecDepth 100000 in
theorem c_X10_save (l : Launch) (D : va_G) (g : Nat → ClassId) (a : Nat → Nat) (σ : ln_S) (d : Nat) (N : ln_N) (hI : ln_MI N σ) (x : Int32) (hd : 5 ≤ d) : ln_U l D g (MW a g) yX10_save (.code yX10_save cX10_save 2 (some .int)) d [.ref (a 0), .int x] σ (fun z τ => ln_MI N τ ∧ ln_oSv N x z) := by
  obtain ⟨hW, hN, hK⟩ := hI
  obtain ⟨E, hE99⟩ : ∃ E, E = 99 := ⟨_, rfl⟩
  rw [← hE99] at hK
  have hN12 := hW.n12
  have hp12 := hW.p12
  have hs1 := ln_sub1 (N 0 0)
  refine ln_ofU (by decide +kernel) (Nat.le_of_ble_eq_true rfl) (fun prg env rum sta mid args below meth cod ls A hr hlk X hA hP hDw hSw hl => ?_)
  have hl : lv_has ls 2 [(0, .ref (a 0)), (1, .int x)] := hl
  generalize hQ0 : (MQ below (va_Qi (fun z τ => ln_MI N τ ∧ ln_oSv N x z) (fun τ t => va_P D ln_cl (MW a g τ) t.heap) A) args sta 0 0 A) = Q0
  obtain ⟨H, hH⟩ : ∃ H, H = sta.heap := ⟨_, rfl⟩
  obtain ⟨locs, hlo⟩ : ∃ x : List Loc, x = [] := ⟨_, rfl⟩
  rw [← hH] at hP
  have hSw : va_S A sta.heap H locs := by rw [hH, hlo]; exact hSw
  have goal : W prg l env rum sta mid args below meth cod H locs 0 0 Q0 (F0 mid 0 ls []) := ?_
  · rw [hH, hlo] at goal; exact goal
  clear hlo
  refine lv_aload_n X.1 X.2.1 dX10_save_0 rfl (lv_at hl 0 rfl) ?_
  refine lv_iload_n X.1 X.2.1 dX10_save_1 rfl (lv_at hl 1 rfl) ?_
  refine ln_vR X (c_X10_isSet l D g a σ 0 N hW hN x (Nat.le_refl _)) hP 0 rfl rfl mM_X10_98 Y_X10_isSet rfl (by omega) hl.1 rfl (Nat.le_of_ble_eq_true rfl) dX10_save_2 ⟨Nat.zero_le _, Nat.zero_le _⟩ (fun r2 hr2 => ?_)
  subst hr2
  refine rn_eqB X (tgt := 17) dX10_save_5 (by decide) (fun h5 => ?_) (fun h5 => ?_)
  · skip
    refine lv_bipush (v := ((-2))) X.1 X.2.1 dX10_save_17 (by decide) ?_
    subst hQ0
    exact ln_retU X hr hlk hP hSw rfl ⟨⟨hW, hN, by rw [hE99] at hK; exact hK⟩, Or.inl ⟨by first | exact Or.inl h5 | exact Or.inr h14, rfl⟩⟩ dX10_save_19
  · skip
    obtain ⟨S, hS, rfl⟩ := ln_inr_t (by omega) h5
    refine lv_aload_n X.1 X.2.1 dX10_save_8 rfl (lv_at hl 0 rfl) ?_
    refine gM_0_0 X hP (v := nI (N 0 0)) hN.n mF_X10_48 dX10_save_9 ?_
    refine lv_bipush (v := nI 10) X.1 X.2.1 dX10_save_12 (by decide) ?_
    refine rn_le X (by omega) (by decide) (tgt := 20) dX10_save_14 (by decide) (fun h14 => ?_) (fun h14 => ?_)
    · skip
      refine lv_aload_n X.1 X.2.1 dX10_save_20 rfl (lv_at hl 0 rfl) ?_
      refine ln_vV X (MW_ad a g) hA (c_X10_saves l D g a σ 4 N hW hN E hK h14 (by omega) (Nat.le_refl _)) hP hDw hSw 0 rfl rfl mM_X10_135 Y_X10_saves rfl (by omega) hl.1 rfl (Nat.le_of_ble_eq_true rfl) dX10_save_21 ⟨Nat.zero_le _, Nat.zero_le _⟩ (fun τ21 H locs hr21 hP hDw hSw => ?_)
      obtain ⟨hN, hK, hT, hfs⟩ := hr21
      rw [ln_mT_s] at hT
      have h1024 : 2 ^ N 0 0 ≤ 1024 := Nat.pow_le_pow_right (n := 2) (by decide) h14
      refine lv_aload_n X.1 X.2.1 dX10_save_24 rfl (lv_at hl 0 rfl) ?_
      refine gM_0_12 X hP mF_X10_39 dX10_save_25 ?_
      refine lv_sipush (v := nI 1024) X.1 X.2.1 dX10_save_28 (by decide) ?_
      refine lv_iload_n X.1 X.2.1 dX10_save_31 rfl (lv_at hl 1 rfl) ?_
      refine rn_mul X dX10_save_32 ?_
      refine lM_10 X hP (by omega) (v := nI (ln_sv N S 0)) (hT S 0 hS (ln_pos2 _) (Nat.and_zero S)) dX10_save_33 ?_
      subst hQ0
      exact ln_retU X hr hlk hP hSw rfl ⟨⟨hW, hN, by rw [hE99] at hK; exact hK⟩, Or.inr ⟨S, hS, h14, rfl, rfl⟩⟩ dX10_save_34
    · skip
      refine lv_bipush (v := ((-2))) X.1 X.2.1 dX10_save_17 (by decide) ?_
      subst hQ0
      exact ln_retU X hr hlk hP hSw rfl ⟨⟨hW, hN, by rw [hE99] at hK; exact hK⟩, Or.inl ⟨by first | exact Or.inl h5 | exact Or.inr h14, rfl⟩⟩ dX10_save_19
set_option maxHeartbeats 4000000 in
set_option maxRecDepth 100000 in
theorem c_X10_wall (l : Launch) (D : va_G) (g : Nat → ClassId) (a : Nat → Nat) (σ : ln_S) (d : Nat) (N : ln_N) (hI : ln_MI N σ) (x y : Int32) (hd : 5 ≤ d) : ln_U l D g (MW a g) yX10_wall (.code yX10_wall cX10_wall 8 (some .int)) d [.ref (a 0), .int x, .int y] σ (fun z τ => ln_MI N τ ∧ ln_oWl N x y z) := by
  obtain ⟨hW, hN, hK⟩ := hI
  obtain ⟨E, hE99⟩ : ∃ E, E = 99 := ⟨_, rfl⟩
  rw [← hE99] at hK
  have hN12 := hW.n12
  have hp12 := hW.p12
  have hs1 := ln_sub1 (N 0 0)
  refine ln_ofU (by decide +kernel) (Nat.le_of_ble_eq_true rfl) (fun prg env rum sta mid args below meth cod ls A hr hlk X hA hP hDw hSw hl => ?_)
  have hl : lv_has ls 8 [(0, .ref (a 0)), (1, .int x), (2, .int y)] := hl
  generalize hQ0 : (MQ below (va_Qi (fun z τ => ln_MI N τ ∧ ln_oWl N x y z) (fun τ t => va_P D ln_cl (MW a g τ) t.heap) A) args sta 0 0 A) = Q0
  obtain ⟨H, hH⟩ : ∃ H, H = sta.heap := ⟨_, rfl⟩
  obtain ⟨locs, hlo⟩ : ∃ x : List Loc, x = [] := ⟨_, rfl⟩
  rw [← hH] at hP
  have hSw : va_S A sta.heap H locs := by rw [hH, hlo]; exact hSw
  have goal : W prg l env rum sta mid args below meth cod H locs 0 0 Q0 (F0 mid 0 ls []) := ?_
  · rw [hH, hlo] at goal; exact goal
  clear hlo
  refine lv_aload_n X.1 X.2.1 dX10_wall_0 rfl (lv_at hl 0 rfl) ?_
  refine lv_iload_n X.1 X.2.1 dX10_wall_1 rfl (lv_at hl 1 rfl) ?_
  refine ln_vR X (c_X10_isSet l D g a σ 0 N hW hN x (Nat.le_refl _)) hP 0 rfl rfl mM_X10_98 Y_X10_isSet rfl (by omega) hl.1 rfl (Nat.le_of_ble_eq_true rfl) dX10_wall_2 ⟨Nat.zero_le _, Nat.zero_le _⟩ (fun r2 hr2 => ?_)
  subst hr2
  refine rn_eqB X (tgt := 17) dX10_wall_5 (by decide) (fun h5 => ?_) (fun h5 => ?_)
  · skip
    refine lv_bipush (v := ((-2))) X.1 X.2.1 dX10_wall_17 (by decide) ?_
    subst hQ0
    exact ln_retU X hr hlk hP hSw rfl ⟨⟨hW, hN, by rw [hE99] at hK; exact hK⟩, Or.inl ⟨by first | exact Or.inl h5 | exact Or.inr h14, rfl⟩⟩ dX10_wall_19
  · skip
    obtain ⟨S, hS, rfl⟩ := ln_inr_t (by omega) h5
    refine lv_aload_n X.1 X.2.1 dX10_wall_8 rfl (lv_at hl 0 rfl) ?_
    refine gM_0_0 X hP (v := nI (N 0 0)) hN.n mF_X10_48 dX10_wall_9 ?_
    refine lv_bipush (v := nI 10) X.1 X.2.1 dX10_wall_12 (by decide) ?_
    refine rn_le X (by omega) (by decide) (tgt := 20) dX10_wall_14 (by decide) (fun h14 => ?_) (fun h14 => ?_)
    · skip
      refine lv_aload_n X.1 X.2.1 dX10_wall_20 rfl (lv_at hl 0 rfl) ?_
      refine ln_vV X (MW_ad a g) hA (c_X10_saves l D g a σ 4 N hW hN E hK h14 (by omega) (Nat.le_refl _)) hP hDw hSw 0 rfl rfl mM_X10_135 Y_X10_saves rfl (by omega) hl.1 rfl (Nat.le_of_ble_eq_true rfl) dX10_wall_21 ⟨Nat.zero_le _, Nat.zero_le _⟩ (fun τ21 H locs hr21 hP hDw hSw => ?_)
      obtain ⟨hN, hK, hT, hfs⟩ := hr21
      rw [ln_mT_s] at hT
      have h1024 : 2 ^ N 0 0 ≤ 1024 := Nat.pow_le_pow_right (n := 2) (by decide) h14
      refine lv_iload_n X.1 X.2.1 dX10_wall_24 rfl (lv_at hl 1 rfl) ?_
      refine lv_istore_n (lv' := [(3, .int (nI S)), (0, .ref (a 0)), (1, .int (nI S)), (2, .int y)]) X.1 X.2.1 dX10_wall_25 rfl hl (by decide) rfl (fun ls hl => ?_)
      refine lv_iconst (v := nI 0) X.1 X.2.1 dX10_wall_26 (by decide) ?_
      refine lv_istore (lv' := [(4, .int (nI 0)), (3, .int (nI S)), (0, .ref (a 0)), (1, .int (nI S)), (2, .int y)]) X.1 X.2.1 dX10_wall_27 hl (by decide) rfl (fun ls hl => ?_)
      refine lv_iconst (v := nI 0) X.1 X.2.1 dX10_wall_29 (by decide) ?_
      refine lv_istore (lv' := [(5, .int (nI 0)), (4, .int (nI 0)), (3, .int (nI S)), (0, .ref (a 0)), (1, .int (nI S)), (2, .int y)]) X.1 X.2.1 dX10_wall_30 hl (by decide) rfl (fun ls hl => ?_)
      have L32 : ∀ (K : Nat) (k : Nat) (b : Nat) (w : Nat), 12 - k < K → (b < 2 ^ N 0 0) → (w < 2 ^ N 0 0) → (b &&& w = 0) → (k ≤ ln_pc w) → (ln_wl N y (12 - k) k b w = ln_wl N y 12 0 S 0) → ∀ ls : Array Slot, lv_has ls 8 [(0, .ref (a 0)), (2, .int y), (3, .int (nI b)), (4, .int (nI w)), (5, .int (nI k))] → W prg l env rum sta mid args below meth cod H locs 0 0 Q0 (F0 mid 32 ls []) := by
        intro K
        induction K with
        | zero => intro k b w hm; exact absurd hm (Nat.not_lt_zero _)
        | succ K ih32 =>
          intro k b w hm32 hb hw hdj hkp hh ls hl
          have hpw := ln_pc_le w
          have hol := ln_or_lt2 (N := N) hb hw
          refine lv_iload_n X.1 X.2.1 dX10_wall_32 rfl (lv_at hl 2 rfl) ?_
          refine lv_iload X.1 X.2.1 dX10_wall_33 (lv_at hl 3 rfl) ?_
          refine rn_or X dX10_wall_35 ?_
          refine lv_aload_n X.1 X.2.1 dX10_wall_36 rfl (lv_at hl 0 rfl) ?_
          refine ln_vR X (c_X10_all l D g a τ21 0 N hW hN (Nat.le_refl _)) hP 0 rfl rfl mM_X10_87 Y_X10_all rfl (by omega) hl.1 rfl (Nat.le_of_ble_eq_true rfl) dX10_wall_37 ⟨Nat.zero_le _, Nat.zero_le _⟩ (fun r37 hr37 => ?_)
          subst hr37
          refine rn_eq X (ln_31 (ln_or12 (ln_n12 hW hb) (ln_n12 hW hw))) (ln_31 (Nat.lt_of_lt_of_le (Nat.sub_lt (ln_pos2 _) (by decide)) hp12)) (tgt := 136) dX10_wall_40 (by decide) (fun h40 => ?_) (fun h40 => ?_)
          · skip
            refine lv_iconst (v := ((-1))) X.1 X.2.1 dX10_wall_136 (by decide) ?_
            subst hQ0
            exact ln_retU X hr hlk hP hSw rfl ⟨⟨hW, hN, by rw [hE99] at hK; exact hK⟩, Or.inr ⟨S, hS, h14, rfl, by rw [← hh, ln_wl_a (ln_wpf_no h40)]⟩⟩ dX10_wall_137
          · skip
            have hex := ln_wpf_ex hW hb hw h40
            have hpa : ln_pc w < 12 := Nat.lt_of_lt_of_le (ln_pc_lt (ln_sb_all hw) (ln_n12 hW (ln_all_lt _)) (fun e => h40 (ln_sb_eq (ln_sb_all hol) (fun i hi => by rw [Nat.testBit_or, e, hi, Bool.or_true])))) (ln_pc_le _)
            refine lv_iconst (v := nI 0) X.1 X.2.1 dX10_wall_43 (by decide) ?_
            refine lv_istore (lv' := [(6, .int (nI 0)), (0, .ref (a 0)), (2, .int y), (3, .int (nI b)), (4, .int (nI w)), (5, .int (nI k))]) X.1 X.2.1 dX10_wall_44 hl (by decide) rfl (fun ls hl => ?_)
            have L46 : ∀ (K : Nat) (p : Nat), N 0 0 - p < K → (p ≤ ln_fs (ln_wpf N b w) (N 0 0)) → (∀ j, j < p → ln_wpf N b w j = false) → ∀ ls : Array Slot, lv_has ls 8 [(0, .ref (a 0)), (2, .int y), (3, .int (nI b)), (4, .int (nI w)), (5, .int (nI k)), (6, .int (nI p))] → W prg l env rum sta mid args below meth cod H locs 0 0 Q0 (F0 mid 46 ls []) := by
              intro K
              induction K with
              | zero => intro p hm; exact absurd hm (Nat.not_lt_zero _)
              | succ K ih46 =>
                intro p hm46 hp hj ls hl
                refine lv_iload_n X.1 X.2.1 dX10_wall_46 rfl (lv_at hl 2 rfl) ?_
                refine lv_iload X.1 X.2.1 dX10_wall_47 (lv_at hl 3 rfl) ?_
                refine rn_or X dX10_wall_49 ?_
                refine lv_iload X.1 X.2.1 dX10_wall_50 (lv_at hl 5 rfl) ?_
                refine ln_sR X (c_X10_has l D g 0 (b ||| w) p (ln_31 (ln_or12 (ln_n12 hW hb) (ln_n12 hW hw))) (by omega) (Nat.le_refl _)) ln_nil mM_X10_70 Y_X10_has rfl (by omega) hl.1 rfl (Nat.le_of_ble_eq_true rfl) dX10_wall_52 ⟨Nat.zero_le _, Nat.zero_le _⟩ (fun r52 hr52 => ?_)
                subst hr52
                refine rn_neB X (tgt := 86) dX10_wall_55 (by decide) (fun h55 => ?_) (fun h55 => ?_)
                · skip
                  refine lv_iinc (v := nI (p + 1)) (lv' := [(6, .int (nI (p + 1))), (0, .ref (a 0)), (2, .int y), (3, .int (nI b)), (4, .int (nI w)), (5, .int (nI k))]) X.1 X.2.1 dX10_wall_86 hl (k := 5) rfl rn_inc (by decide) rfl (fun ls hl => ?_)
                  refine lv_goto (tgt := 46) X.1 X.2.1 dX10_wall_89 (by decide) ?_
                  exact ih46 (p + 1) (by omega) (by have z := ln_fs_min hex (ln_lt_s hj (by first | exact ln_wpf_a h55 | exact ln_wpf_b h83)); exact z) (ln_lt_s hj (by first | exact ln_wpf_a h55 | exact ln_wpf_b h83)) ls (lv_sub hl [1, 2, 3, 4, 5, 0] rfl)
                · skip
                  have hpn : p < N 0 0 := by omega
                  have hdj2 := ln_dj_put hdj h55
                  refine lv_aload_n X.1 X.2.1 dX10_wall_58 rfl (lv_at hl 0 rfl) ?_
                  refine lv_iload_n X.1 X.2.1 dX10_wall_59 rfl (lv_at hl 2 rfl) ?_
                  refine lv_iload X.1 X.2.1 dX10_wall_60 (lv_at hl 3 rfl) ?_
                  refine lv_iconst (v := nI 1) X.1 X.2.1 dX10_wall_62 (by decide) ?_
                  refine lv_iload X.1 X.2.1 dX10_wall_63 (lv_at hl 5 rfl) ?_
                  refine rn_shl X (by omega) dX10_wall_65 ?_
                  refine rn_or X dX10_wall_66 ?_
                  refine ln_vR X (c_X10_behindWall l D g a τ21 3 N hW hN b (w ||| 2 ^ p) hb (ln_put_lt hw hpn) hdj2 h14 (fun b2 h1 h2 h3 => hT b2 _ h2 (ln_put_lt hw hpn) h3) (Nat.le_refl _)) hP 0 rfl rfl mM_X10_132 Y_X10_behindWall rfl (by omega) hl.1 rfl (Nat.le_of_ble_eq_true rfl) dX10_wall_67 ⟨Nat.zero_le _, Nat.zero_le _⟩ (fun r67 hr67 => ?_)
                  subst hr67
                  refine lv_aload_n X.1 X.2.1 dX10_wall_70 rfl (lv_at hl 0 rfl) ?_
                  refine gM_0_12 X hP mF_X10_39 dX10_wall_71 ?_
                  refine lv_sipush (v := nI 1024) X.1 X.2.1 dX10_wall_74 (by decide) ?_
                  refine lv_iload_n X.1 X.2.1 dX10_wall_77 rfl (lv_at hl 2 rfl) ?_
                  refine rn_mul X dX10_wall_78 ?_
                  refine lv_iload X.1 X.2.1 dX10_wall_79 (lv_at hl 3 rfl) ?_
                  refine rn_add X dX10_wall_81 ?_
                  refine lM_10 X hP (by omega) (v := nI (ln_sv N b w)) (hT b w hb hw hdj) dX10_wall_82 ?_
                  refine rn_eq X (by have := ln_bw12 hW (w ||| 2 ^ p) (ln_n12 hW hb); omega) (by have := ln_sv12 hW w (ln_n12 hW hb); omega) (tgt := 92) dX10_wall_83 (by decide) (fun h83 => ?_) (fun h83 => ?_)
                  · skip
                    have hpe : p = ln_fs (ln_wpf N b w) (N 0 0) := (ln_fs_eq (ln_wpf_c h55 h83) hj hpn).symm
                    refine lv_iload X.1 X.2.1 dX10_wall_92 (lv_at hl 4 rfl) ?_
                    refine lv_iload_n X.1 X.2.1 dX10_wall_94 rfl (lv_at hl 1 rfl) ?_
                    refine lv_icmp_ne (tgt := 101) X.1 X.2.1 dX10_wall_95 (by decide) (fun h95 => ?_) (fun h95 => ?_)
                    · skip
                      refine lv_iinc (v := nI (k + 1)) (lv' := [(5, .int (nI (k + 1))), (0, .ref (a 0)), (2, .int y), (3, .int (nI b)), (4, .int (nI w)), (6, .int (nI p))]) X.1 X.2.1 dX10_wall_101 hl (k := 4) rfl rn_inc (by decide) rfl (fun ls hl => ?_)
                      refine lv_iload X.1 X.2.1 dX10_wall_104 (lv_at hl 4 rfl) ?_
                      refine lv_iconst (v := nI 1) X.1 X.2.1 dX10_wall_106 (by decide) ?_
                      refine lv_iload X.1 X.2.1 dX10_wall_107 (lv_at hl 5 rfl) ?_
                      refine rn_shl X (by omega) dX10_wall_109 ?_
                      refine rn_or X dX10_wall_110 ?_
                      refine lv_istore (lv' := [(4, .int (nI (w ||| (2 ^ p)))), (5, .int (nI (k + 1))), (0, .ref (a 0)), (2, .int y), (3, .int (nI b)), (6, .int (nI p))]) X.1 X.2.1 dX10_wall_111 hl (by decide) rfl (fun ls hl => ?_)
                      refine lv_aload_n X.1 X.2.1 dX10_wall_113 rfl (lv_at hl 2 rfl) ?_
                      refine lv_iload_n X.1 X.2.1 dX10_wall_114 rfl (lv_at hl 4 rfl) ?_
                      refine lv_iload X.1 X.2.1 dX10_wall_115 (lv_at hl 0 rfl) ?_
                      refine ln_vR X (c_X10_next l D g a τ21 2 N hW hN b (w ||| 2 ^ p) (ln_n12 hW hb) (ln_n12 hW (ln_put_lt hw hpn)) (Nat.le_refl _)) hP 0 rfl rfl mM_X10_129 Y_X10_next rfl (by omega) hl.1 rfl (Nat.le_of_ble_eq_true rfl) dX10_wall_117 ⟨Nat.zero_le _, Nat.zero_le _⟩ (fun r117 hr117 => ?_)
                      subst hr117
                      refine lv_istore (lv' := [(7, .int (nI (ln_nx N b (w ||| 2 ^ p)))), (4, .int (nI (w ||| (2 ^ p)))), (5, .int (nI (k + 1))), (0, .ref (a 0)), (2, .int y), (3, .int (nI b)), (6, .int (nI p))]) X.1 X.2.1 dX10_wall_120 hl (by decide) rfl (fun ls hl => ?_)
                      refine lv_iload X.1 X.2.1 dX10_wall_122 (lv_at hl 0 rfl) ?_
                      refine lv_iload_n X.1 X.2.1 dX10_wall_124 rfl (lv_at hl 5 rfl) ?_
                      refine rn_ne X (ln_31 (ln_nx12 hW _ (ln_n12 hW hb))) (ln_31 (ln_n12 hW hb)) (tgt := 130) dX10_wall_125 (by decide) (fun h125 => ?_) (fun h125 => ?_)
                      · skip
                        refine lv_iload X.1 X.2.1 dX10_wall_130 (lv_at hl 0 rfl) ?_
                        refine lv_istore_n (lv' := [(3, .int (nI (ln_nx N b (w ||| 2 ^ p)))), (7, .int (nI (ln_nx N b (w ||| 2 ^ p)))), (4, .int (nI (w ||| (2 ^ p)))), (5, .int (nI (k + 1))), (0, .ref (a 0)), (2, .int y), (6, .int (nI p))]) X.1 X.2.1 dX10_wall_132 rfl hl (by decide) rfl (fun ls hl => ?_)
                        refine lv_goto (tgt := 32) X.1 X.2.1 dX10_wall_133 (by decide) ?_
                        exact ih32 (k + 1) _ _ (by omega) (ln_nx_lt hW _ hb) (ln_put_lt hw hpn) (ln_nx_dj hdj2) (by have := ln_pc_put2 hW hw hpn h55; omega) (by rw [← hh, show 12 - k = (12 - (k + 1)) + 1 by omega, ln_wl_d hpe hpn h95 h125]) ls (lv_sub hl [4, 5, 0, 2, 3] rfl)
                      · skip
                        refine lv_iconst (v := ((-1))) X.1 X.2.1 dX10_wall_128 (by decide) ?_
                        subst hQ0
                        exact ln_retU X hr hlk hP hSw rfl ⟨⟨hW, hN, by rw [hE99] at hK; exact hK⟩, Or.inr ⟨S, hS, h14, rfl, by rw [← hh, show 12 - k = (12 - (k + 1)) + 1 by omega, ln_wl_c hpe hpn h95 h125]⟩⟩ dX10_wall_129
                    · skip
                      refine lv_iload X.1 X.2.1 dX10_wall_98 (lv_at hl 5 rfl) ?_
                      subst hQ0
                      exact ln_retU X hr hlk hP hSw rfl ⟨⟨hW, hN, by rw [hE99] at hK; exact hK⟩, Or.inr ⟨S, hS, h14, rfl, by rw [← hh, show 12 - k = (12 - (k + 1)) + 1 by omega, ln_wl_b hpe hpn h95]⟩⟩ dX10_wall_100
                  · skip
                    refine lv_iinc (v := nI (p + 1)) (lv' := [(6, .int (nI (p + 1))), (0, .ref (a 0)), (2, .int y), (3, .int (nI b)), (4, .int (nI w)), (5, .int (nI k))]) X.1 X.2.1 dX10_wall_86 hl (k := 5) rfl rn_inc (by decide) rfl (fun ls hl => ?_)
                    refine lv_goto (tgt := 46) X.1 X.2.1 dX10_wall_89 (by decide) ?_
                    exact ih46 (p + 1) (by omega) (by have z := ln_fs_min hex (ln_lt_s hj (by first | exact ln_wpf_a h55 | exact ln_wpf_b h83)); exact z) (ln_lt_s hj (by first | exact ln_wpf_a h55 | exact ln_wpf_b h83)) ls (lv_sub hl [1, 2, 3, 4, 5, 0] rfl)
            exact L46 _ 0 (Nat.lt_succ_self _) (Nat.zero_le _) (fun j h => absurd h (Nat.not_lt_zero j)) ls (lv_sub hl [1, 2, 3, 4, 5, 0] rfl)
      exact L32 _ 0 S 0 (Nat.lt_succ_self _) hS (ln_pos2 _) (Nat.and_zero S) (Nat.zero_le _) rfl ls (lv_sub hl [3, 5, 2, 1, 0] rfl)
    · skip
      refine lv_bipush (v := ((-2))) X.1 X.2.1 dX10_wall_17 (by decide) ?_
      subst hQ0
      exact ln_retU X hr hlk hP hSw rfl ⟨⟨hW, hN, by rw [hE99] at hK; exact hK⟩, Or.inl ⟨by first | exact Or.inl h5 | exact Or.inr h14, rfl⟩⟩ dX10_wall_19
