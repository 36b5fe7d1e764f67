theorem ln_ct_cut {f : Nat → Bool} {n : Nat} (h : ∀ i, n ≤ i → f i = false) : ∀ m, ln_ct f (n + m) = ln_ct f n
  | 0 => rfl
  | m + 1 => by rw [← Nat.add_assoc, ln_ct_f (h _ (by omega)), ln_ct_cut h m]
theorem ln_pc_n {N : ln_N} (hW : ln_wf N) {S : Nat} (hS : S < 2 ^ N 0 0) : ln_pc S ≤ N 0 0 := by
  have h12 := hW.n12
  have h := ln_ct_cut (f := S.testBit) (n := N 0 0) (fun i hi => Nat.testBit_lt_two_pow (Nat.lt_of_lt_of_le hS (Nat.pow_le_pow_right (n := 2) (by decide) hi))) (12 - N 0 0)
  rw [show N 0 0 + (12 - N 0 0) = 12 by omega] at h
  unfold ln_pc
  rw [h]
  exact ln_ct_le _ _
def ln_oLs (N : ln_N) (x z : Int32) : Prop := (ln_inr x 3 = false ∧ z = -2) ∨ ∃ r s, r < 3 ∧ x = nI r ∧ z = nI s ∧ ln_isL N r s
def ln_oMn (N : ln_N) (x z : Int32) : Prop := (ln_inr x 3 = false ∧ z = -2) ∨ ∃ r s, r < 3 ∧ x = nI r ∧ ln_isL N r s ∧ z = nI (ln_ct (ln_cs N r s) (2 ^ N 0 0))
def ln_oCh (N : ln_N) (x z : Int32) : Prop := (ln_inr x 3 = false ∧ z = -2) ∨ ∃ r s, r < 3 ∧ x = nI r ∧ z = nI s ∧ ln_isP N r s
def ln_oPd (N : ln_N) (x z : Int32) : Prop := (ln_inr x 3 = false ∧ z = -2) ∨ ∃ r, r < 3 ∧ x = nI r ∧ z = nI (ln_pd N r (N 0 0) (2 ^ N 0 0 - 1))
theorem ln_r_one {x : Int32} {r q : Nat} (hr : r < 3) (hq : q < 3) (h : x = nI r) (h2 : x = nI q) : r = q := (nI_eq (by omega) (by omega)).mp (h.symm.trans h2)
theorem ln_r_in {x : Int32} {r n : Nat} (hr : r < n) (hn : n ≤ 2 ^ 30) (h : x = nI r) (h2 : ln_inr x n = false) : False := by
  rw [h, ln_inr_nI (by omega), decide_eq_true hr] at h2
  exact absurd h2 (by decide)
theorem ln_oLs_one {N : ln_N} {x z w : Int32} (h : ln_oLs N x z) (h2 : ln_oLs N x w) : z = w := by
  rcases h with ⟨a1, a2⟩ | ⟨r, s, hr, hx, hz, hs⟩ <;> rcases h2 with ⟨b1, b2⟩ | ⟨q, t, hq, hy, hw, ht⟩
  · rw [a2, b2]
  · exact (ln_r_in hq (by decide) hy a1).elim
  · exact (ln_r_in hr (by decide) hx b1).elim
  · have e := ln_r_one hr hq hx hy
    subst e
    rw [hz, hw, ln_isL_one hs ht]
theorem ln_oMn_one {N : ln_N} {x z w : Int32} (h : ln_oMn N x z) (h2 : ln_oMn N x w) : z = w := by
  rcases h with ⟨a1, a2⟩ | ⟨r, s, hr, hx, hs, hz⟩ <;> rcases h2 with ⟨b1, b2⟩ | ⟨q, t, hq, hy, ht, hw⟩
  · rw [a2, b2]
  · exact (ln_r_in hq (by decide) hy a1).elim
  · exact (ln_r_in hr (by decide) hx b1).elim
  · have e := ln_r_one hr hq hx hy
    subst e
    rw [hz, hw, ln_isL_one hs ht]
theorem ln_oCh_one {N : ln_N} {x z w : Int32} (h : ln_oCh N x z) (h2 : ln_oCh N x w) : z = w := by
  rcases h with ⟨a1, a2⟩ | ⟨r, s, hr, hx, hz, hs⟩ <;> rcases h2 with ⟨b1, b2⟩ | ⟨q, t, hq, hy, hw, ht⟩
  · rw [a2, b2]
  · exact (ln_r_in hq (by decide) hy a1).elim
  · exact (ln_r_in hr (by decide) hx b1).elim
  · have e := ln_r_one hr hq hx hy
    subst e
    rw [hz, hw, ln_isP_one hs ht]
theorem ln_oPd_one {N : ln_N} {x z w : Int32} (h : ln_oPd N x z) (h2 : ln_oPd N x w) : z = w := by
  rcases h with ⟨a1, a2⟩ | ⟨r, hr, hx, hz⟩ <;> rcases h2 with ⟨b1, b2⟩ | ⟨q, hq, hy, hw⟩
  · rw [a2, b2]
  · exact (ln_r_in hq (by decide) hy a1).elim
  · exact (ln_r_in hr (by decide) hx b1).elim
  · have e := ln_r_one hr hq hx hy
    subst e
    rw [hz, hw]
def ln_bQ (N : ln_N) (r b v k : Nat) : Prop := (b = 0 ∧ v = 1000000 ∧ ∀ t, t < k → ln_go N r t = false) ∨ (b < k ∧ b < 2 ^ N 0 0 ∧ ln_go N r b = true ∧ v = ln_pri N b (N 0 0) ∧ ∀ t, t < k → ln_go N r t = true → ln_pri N b (N 0 0) < ln_pri N t (N 0 0) ∨ (ln_pri N b (N 0 0) = ln_pri N t (N 0 0) ∧ b ≤ t))
theorem ln_bQ_skip {N : ln_N} {r b v k : Nat} (h : ln_bQ N r b v k) (hk : ln_go N r k = false) : ln_bQ N r b v (k + 1) := by
  rcases h with ⟨h1, h2, h3⟩ | ⟨h1, h2, h3, h4, h5⟩
  · exact Or.inl ⟨h1, h2, ln_lt_s h3 hk⟩
  · refine Or.inr ⟨by omega, h2, h3, h4, fun t ht hg => ?_⟩
    by_cases e : t = k
    · subst e; rw [hk] at hg; exact absurd hg (by decide)
    · exact h5 t (by omega) hg
theorem ln_bQ_keep {N : ln_N} {r b v k : Nat} (h : ln_bQ N r b v k) (hb : ln_pri N k (N 0 0) ≤ 12000) (hp : v ≤ ln_pri N k (N 0 0)) : ln_bQ N r b v (k + 1) := by
  rcases h with ⟨h1, h2, h3⟩ | ⟨h1, h2, h3, h4, h5⟩
  · omega
  · refine Or.inr ⟨by omega, h2, h3, h4, fun t ht hg => ?_⟩
    by_cases e : t = k
    · subst e; omega
    · exact h5 t (by omega) hg
theorem ln_bQ_take {N : ln_N} {r b v k : Nat} (h : ln_bQ N r b v k) (hk : k < 2 ^ N 0 0) (hg : ln_go N r k = true) (hp : ln_pri N k (N 0 0) < v) : ln_bQ N r k (ln_pri N k (N 0 0)) (k + 1) := by
  rcases h with ⟨h1, h2, h3⟩ | ⟨h1, h2, h3, h4, h5⟩
  · refine Or.inr ⟨by omega, hk, hg, rfl, fun t ht hg2 => ?_⟩
    by_cases e : t = k
    · subst e; omega
    · rw [h3 t (by omega)] at hg2; exact absurd hg2 (by decide)
  · refine Or.inr ⟨by omega, hk, hg, rfl, fun t ht hg2 => ?_⟩
    by_cases e : t = k
    · subst e; omega
    · have := h5 t (by omega) hg2; omega
theorem ln_bQ_end {N : ln_N} (hW : ln_wf N) {r b v : Nat} (h : ln_bQ N r b v (2 ^ N 0 0)) : ln_isP N r b := by
  rcases h with ⟨h1, h2, h3⟩ | ⟨h1, h2, h3, h4, h5⟩
  · have := h3 _ (ln_all_lt (N 0 0))
    rw [ln_go_all hW r] at this
    exact absurd this (by decide)
  · exact ⟨h2, h3, h5⟩
set_option maxHeartbeats 4000000 in
set_option maxRecDepth 100000 in
theorem c_X10_least (l : Launch) (D : va_G) (g : Nat → ClassId) (a : Nat → Nat) (σ : ln_S) (d : Nat) (N : ln_N) (hI : ln_MI N σ) (x : Int32) (hd : 6 ≤ d) : ln_U l D g (MW a g) yX10_least (.code yX10_least cX10_least 4 (some .int)) d [.ref (a 0), .int x] σ (fun z τ => ln_MI N τ ∧ ln_oLs N x z) := by
  obtain ⟨hW, hN, hK⟩ := hI
  obtain ⟨E, hE99⟩ : ∃ E, E = 99 := ⟨_, rfl⟩
  rw [← hE99] at hK
  have hN12 := hW.n12
  have hp12 := hW.p12
  have hs1 := ln_sub1 (N 0 0)
  refine ln_ofU (by decide +kernel) (Nat.le_of_ble_eq_true rfl) (fun prg env rum sta mid args below meth cod ls A hr hlk X hA hP hDw hSw hl => ?_)
  have hl : lv_has ls 4 [(0, .ref (a 0)), (1, .int x)] := hl
  generalize hQ0 : (MQ below (va_Qi (fun z τ => ln_MI N τ ∧ ln_oLs N x z) (fun τ t => va_P D ln_cl (MW a g τ) t.heap) A) args sta 0 0 A) = Q0
  obtain ⟨H, hH⟩ : ∃ H, H = sta.heap := ⟨_, rfl⟩
  obtain ⟨locs, hlo⟩ : ∃ x : List Loc, x = [] := ⟨_, rfl⟩
  rw [← hH] at hP
  have hSw : va_S A sta.heap H locs := by rw [hH, hlo]; exact hSw
  have goal : W prg l env rum sta mid args below meth cod H locs 0 0 Q0 (F0 mid 0 ls []) := ?_
  · rw [hH, hlo] at goal; exact goal
  clear hlo
  refine lv_iload_n X.1 X.2.1 dX10_least_0 rfl (lv_at hl 1 rfl) ?_
  refine ln_sR X (c_X10_isRule l D g 1 x (Nat.le_refl _)) ln_nil mM_X10_95 Y_X10_isRule rfl (by omega) hl.1 rfl (Nat.le_of_ble_eq_true rfl) dX10_least_1 ⟨Nat.zero_le _, Nat.zero_le _⟩ (fun r1 hr1 => ?_)
  subst hr1
  refine rn_neB X (tgt := 10) dX10_least_4 (by decide) (fun h4 => ?_) (fun h4 => ?_)
  · skip
    obtain ⟨r, hr3, rfl⟩ := ln_inr_t (by decide) h4
    refine lv_iconst (v := nI 0) X.1 X.2.1 dX10_least_10 (by decide) ?_
    refine lv_istore_n (lv' := [(2, .int (nI 0)), (0, .ref (a 0)), (1, .int (nI r))]) X.1 X.2.1 dX10_least_11 rfl hl (by decide) rfl (fun ls hl => ?_)
    have L12 : ∀ (K : Nat) (z : Nat) (τ : ln_S) (H : Heap) (locs : List Loc), N 0 0 + 1 - z < K → (z ≤ N 0 0 + 1) → (∀ t, t < 2 ^ N 0 0 → ln_go N r t = true → z ≤ ln_pc t) → (ln_nM N τ) → (ln_MK N τ E) → va_P D ln_cl (MW a g τ) H → va_D A (MW a g τ) → va_S A sta.heap H locs → ∀ ls : Array Slot, lv_has ls 4 [(0, .ref (a 0)), (1, .int (nI r)), (2, .int (nI z))] → W prg l env rum sta mid args below meth cod H locs 0 0 Q0 (F0 mid 12 ls []) := by
      intro K
      induction K with
      | zero => intro z τ H locs hm; exact absurd hm (Nat.not_lt_zero _)
      | succ K ih12 =>
        intro z τ H locs hm12 hz hz1 hN hK hP hDw hSw ls hl
        refine lv_iload_n X.1 X.2.1 dX10_least_12 rfl (lv_at hl 2 rfl) ?_
        refine lv_aload_n X.1 X.2.1 dX10_least_13 rfl (lv_at hl 0 rfl) ?_
        refine gM_0_0 X hP (v := nI (N 0 0)) hN.n mF_X10_48 dX10_least_14 ?_
        refine rn_gt X (by omega) (by omega) (tgt := 61) dX10_least_17 (by decide) (fun h17 => ?_) (fun h17 => ?_)
        · skip
          refine lv_iconst (v := ((-1))) X.1 X.2.1 dX10_least_61 (by decide) ?_
          subst hQ0
          exact ln_retU X hr hlk hP hSw rfl (absurd (hz1 _ (ln_all_lt (N 0 0)) (ln_go_all hW r)) (by have := ln_pc_n hW (ln_all_lt (N 0 0)); omega)) dX10_least_62
        · skip
          refine lv_iconst (v := nI 0) X.1 X.2.1 dX10_least_20 (by decide) ?_
          refine lv_istore_n (lv' := [(3, .int (nI 0)), (0, .ref (a 0)), (1, .int (nI r)), (2, .int (nI z))]) X.1 X.2.1 dX10_least_21 rfl hl (by decide) rfl (fun ls hl => ?_)
          have L22 : ∀ (K : Nat) (k : Nat) (τ : ln_S) (H : Heap) (locs : List Loc), 2 ^ N 0 0 - k < K → (k ≤ 2 ^ N 0 0) → (∀ t, t < k → ln_go N r t = true → z < ln_pc t) → (ln_nM N τ) → (ln_MK N τ E) → va_P D ln_cl (MW a g τ) H → va_D A (MW a g τ) → va_S A sta.heap H locs → ∀ ls : Array Slot, lv_has ls 4 [(0, .ref (a 0)), (1, .int (nI r)), (2, .int (nI z)), (3, .int (nI k))] → W prg l env rum sta mid args below meth cod H locs 0 0 Q0 (F0 mid 22 ls []) := by
            intro K
            induction K with
            | zero => intro k τ H locs hm; exact absurd hm (Nat.not_lt_zero _)
            | succ K ih22 =>
              intro k τ H locs hm22 hk hk2 hN hK hP hDw hSw ls hl
              refine lv_iload_n X.1 X.2.1 dX10_least_22 rfl (lv_at hl 3 rfl) ?_
              refine lv_aload_n X.1 X.2.1 dX10_least_23 rfl (lv_at hl 0 rfl) ?_
              refine ln_vR X (c_X10_all l D g a τ 0 N hW hN (Nat.le_refl _)) hP 0 rfl rfl mM_X10_87 Y_X10_all rfl (by omega) hl.1 rfl (Nat.le_of_ble_eq_true rfl) dX10_least_24 ⟨Nat.zero_le _, Nat.zero_le _⟩ (fun r24 hr24 => ?_)
              subst hr24
              refine rn_gt X (by omega) (ln_31 (Nat.lt_of_lt_of_le (Nat.sub_lt (ln_pos2 _) (by decide)) hp12)) (tgt := 55) dX10_least_27 (by decide) (fun h27 => ?_) (fun h27 => ?_)
              · skip
                refine lv_iinc (v := nI (z + 1)) (lv' := [(2, .int (nI (z + 1))), (0, .ref (a 0)), (1, .int (nI r)), (3, .int (nI k))]) X.1 X.2.1 dX10_least_55 hl (k := 2) rfl rn_inc (by decide) rfl (fun ls hl => ?_)
                refine lv_goto (tgt := 12) X.1 X.2.1 dX10_least_58 (by decide) ?_
                exact ih12 (z + 1) τ H locs (by omega) (by omega) (fun t h1 h2 => hk2 t (by omega) h2) hN hK hP hDw hSw ls (lv_sub hl [1, 2, 0] rfl)
              · skip
                refine lv_iload_n X.1 X.2.1 dX10_least_30 rfl (lv_at hl 3 rfl) ?_
                refine ln_sR X (c_X10_ones l D g 0 k (ln_31 (show k < 4096 by omega)) (Nat.le_refl _)) ln_nil mM_X10_111 Y_X10_ones rfl (by omega) hl.1 rfl (Nat.le_of_ble_eq_true rfl) dX10_least_31 ⟨Nat.zero_le _, Nat.zero_le _⟩ (fun r31 hr31 => ?_)
                subst hr31
                refine lv_iload_n X.1 X.2.1 dX10_least_34 rfl (lv_at hl 2 rfl) ?_
                refine rn_ne X (ln_31 (Nat.lt_of_le_of_lt (ln_pc_le _) (by decide))) (by omega) (tgt := 49) dX10_least_35 (by decide) (fun h35 => ?_) (fun h35 => ?_)
                · skip
                  refine lv_iinc (v := nI (k + 1)) (lv' := [(3, .int (nI (k + 1))), (0, .ref (a 0)), (1, .int (nI r)), (2, .int (nI z))]) X.1 X.2.1 dX10_least_49 hl (k := 3) rfl rn_inc (by decide) rfl (fun ls hl => ?_)
                  refine lv_goto (tgt := 22) X.1 X.2.1 dX10_least_52 (by decide) ?_
                  exact ih22 (k + 1) τ H locs (by omega) (by omega) (fun t h1 h2 => by by_cases e : t = k; (· subst e; first | (have := hz1 t (by omega) h2; omega) | (rw [h44] at h2; exact absurd h2 (by decide))); (· exact hk2 t (by omega) h2)) hN hK hP hDw hSw ls (lv_sub hl [1, 2, 3, 0] rfl)
                · skip
                  refine lv_aload_n X.1 X.2.1 dX10_least_38 rfl (lv_at hl 0 rfl) ?_
                  refine lv_iload_n X.1 X.2.1 dX10_least_39 rfl (lv_at hl 1 rfl) ?_
                  refine lv_iload_n X.1 X.2.1 dX10_least_40 rfl (lv_at hl 3 rfl) ?_
                  refine ln_vU X (MW_ad a g) hA (c_X10_setsGoing l D g a τ 5 N hW hN E hK r k (by omega) (by omega) (show k < 2 ^ N 0 0 by omega) (Nat.le_refl _)) hP hDw hSw 0 rfl rfl mM_X10_117 Y_X10_setsGoing rfl (by omega) hl.1 rfl (Nat.le_of_ble_eq_true rfl) dX10_least_41 ⟨Nat.zero_le _, Nat.zero_le _⟩ (fun r41 τ41 H locs hr41 hP hDw hSw => ?_)
                  obtain ⟨hzg, hN, hK, hfg⟩ := hr41
                  subst hzg
                  refine rn_eqB X (tgt := 49) dX10_least_44 (by decide) (fun h44 => ?_) (fun h44 => ?_)
                  · skip
                    refine lv_iinc (v := nI (k + 1)) (lv' := [(3, .int (nI (k + 1))), (0, .ref (a 0)), (1, .int (nI r)), (2, .int (nI z))]) X.1 X.2.1 dX10_least_49 hl (k := 3) rfl rn_inc (by decide) rfl (fun ls hl => ?_)
                    refine lv_goto (tgt := 22) X.1 X.2.1 dX10_least_52 (by decide) ?_
                    exact ih22 (k + 1) τ41 H locs (by omega) (by omega) (fun t h1 h2 => by by_cases e : t = k; (· subst e; first | (have := hz1 t (by omega) h2; omega) | (rw [h44] at h2; exact absurd h2 (by decide))); (· exact hk2 t (by omega) h2)) hN hK hP hDw hSw ls (lv_sub hl [1, 2, 3, 0] rfl)
                  · skip
                    refine lv_iload_n X.1 X.2.1 dX10_least_47 rfl (lv_at hl 3 rfl) ?_
                    subst hQ0
                    exact ln_retU X hr hlk hP hSw rfl ⟨⟨hW, hN, by rw [hE99] at hK; exact hK⟩, Or.inr ⟨r, k, hr3, rfl, rfl, by omega, h44, fun t h1 h2 => by have a1 := hz1 t h1 h2; by_cases e : t < k; (· have := hk2 t e h2; omega); (· omega)⟩⟩ dX10_least_48
          exact L22 _ 0 τ H locs (Nat.lt_succ_self _) (Nat.zero_le _) (fun t h => absurd h (Nat.not_lt_zero t)) hN hK hP hDw hSw ls (lv_sub hl [1, 2, 3, 0] rfl)
    exact L12 _ 0 σ H locs (Nat.lt_succ_self _) (Nat.zero_le _) (fun t _ _ => Nat.zero_le _) hN hK hP hDw hSw ls (lv_sub hl [1, 2, 0] rfl)
  · skip
    refine lv_bipush (v := ((-2))) X.1 X.2.1 dX10_least_7 (by decide) ?_
    subst hQ0
    exact ln_retU X hr hlk hP hSw rfl ⟨⟨hW, hN, by rw [hE99] at hK; exact hK⟩, Or.inl ⟨h4, rfl⟩⟩ dX10_least_9
set_option maxHeartbeats 4000000 in
set_option maxRecDepth 100000 in
theorem c_X10_many (l : Launch) (D : va_G) (g : Nat → ClassId) (a : Nat → Nat) (σ : ln_S) (d : Nat) (N : ln_N) (hI : ln_MI N σ) (x : Int32) (hd : 7 ≤ d) : ln_U l D g (MW a g) yX10_many (.code yX10_many cX10_many 5 (some .int)) d [.ref (a 0), .int x] σ (fun z τ => ln_MI N τ ∧ ln_oMn N x z) := by
  obtain ⟨hW, hN, hK⟩ := hI
  obtain ⟨E, hE99⟩ : ∃ E, E = 99 := ⟨_, rfl⟩
  rw [← hE99] at hK
  have hN12 := hW.n12
  have hp12 := hW.p12
  have hs1 := ln_sub1 (N 0 0)
  refine ln_ofU (by decide +kernel) (Nat.le_of_ble_eq_true rfl) (fun prg env rum sta mid args below meth cod ls A hr hlk X hA hP hDw hSw hl => ?_)
  have hl : lv_has ls 5 [(0, .ref (a 0)), (1, .int x)] := hl
  generalize hQ0 : (MQ below (va_Qi (fun z τ => ln_MI N τ ∧ ln_oMn N x z) (fun τ t => va_P D ln_cl (MW a g τ) t.heap) A) args sta 0 0 A) = Q0
  obtain ⟨H, hH⟩ : ∃ H, H = sta.heap := ⟨_, rfl⟩
  obtain ⟨locs, hlo⟩ : ∃ x : List Loc, x = [] := ⟨_, rfl⟩
  rw [← hH] at hP
  have hSw : va_S A sta.heap H locs := by rw [hH, hlo]; exact hSw
  have goal : W prg l env rum sta mid args below meth cod H locs 0 0 Q0 (F0 mid 0 ls []) := ?_
  · rw [hH, hlo] at goal; exact goal
  clear hlo
  refine lv_iload_n X.1 X.2.1 dX10_many_0 rfl (lv_at hl 1 rfl) ?_
  refine ln_sR X (c_X10_isRule l D g 1 x (Nat.le_refl _)) ln_nil mM_X10_95 Y_X10_isRule rfl (by omega) hl.1 rfl (Nat.le_of_ble_eq_true rfl) dX10_many_1 ⟨Nat.zero_le _, Nat.zero_le _⟩ (fun r1 hr1 => ?_)
  subst hr1
  refine rn_neB X (tgt := 10) dX10_many_4 (by decide) (fun h4 => ?_) (fun h4 => ?_)
  · skip
    obtain ⟨r, hr3, rfl⟩ := ln_inr_t (by decide) h4
    refine lv_aload_n X.1 X.2.1 dX10_many_10 rfl (lv_at hl 0 rfl) ?_
    refine lv_iload_n X.1 X.2.1 dX10_many_11 rfl (lv_at hl 1 rfl) ?_
    refine ln_vU X (MW_ad a g) hA (c_X10_least l D g a σ 6 N ⟨hW, hN, by rw [hE99] at hK; exact hK⟩ (nI r) (Nat.le_refl _)) hP hDw hSw 0 rfl rfl mM_X10_120 Y_X10_least rfl (by omega) hl.1 rfl (Nat.le_of_ble_eq_true rfl) dX10_many_12 ⟨Nat.zero_le _, Nat.zero_le _⟩ (fun r12 τ12 H locs hr12 hP hDw hSw => ?_)
    obtain ⟨⟨_, hN, hK⟩, hol⟩ := hr12
    rw [← hE99] at hK
    obtain ⟨s, rfl, hs⟩ : ∃ s, r12 = nI s ∧ ln_isL N r s := by
      rcases hol with ⟨q1, _⟩ | ⟨q, s, hq, hx, hz, hs⟩
      · rw [h4] at q1; exact absurd q1 (by decide)
      · have e := ln_r_one hr3 hq rfl hx
        subst e; exact ⟨s, hz, hs⟩
    refine ln_sR X (c_X10_ones l D g 0 s (ln_31 (ln_n12 hW hs.1)) (Nat.le_refl _)) ln_nil mM_X10_111 Y_X10_ones rfl (by omega) hl.1 rfl (Nat.le_of_ble_eq_true rfl) dX10_many_15 ⟨Nat.zero_le _, Nat.zero_le _⟩ (fun r15 hr15 => ?_)
    subst hr15
    refine lv_istore_n (lv' := [(2, .int (nI (ln_pc s))), (0, .ref (a 0)), (1, .int (nI r))]) X.1 X.2.1 dX10_many_18 rfl hl (by decide) rfl (fun ls hl => ?_)
    refine lv_iconst (v := nI 0) X.1 X.2.1 dX10_many_19 (by decide) ?_
    refine lv_istore_n (lv' := [(3, .int (nI 0)), (2, .int (nI (ln_pc s))), (0, .ref (a 0)), (1, .int (nI r))]) X.1 X.2.1 dX10_many_20 rfl hl (by decide) rfl (fun ls hl => ?_)
    refine lv_iconst (v := nI 0) X.1 X.2.1 dX10_many_21 (by decide) ?_
    refine lv_istore (lv' := [(4, .int (nI 0)), (3, .int (nI 0)), (2, .int (nI (ln_pc s))), (0, .ref (a 0)), (1, .int (nI r))]) X.1 X.2.1 dX10_many_22 hl (by decide) rfl (fun ls hl => ?_)
    have L24 : ∀ (K : Nat) (k : Nat) (b : Nat) (τ : ln_S) (H : Heap) (locs : List Loc), 2 ^ N 0 0 - k < K → (k ≤ 2 ^ N 0 0) → (b = ln_ct (ln_cs N r s) k) → (ln_nM N τ) → (ln_MK N τ E) → va_P D ln_cl (MW a g τ) H → va_D A (MW a g τ) → va_S A sta.heap H locs → ∀ ls : Array Slot, lv_has ls 5 [(0, .ref (a 0)), (1, .int (nI r)), (2, .int (nI (ln_pc s))), (3, .int (nI b)), (4, .int (nI k))] → W prg l env rum sta mid args below meth cod H locs 0 0 Q0 (F0 mid 24 ls []) := by
      intro K
      induction K with
      | zero => intro k b τ H locs hm; exact absurd hm (Nat.not_lt_zero _)
      | succ K ih24 =>
        intro k b τ H locs hm24 hk hb hN hK hP hDw hSw ls hl
        refine lv_iload X.1 X.2.1 dX10_many_24 (lv_at hl 4 rfl) ?_
        refine lv_aload_n X.1 X.2.1 dX10_many_26 rfl (lv_at hl 0 rfl) ?_
        refine ln_vR X (c_X10_all l D g a τ 0 N hW hN (Nat.le_refl _)) hP 0 rfl rfl mM_X10_87 Y_X10_all rfl (by omega) hl.1 rfl (Nat.le_of_ble_eq_true rfl) dX10_many_27 ⟨Nat.zero_le _, Nat.zero_le _⟩ (fun r27 hr27 => ?_)
        subst hr27
        refine rn_gt X (by omega) (ln_31 (Nat.lt_of_lt_of_le (Nat.sub_lt (ln_pos2 _) (by decide)) hp12)) (tgt := 66) dX10_many_30 (by decide) (fun h30 => ?_) (fun h30 => ?_)
        · skip
          refine lv_iload_n X.1 X.2.1 dX10_many_66 rfl (lv_at hl 3 rfl) ?_
          subst hQ0
          exact ln_retU X hr hlk hP hSw rfl ⟨⟨hW, hN, by rw [hE99] at hK; exact hK⟩, Or.inr ⟨r, s, hr3, rfl, hs, by rw [hb, show k = 2 ^ N 0 0 by omega]⟩⟩ dX10_many_67
        · skip
          refine lv_iload_n X.1 X.2.1 dX10_many_33 rfl (lv_at hl 3 rfl) ?_
          refine lv_iload X.1 X.2.1 dX10_many_34 (lv_at hl 4 rfl) ?_
          refine ln_sR X (c_X10_ones l D g 0 k (ln_31 (show k < 4096 by omega)) (Nat.le_refl _)) ln_nil mM_X10_111 Y_X10_ones rfl (by omega) hl.1 rfl (Nat.le_of_ble_eq_true rfl) dX10_many_36 ⟨Nat.zero_le _, Nat.zero_le _⟩ (fun r36 hr36 => ?_)
          subst hr36
          refine lv_iload_n X.1 X.2.1 dX10_many_39 rfl (lv_at hl 2 rfl) ?_
          refine rn_ne X (ln_31 (Nat.lt_of_le_of_lt (ln_pc_le _) (by decide))) (ln_31 (Nat.lt_of_le_of_lt (ln_pc_le _) (by decide))) (tgt := 57) dX10_many_40 (by decide) (fun h40 => ?_) (fun h40 => ?_)
          · skip
            refine lv_iconst (v := nI 0) X.1 X.2.1 dX10_many_57 (by decide) ?_
            refine rn_add X dX10_many_58 ?_
            refine lv_istore_n (lv' := [(3, .int (nI (b + 0))), (0, .ref (a 0)), (1, .int (nI r)), (2, .int (nI (ln_pc s))), (4, .int (nI k))]) X.1 X.2.1 dX10_many_59 rfl hl (by decide) rfl (fun ls hl => ?_)
            refine lv_iinc (v := nI (k + 1)) (lv' := [(4, .int (nI (k + 1))), (3, .int (nI (b + 0))), (0, .ref (a 0)), (1, .int (nI r)), (2, .int (nI (ln_pc s)))]) X.1 X.2.1 dX10_many_60 hl (k := 4) rfl rn_inc (by decide) rfl (fun ls hl => ?_)
            refine lv_goto (tgt := 24) X.1 X.2.1 dX10_many_63 (by decide) ?_
            exact ih24 (k + 1) _ τ H locs (by omega) (by omega) (by first | (rw [ln_ct_f (ln_cs_g h40), Nat.add_zero, hb]) | (rw [ln_ct_f (ln_cs_f h50), Nat.add_zero, hb]) | (rw [ln_ct_t (ln_cs_t h50 h40), hb])) hN hK hP hDw hSw ls (lv_sub hl [2, 3, 4, 1, 0] rfl)
          · skip
            refine lv_aload_n X.1 X.2.1 dX10_many_43 rfl (lv_at hl 0 rfl) ?_
            refine lv_iload_n X.1 X.2.1 dX10_many_44 rfl (lv_at hl 1 rfl) ?_
            refine lv_iload X.1 X.2.1 dX10_many_45 (lv_at hl 4 rfl) ?_
            refine ln_vU X (MW_ad a g) hA (c_X10_setsGoing l D g a τ 5 N hW hN E hK r k (by omega) (by omega) (show k < 2 ^ N 0 0 by omega) (Nat.le_refl _)) hP hDw hSw 0 rfl rfl mM_X10_117 Y_X10_setsGoing rfl (by omega) hl.1 rfl (Nat.le_of_ble_eq_true rfl) dX10_many_47 ⟨Nat.zero_le _, Nat.zero_le _⟩ (fun r47 τ47 H locs hr47 hP hDw hSw => ?_)
            obtain ⟨hzg, hN, hK, hfg⟩ := hr47
            subst hzg
            refine rn_eqB X (tgt := 57) dX10_many_50 (by decide) (fun h50 => ?_) (fun h50 => ?_)
            · skip
              refine lv_iconst (v := nI 0) X.1 X.2.1 dX10_many_57 (by decide) ?_
              refine rn_add X dX10_many_58 ?_
              refine lv_istore_n (lv' := [(3, .int (nI (b + 0))), (0, .ref (a 0)), (1, .int (nI r)), (2, .int (nI (ln_pc s))), (4, .int (nI k))]) X.1 X.2.1 dX10_many_59 rfl hl (by decide) rfl (fun ls hl => ?_)
              refine lv_iinc (v := nI (k + 1)) (lv' := [(4, .int (nI (k + 1))), (3, .int (nI (b + 0))), (0, .ref (a 0)), (1, .int (nI r)), (2, .int (nI (ln_pc s)))]) X.1 X.2.1 dX10_many_60 hl (k := 4) rfl rn_inc (by decide) rfl (fun ls hl => ?_)
              refine lv_goto (tgt := 24) X.1 X.2.1 dX10_many_63 (by decide) ?_
              exact ih24 (k + 1) _ τ47 H locs (by omega) (by omega) (by first | (rw [ln_ct_f (ln_cs_g h40), Nat.add_zero, hb]) | (rw [ln_ct_f (ln_cs_f h50), Nat.add_zero, hb]) | (rw [ln_ct_t (ln_cs_t h50 h40), hb])) hN hK hP hDw hSw ls (lv_sub hl [2, 3, 4, 1, 0] rfl)
            · skip
              refine lv_iconst (v := nI 1) X.1 X.2.1 dX10_many_53 (by decide) ?_
              refine lv_goto (tgt := 58) X.1 X.2.1 dX10_many_54 (by decide) ?_
              refine rn_add X dX10_many_58 ?_
              refine lv_istore_n (lv' := [(3, .int (nI (b + 1))), (0, .ref (a 0)), (1, .int (nI r)), (2, .int (nI (ln_pc s))), (4, .int (nI k))]) X.1 X.2.1 dX10_many_59 rfl hl (by decide) rfl (fun ls hl => ?_)
              refine lv_iinc (v := nI (k + 1)) (lv' := [(4, .int (nI (k + 1))), (3, .int (nI (b + 1))), (0, .ref (a 0)), (1, .int (nI r)), (2, .int (nI (ln_pc s)))]) X.1 X.2.1 dX10_many_60 hl (k := 4) rfl rn_inc (by decide) rfl (fun ls hl => ?_)
              refine lv_goto (tgt := 24) X.1 X.2.1 dX10_many_63 (by decide) ?_
              exact ih24 (k + 1) _ τ47 H locs (by omega) (by omega) (by first | (rw [ln_ct_f (ln_cs_g h40), Nat.add_zero, hb]) | (rw [ln_ct_f (ln_cs_f h50), Nat.add_zero, hb]) | (rw [ln_ct_t (ln_cs_t h50 h40), hb])) hN hK hP hDw hSw ls (lv_sub hl [2, 3, 4, 1, 0] rfl)
    exact L24 _ 0 0 τ12 H locs (Nat.lt_succ_self _) (Nat.zero_le _) rfl hN hK hP hDw hSw ls (lv_sub hl [3, 4, 2, 1, 0] rfl)
  · skip
    refine lv_bipush (v := ((-2))) X.1 X.2.1 dX10_many_7 (by decide) ?_
    subst hQ0
    exact ln_retU X hr hlk hP hSw rfl ⟨⟨hW, hN, by rw [hE99] at hK; exact hK⟩, Or.inl ⟨h4, rfl⟩⟩ dX10_many_9
set_option maxHeartbeats 4000000 in
set_option maxRecDepth 100000 in
theorem c_X10_cheapest (l : Launch) (D : va_G) (g : Nat → ClassId) (a : Nat → Nat) (σ : ln_S) (d : Nat) (N : ln_N) (hI : ln_MI N σ) (x : Int32) (hd : 6 ≤ d) : ln_U l D g (MW a g) yX10_cheapest (.code yX10_cheapest cX10_cheapest 7 (some .int)) d [.ref (a 0), .int x] σ (fun z τ => ln_MI N τ ∧ ln_oCh N x z) := by
  obtain ⟨hW, hN, hK⟩ := hI
  obtain ⟨E, hE99⟩ : ∃ E, E = 99 := ⟨_, rfl⟩
  rw [← hE99] at hK
  have hN12 := hW.n12
  have hp12 := hW.p12
  have hs1 := ln_sub1 (N 0 0)
  have hpl := fun t q => ln_pri_le hW t q
  refine ln_ofU (by decide +kernel) (Nat.le_of_ble_eq_true rfl) (fun prg env rum sta mid args below meth cod ls A hr hlk X hA hP hDw hSw hl => ?_)
  have hl : lv_has ls 7 [(0, .ref (a 0)), (1, .int x)] := hl
  generalize hQ0 : (MQ below (va_Qi (fun z τ => ln_MI N τ ∧ ln_oCh N x z) (fun τ t => va_P D ln_cl (MW a g τ) t.heap) A) args sta 0 0 A) = Q0
  obtain ⟨H, hH⟩ : ∃ H, H = sta.heap := ⟨_, rfl⟩
  obtain ⟨locs, hlo⟩ : ∃ x : List Loc, x = [] := ⟨_, rfl⟩
  rw [← hH] at hP
  have hSw : va_S A sta.heap H locs := by rw [hH, hlo]; exact hSw
  have goal : W prg l env rum sta mid args below meth cod H locs 0 0 Q0 (F0 mid 0 ls []) := ?_
  · rw [hH, hlo] at goal; exact goal
  clear hlo
  refine lv_iload_n X.1 X.2.1 dX10_cheapest_0 rfl (lv_at hl 1 rfl) ?_
  refine ln_sR X (c_X10_isRule l D g 1 x (Nat.le_refl _)) ln_nil mM_X10_95 Y_X10_isRule rfl (by omega) hl.1 rfl (Nat.le_of_ble_eq_true rfl) dX10_cheapest_1 ⟨Nat.zero_le _, Nat.zero_le _⟩ (fun r1 hr1 => ?_)
  subst hr1
  refine rn_neB X (tgt := 10) dX10_cheapest_4 (by decide) (fun h4 => ?_) (fun h4 => ?_)
  · skip
    obtain ⟨r, hr3, rfl⟩ := ln_inr_t (by decide) h4
    refine lv_iconst (v := nI 0) X.1 X.2.1 dX10_cheapest_10 (by decide) ?_
    refine lv_istore_n (lv' := [(2, .int (nI 0)), (0, .ref (a 0)), (1, .int (nI r))]) X.1 X.2.1 dX10_cheapest_11 rfl hl (by decide) rfl (fun ls hl => ?_)
    refine lv_ldc (v := nI 1000000) X.1 X.2.1 X.2.2.2.1 (X.ts args mK_X10_123 rfl) dX10_cheapest_12 ?_
    refine lv_istore_n (lv' := [(3, .int (nI 1000000)), (2, .int (nI 0)), (0, .ref (a 0)), (1, .int (nI r))]) X.1 X.2.1 dX10_cheapest_14 rfl hl (by decide) rfl (fun ls hl => ?_)
    refine lv_iconst (v := nI 0) X.1 X.2.1 dX10_cheapest_15 (by decide) ?_
    refine lv_istore (lv' := [(4, .int (nI 0)), (3, .int (nI 1000000)), (2, .int (nI 0)), (0, .ref (a 0)), (1, .int (nI r))]) X.1 X.2.1 dX10_cheapest_16 hl (by decide) rfl (fun ls hl => ?_)
    have L18 : ∀ (K : Nat) (k : Nat) (b : Nat) (v : Nat) (τ : ln_S) (H : Heap) (locs : List Loc), 2 ^ N 0 0 - k < K → (k ≤ 2 ^ N 0 0) → (v ≤ 1000000) → (ln_bQ N r b v k) → (ln_nM N τ) → (ln_MK N τ E) → va_P D ln_cl (MW a g τ) H → va_D A (MW a g τ) → va_S A sta.heap H locs → ∀ ls : Array Slot, lv_has ls 7 [(0, .ref (a 0)), (1, .int (nI r)), (2, .int (nI b)), (3, .int (nI v)), (4, .int (nI k))] → W prg l env rum sta mid args below meth cod H locs 0 0 Q0 (F0 mid 18 ls []) := by
      intro K
      induction K with
      | zero => intro k b v τ H locs hm; exact absurd hm (Nat.not_lt_zero _)
      | succ K ih18 =>
        intro k b v τ H locs hm18 hk hv hb hN hK hP hDw hSw ls hl
        refine lv_iload X.1 X.2.1 dX10_cheapest_18 (lv_at hl 4 rfl) ?_
        refine lv_aload_n X.1 X.2.1 dX10_cheapest_20 rfl (lv_at hl 0 rfl) ?_
        refine ln_vR X (c_X10_all l D g a τ 0 N hW hN (Nat.le_refl _)) hP 0 rfl rfl mM_X10_87 Y_X10_all rfl (by omega) hl.1 rfl (Nat.le_of_ble_eq_true rfl) dX10_cheapest_21 ⟨Nat.zero_le _, Nat.zero_le _⟩ (fun r21 hr21 => ?_)
        subst hr21
        refine rn_gt X (by omega) (ln_31 (Nat.lt_of_lt_of_le (Nat.sub_lt (ln_pos2 _) (by decide)) hp12)) (tgt := 105) dX10_cheapest_24 (by decide) (fun h24 => ?_) (fun h24 => ?_)
        · skip
          refine lv_iload_n X.1 X.2.1 dX10_cheapest_105 rfl (lv_at hl 2 rfl) ?_
          subst hQ0
          exact ln_retU X hr hlk hP hSw rfl ⟨⟨hW, hN, by rw [hE99] at hK; exact hK⟩, Or.inr ⟨r, b, hr3, rfl, rfl, ln_bQ_end hW (by rw [show k = 2 ^ N 0 0 by omega] at hb; exact hb)⟩⟩ dX10_cheapest_106
        · skip
          refine lv_iconst (v := nI 0) X.1 X.2.1 dX10_cheapest_27 (by decide) ?_
          refine lv_istore (lv' := [(5, .int (nI 0)), (0, .ref (a 0)), (1, .int (nI r)), (2, .int (nI b)), (3, .int (nI v)), (4, .int (nI k))]) X.1 X.2.1 dX10_cheapest_28 hl (by decide) rfl (fun ls hl => ?_)
          refine lv_iconst (v := nI 0) X.1 X.2.1 dX10_cheapest_30 (by decide) ?_
          refine lv_istore (lv' := [(6, .int (nI 0)), (5, .int (nI 0)), (0, .ref (a 0)), (1, .int (nI r)), (2, .int (nI b)), (3, .int (nI v)), (4, .int (nI k))]) X.1 X.2.1 dX10_cheapest_31 hl (by decide) rfl (fun ls hl => ?_)
          have L33 : ∀ (K : Nat) (p : Nat) (y : Nat), N 0 0 - p < K → (p ≤ N 0 0) → (y = ln_pri N k p) → ∀ ls : Array Slot, lv_has ls 7 [(0, .ref (a 0)), (1, .int (nI r)), (2, .int (nI b)), (3, .int (nI v)), (4, .int (nI k)), (5, .int (nI y)), (6, .int (nI p))] → W prg l env rum sta mid args below meth cod H locs 0 0 Q0 (F0 mid 33 ls []) := by
            intro K
            induction K with
            | zero => intro p y hm; exact absurd hm (Nat.not_lt_zero _)
            | succ K ih33 =>
              intro p y hm33 hp hy ls hl
              refine lv_iload X.1 X.2.1 dX10_cheapest_33 (lv_at hl 6 rfl) ?_
              refine lv_aload_n X.1 X.2.1 dX10_cheapest_35 rfl (lv_at hl 0 rfl) ?_
              refine gM_0_0 X hP (v := nI (N 0 0)) hN.n mF_X10_48 dX10_cheapest_36 ?_
              refine rn_ge X (by omega) (by omega) (tgt := 74) dX10_cheapest_39 (by decide) (fun h39 => ?_) (fun h39 => ?_)
              · skip
                have hy2 : y = ln_pri N k (N 0 0) := by rw [hy, show p = N 0 0 by omega]
                have hyl : ln_pri N k (N 0 0) ≤ 12000 := by have := hpl k (N 0 0); omega
                refine lv_iload X.1 X.2.1 dX10_cheapest_74 (lv_at hl 5 rfl) ?_
                refine lv_iload_n X.1 X.2.1 dX10_cheapest_76 rfl (lv_at hl 3 rfl) ?_
                refine rn_ge X (by omega) (by omega) (tgt := 99) dX10_cheapest_77 (by decide) (fun h77 => ?_) (fun h77 => ?_)
                · skip
                  refine lv_iinc (v := nI (k + 1)) (lv' := [(4, .int (nI (k + 1))), (0, .ref (a 0)), (1, .int (nI r)), (2, .int (nI b)), (3, .int (nI v)), (5, .int (nI y)), (6, .int (nI p))]) X.1 X.2.1 dX10_cheapest_99 hl (k := 4) rfl rn_inc (by decide) rfl (fun ls hl => ?_)
                  refine lv_goto (tgt := 18) X.1 X.2.1 dX10_cheapest_102 (by decide) ?_
                  exact ih18 (k + 1) _ _ τ H locs (by omega) (by omega) (by first | exact hv | omega) (by first | exact ln_bQ_skip hb h87 | exact ln_bQ_keep hb (by omega) (hy2 ▸ h77) | (rw [hy2]; exact ln_bQ_take hb (by omega) h87 (hy2 ▸ h77))) hN hK hP hDw hSw ls (lv_sub hl [1, 2, 3, 4, 0] rfl)
                · skip
                  refine lv_aload_n X.1 X.2.1 dX10_cheapest_80 rfl (lv_at hl 0 rfl) ?_
                  refine lv_iload_n X.1 X.2.1 dX10_cheapest_81 rfl (lv_at hl 1 rfl) ?_
                  refine lv_iload X.1 X.2.1 dX10_cheapest_82 (lv_at hl 4 rfl) ?_
                  refine ln_vU X (MW_ad a g) hA (c_X10_setsGoing l D g a τ 5 N hW hN E hK r k (by omega) (by omega) (show k < 2 ^ N 0 0 by omega) (Nat.le_refl _)) hP hDw hSw 0 rfl rfl mM_X10_117 Y_X10_setsGoing rfl (by omega) hl.1 rfl (Nat.le_of_ble_eq_true rfl) dX10_cheapest_84 ⟨Nat.zero_le _, Nat.zero_le _⟩ (fun r84 τ84 H locs hr84 hP hDw hSw => ?_)
                  obtain ⟨hzg, hN, hK, hfg⟩ := hr84
                  subst hzg
                  refine rn_neB X (tgt := 93) dX10_cheapest_87 (by decide) (fun h87 => ?_) (fun h87 => ?_)
                  · skip
                    refine lv_iload X.1 X.2.1 dX10_cheapest_93 (lv_at hl 5 rfl) ?_
                    refine lv_istore_n (lv' := [(3, .int (nI y)), (0, .ref (a 0)), (1, .int (nI r)), (2, .int (nI b)), (4, .int (nI k)), (5, .int (nI y)), (6, .int (nI p))]) X.1 X.2.1 dX10_cheapest_95 rfl hl (by decide) rfl (fun ls hl => ?_)
                    refine lv_iload X.1 X.2.1 dX10_cheapest_96 (lv_at hl 4 rfl) ?_
                    refine lv_istore_n (lv' := [(2, .int (nI k)), (3, .int (nI y)), (0, .ref (a 0)), (1, .int (nI r)), (4, .int (nI k)), (5, .int (nI y)), (6, .int (nI p))]) X.1 X.2.1 dX10_cheapest_98 rfl hl (by decide) rfl (fun ls hl => ?_)
                    refine lv_iinc (v := nI (k + 1)) (lv' := [(4, .int (nI (k + 1))), (2, .int (nI k)), (3, .int (nI y)), (0, .ref (a 0)), (1, .int (nI r)), (5, .int (nI y)), (6, .int (nI p))]) X.1 X.2.1 dX10_cheapest_99 hl (k := 4) rfl rn_inc (by decide) rfl (fun ls hl => ?_)
                    refine lv_goto (tgt := 18) X.1 X.2.1 dX10_cheapest_102 (by decide) ?_
                    exact ih18 (k + 1) _ _ τ84 H locs (by omega) (by omega) (by first | exact hv | omega) (by first | exact ln_bQ_skip hb h87 | exact ln_bQ_keep hb (by omega) (hy2 ▸ h77) | (rw [hy2]; exact ln_bQ_take hb (by omega) h87 (hy2 ▸ h77))) hN hK hP hDw hSw ls (lv_sub hl [3, 4, 1, 2, 0] rfl)
                  · skip
                    refine lv_goto (tgt := 99) X.1 X.2.1 dX10_cheapest_90 (by decide) ?_
                    refine lv_iinc (v := nI (k + 1)) (lv' := [(4, .int (nI (k + 1))), (0, .ref (a 0)), (1, .int (nI r)), (2, .int (nI b)), (3, .int (nI v)), (5, .int (nI y)), (6, .int (nI p))]) X.1 X.2.1 dX10_cheapest_99 hl (k := 4) rfl rn_inc (by decide) rfl (fun ls hl => ?_)
                    refine lv_goto (tgt := 18) X.1 X.2.1 dX10_cheapest_102 (by decide) ?_
                    exact ih18 (k + 1) _ _ τ84 H locs (by omega) (by omega) (by first | exact hv | omega) (by first | exact ln_bQ_skip hb h87 | exact ln_bQ_keep hb (by omega) (hy2 ▸ h77) | (rw [hy2]; exact ln_bQ_take hb (by omega) h87 (hy2 ▸ h77))) hN hK hP hDw hSw ls (lv_sub hl [1, 2, 3, 4, 0] rfl)
              · skip
                refine lv_iload X.1 X.2.1 dX10_cheapest_42 (lv_at hl 5 rfl) ?_
                refine lv_iload X.1 X.2.1 dX10_cheapest_44 (lv_at hl 4 rfl) ?_
                refine lv_iload X.1 X.2.1 dX10_cheapest_46 (lv_at hl 6 rfl) ?_
                refine ln_sR X (c_X10_has l D g 0 k p (ln_31 (show k < 4096 by omega)) (by omega) (Nat.le_refl _)) ln_nil mM_X10_70 Y_X10_has rfl (by omega) hl.1 rfl (Nat.le_of_ble_eq_true rfl) dX10_cheapest_48 ⟨Nat.zero_le _, Nat.zero_le _⟩ (fun r48 hr48 => ?_)
                subst hr48
                refine rn_eqB X (tgt := 64) dX10_cheapest_51 (by decide) (fun h51 => ?_) (fun h51 => ?_)
                · skip
                  refine lv_iconst (v := nI 0) X.1 X.2.1 dX10_cheapest_64 (by decide) ?_
                  refine rn_add X dX10_cheapest_65 ?_
                  refine lv_istore (lv' := [(5, .int (nI (y + 0))), (0, .ref (a 0)), (1, .int (nI r)), (2, .int (nI b)), (3, .int (nI v)), (4, .int (nI k)), (6, .int (nI p))]) X.1 X.2.1 dX10_cheapest_66 hl (by decide) rfl (fun ls hl => ?_)
                  refine lv_iinc (v := nI (p + 1)) (lv' := [(6, .int (nI (p + 1))), (5, .int (nI (y + 0))), (0, .ref (a 0)), (1, .int (nI r)), (2, .int (nI b)), (3, .int (nI v)), (4, .int (nI k))]) X.1 X.2.1 dX10_cheapest_68 hl (k := 6) rfl rn_inc (by decide) rfl (fun ls hl => ?_)
                  refine lv_goto (tgt := 33) X.1 X.2.1 dX10_cheapest_71 (by decide) ?_
                  exact ih33 (p + 1) _ (by omega) (by omega) (by rw [hy]; first | rw [ln_pri_t h51] | rw [ln_pri_f h51, Nat.add_zero]) ls (lv_sub hl [2, 3, 4, 5, 6, 1, 0] rfl)
                · skip
                  refine lv_aload_n X.1 X.2.1 dX10_cheapest_54 rfl (lv_at hl 0 rfl) ?_
                  refine gM_0_3 X hP mF_X10_16 dX10_cheapest_55 ?_
                  refine lv_iload X.1 X.2.1 dX10_cheapest_58 (lv_at hl 6 rfl) ?_
                  refine lM_3 X hP (by omega) (v := nI (N 2 p)) (hN.pr (by omega)) dX10_cheapest_60 ?_
                  refine lv_goto (tgt := 65) X.1 X.2.1 dX10_cheapest_61 (by decide) ?_
                  refine rn_add X dX10_cheapest_65 ?_
                  refine lv_istore (lv' := [(5, .int (nI (y + (N 2 p)))), (0, .ref (a 0)), (1, .int (nI r)), (2, .int (nI b)), (3, .int (nI v)), (4, .int (nI k)), (6, .int (nI p))]) X.1 X.2.1 dX10_cheapest_66 hl (by decide) rfl (fun ls hl => ?_)
                  refine lv_iinc (v := nI (p + 1)) (lv' := [(6, .int (nI (p + 1))), (5, .int (nI (y + (N 2 p)))), (0, .ref (a 0)), (1, .int (nI r)), (2, .int (nI b)), (3, .int (nI v)), (4, .int (nI k))]) X.1 X.2.1 dX10_cheapest_68 hl (k := 6) rfl rn_inc (by decide) rfl (fun ls hl => ?_)
                  refine lv_goto (tgt := 33) X.1 X.2.1 dX10_cheapest_71 (by decide) ?_
                  exact ih33 (p + 1) _ (by omega) (by omega) (by rw [hy]; first | rw [ln_pri_t h51] | rw [ln_pri_f h51, Nat.add_zero]) ls (lv_sub hl [2, 3, 4, 5, 6, 1, 0] rfl)
          exact L33 _ 0 0 (Nat.lt_succ_self _) (Nat.zero_le _) rfl ls (lv_sub hl [2, 3, 4, 5, 6, 1, 0] rfl)
    exact L18 _ 0 0 1000000 σ H locs (Nat.lt_succ_self _) (Nat.zero_le _) (Nat.le_refl _) (Or.inl ⟨rfl, rfl, fun t ht => absurd ht (Nat.not_lt_zero t)⟩) hN hK hP hDw hSw ls (lv_sub hl [3, 4, 2, 1, 0] rfl)
  · skip
    refine lv_bipush (v := ((-2))) X.1 X.2.1 dX10_cheapest_7 (by decide) ?_
    subst hQ0
    exact ln_retU X hr hlk hP hSw rfl ⟨⟨hW, hN, by rw [hE99] at hK; exact hK⟩, Or.inl ⟨h4, rfl⟩⟩ dX10_cheapest_9
set_option maxHeartbeats 4000000 in
set_option maxRecDepth 100000 in
theorem c_X10_pared (l : Launch) (D : va_G) (g : Nat → ClassId) (a : Nat → Nat) (σ : ln_S) (d : Nat) (N : ln_N) (hI : ln_MI N σ) (x : Int32) (hd : 6 ≤ d) : ln_U l D g (MW a g) yX10_pared (.code yX10_pared cX10_pared 4 (some .int)) d [.ref (a 0), .int x] σ (fun z τ => ln_MI N τ ∧ ln_oPd N x z) := by
  obtain ⟨hW, hN, hK⟩ := hI
  obtain ⟨E, hE99⟩ : ∃ E, E = 99 := ⟨_, rfl⟩
  rw [← hE99] at hK
  have hN12 := hW.n12
  have hp12 := hW.p12
  have hs1 := ln_sub1 (N 0 0)
  refine ln_ofU (by decide +kernel) (Nat.le_of_ble_eq_true rfl) (fun prg env rum sta mid args below meth cod ls A hr hlk X hA hP hDw hSw hl => ?_)
  have hl : lv_has ls 4 [(0, .ref (a 0)), (1, .int x)] := hl
  generalize hQ0 : (MQ below (va_Qi (fun z τ => ln_MI N τ ∧ ln_oPd N x z) (fun τ t => va_P D ln_cl (MW a g τ) t.heap) A) args sta 0 0 A) = Q0
  obtain ⟨H, hH⟩ : ∃ H, H = sta.heap := ⟨_, rfl⟩
  obtain ⟨locs, hlo⟩ : ∃ x : List Loc, x = [] := ⟨_, rfl⟩
  rw [← hH] at hP
  have hSw : va_S A sta.heap H locs := by rw [hH, hlo]; exact hSw
  have goal : W prg l env rum sta mid args below meth cod H locs 0 0 Q0 (F0 mid 0 ls []) := ?_
  · rw [hH, hlo] at goal; exact goal
  clear hlo
  refine lv_iload_n X.1 X.2.1 dX10_pared_0 rfl (lv_at hl 1 rfl) ?_
  refine ln_sR X (c_X10_isRule l D g 1 x (Nat.le_refl _)) ln_nil mM_X10_95 Y_X10_isRule rfl (by omega) hl.1 rfl (Nat.le_of_ble_eq_true rfl) dX10_pared_1 ⟨Nat.zero_le _, Nat.zero_le _⟩ (fun r1 hr1 => ?_)
  subst hr1
  refine rn_neB X (tgt := 10) dX10_pared_4 (by decide) (fun h4 => ?_) (fun h4 => ?_)
  · skip
    obtain ⟨r, hr3, rfl⟩ := ln_inr_t (by decide) h4
    refine lv_aload_n X.1 X.2.1 dX10_pared_10 rfl (lv_at hl 0 rfl) ?_
    refine ln_vR X (c_X10_all l D g a σ 0 N hW hN (Nat.le_refl _)) hP 0 rfl rfl mM_X10_87 Y_X10_all rfl (by omega) hl.1 rfl (Nat.le_of_ble_eq_true rfl) dX10_pared_11 ⟨Nat.zero_le _, Nat.zero_le _⟩ (fun r11 hr11 => ?_)
    subst hr11
    refine lv_istore_n (lv' := [(2, .int (nI (2 ^ N 0 0 - 1))), (0, .ref (a 0)), (1, .int (nI r))]) X.1 X.2.1 dX10_pared_14 rfl hl (by decide) rfl (fun ls hl => ?_)
    refine lv_aload_n X.1 X.2.1 dX10_pared_15 rfl (lv_at hl 1 rfl) ?_
    refine gM_0_0 X hP (v := nI (N 0 0)) hN.n mF_X10_48 dX10_pared_16 ?_
    refine lv_iconst (v := nI 1) X.1 X.2.1 dX10_pared_19 (by decide) ?_
    refine lv_isub X.1 X.2.1 dX10_pared_20 ?_
    refine rn_top (y := (nI (N 0 0) - 1)) rfl ?_
    refine lv_istore_n (lv' := [(3, .int (nI (N 0 0) - 1)), (2, .int (nI (2 ^ N 0 0 - 1))), (0, .ref (a 0)), (1, .int (nI r))]) X.1 X.2.1 dX10_pared_21 rfl hl (by decide) rfl (fun ls hl => ?_)
    have L22 : ∀ (K : Nat) (k : Nat) (s : Nat) (τ : ln_S) (H : Heap) (locs : List Loc), k < K → (k ≤ N 0 0) → (s < 2 ^ N 0 0) → (ln_pd N r k s = ln_pd N r (N 0 0) (2 ^ N 0 0 - 1)) → (ln_nM N τ) → (ln_MK N τ E) → va_P D ln_cl (MW a g τ) H → va_D A (MW a g τ) → va_S A sta.heap H locs → ∀ ls : Array Slot, lv_has ls 4 [(0, .ref (a 0)), (1, .int (nI r)), (2, .int (nI s)), (3, .int (nI k - 1))] → W prg l env rum sta mid args below meth cod H locs 0 0 Q0 (F0 mid 22 ls []) := by
      intro K
      induction K with
      | zero => intro k s τ H locs hm; exact absurd hm (Nat.not_lt_zero _)
      | succ K ih22 =>
        intro k s τ H locs hm22 hk hs hp hN hK hP hDw hSw ls hl
        refine lv_iload_n X.1 X.2.1 dX10_pared_22 rfl (lv_at hl 3 rfl) ?_
        rcases ln_m1_cases k with ⟨ek, e1⟩ | ⟨j, ek, e1⟩
        · refine rn_top (y := ((-1))) e1 ?_
          refine lv_if_lt (tgt := 55) X.1 X.2.1 dX10_pared_23 (by decide) (fun h23 => ?_) (fun h23 => absurd (by decide) h23)
          refine lv_iload_n X.1 X.2.1 dX10_pared_55 rfl (lv_at hl 2 rfl) ?_
          subst hQ0
          exact ln_retU X hr hlk hP hSw rfl (by subst ek; exact ⟨⟨hW, hN, by rw [hE99] at hK; exact hK⟩, Or.inr ⟨r, hr3, rfl, by rw [← hp]; rfl⟩⟩) dX10_pared_56
        · refine rn_top (y := nI j) e1 ?_
          subst ek
          rw [nI_pred] at hl
          refine rn_lt0 X (ln_31 (show j < 4096 by omega)) (tgt := 55) dX10_pared_23 (by decide) ?_
          refine lv_aload_n X.1 X.2.1 dX10_pared_26 rfl (lv_at hl 0 rfl) ?_
          refine lv_iload_n X.1 X.2.1 dX10_pared_27 rfl (lv_at hl 1 rfl) ?_
          refine lv_iload_n X.1 X.2.1 dX10_pared_28 rfl (lv_at hl 2 rfl) ?_
          refine lv_iconst (v := nI 1) X.1 X.2.1 dX10_pared_29 (by decide) ?_
          refine lv_iload_n X.1 X.2.1 dX10_pared_30 rfl (lv_at hl 3 rfl) ?_
          refine rn_shl X (by omega) dX10_pared_31 ?_
          refine lv_iconst (v := ((-1))) X.1 X.2.1 dX10_pared_32 (by decide) ?_
          refine lv_ixor X.1 X.2.1 dX10_pared_33 ?_
          refine rn_nt X dX10_pared_34 ?_
          refine ln_vU X (MW_ad a g) hA (c_X10_setsGoing l D g a τ 5 N hW hN E hK r (ln_df s (2 ^ j)) (by omega) (by omega) (ln_df_lt hs) (Nat.le_refl _)) hP hDw hSw 0 rfl rfl mM_X10_117 Y_X10_setsGoing rfl (by omega) hl.1 rfl (Nat.le_of_ble_eq_true rfl) dX10_pared_35 ⟨Nat.zero_le _, Nat.zero_le _⟩ (fun r35 τ35 H locs hr35 hP hDw hSw => ?_)
          obtain ⟨hzg, hN, hK, hfg⟩ := hr35
          subst hzg
          refine rn_eqB X (tgt := 49) dX10_pared_38 (by decide) (fun h38 => ?_) (fun h38 => ?_)
          · skip
            refine lv_iinc (v := (nI j - 1)) (lv' := [(3, .int (nI j - 1)), (0, .ref (a 0)), (1, .int (nI r)), (2, .int (nI s))]) X.1 X.2.1 dX10_pared_49 hl (k := 3) rfl rn_inn (by decide) rfl (fun ls hl => ?_)
            refine lv_goto (tgt := 22) X.1 X.2.1 dX10_pared_52 (by decide) ?_
            exact ih22 j _ τ35 H locs (by omega) (by omega) (by first | exact hs | exact ln_df_lt hs) (by first | (rw [← hp, ln_pd_t h38]) | (rw [← hp, ln_pd_f h38])) hN hK hP hDw hSw ls (lv_sub hl [1, 2, 3, 0] rfl)
          · skip
            refine lv_iload_n X.1 X.2.1 dX10_pared_41 rfl (lv_at hl 2 rfl) ?_
            refine lv_iconst (v := nI 1) X.1 X.2.1 dX10_pared_42 (by decide) ?_
            refine lv_iload_n X.1 X.2.1 dX10_pared_43 rfl (lv_at hl 3 rfl) ?_
            refine rn_shl X (by omega) dX10_pared_44 ?_
            refine lv_iconst (v := ((-1))) X.1 X.2.1 dX10_pared_45 (by decide) ?_
            refine lv_ixor X.1 X.2.1 dX10_pared_46 ?_
            refine rn_nt X dX10_pared_47 ?_
            refine lv_istore_n (lv' := [(2, .int (nI (ln_df s (2 ^ j)))), (0, .ref (a 0)), (1, .int (nI r)), (3, .int (nI j))]) X.1 X.2.1 dX10_pared_48 rfl hl (by decide) rfl (fun ls hl => ?_)
            refine lv_iinc (v := (nI j - 1)) (lv' := [(3, .int (nI j - 1)), (2, .int (nI (ln_df s (2 ^ j)))), (0, .ref (a 0)), (1, .int (nI r))]) X.1 X.2.1 dX10_pared_49 hl (k := 3) rfl rn_inn (by decide) rfl (fun ls hl => ?_)
            refine lv_goto (tgt := 22) X.1 X.2.1 dX10_pared_52 (by decide) ?_
            exact ih22 j _ τ35 H locs (by omega) (by omega) (by first | exact hs | exact ln_df_lt hs) (by first | (rw [← hp, ln_pd_t h38]) | (rw [← hp, ln_pd_f h38])) hN hK hP hDw hSw ls (lv_sub hl [2, 3, 1, 0] rfl)
    exact L22 _ (N 0 0) _ σ H locs (Nat.lt_succ_self _) (Nat.le_refl _) (ln_all_lt _) rfl hN hK hP hDw hSw ls (lv_sub hl [2, 3, 1, 0] rfl)
  · skip
    refine lv_bipush (v := ((-2))) X.1 X.2.1 dX10_pared_7 (by decide) ?_
    subst hQ0
    exact ln_retU X hr hlk hP hSw rfl ⟨⟨hW, hN, by rw [hE99] at hK; exact hK⟩, Or.inl ⟨h4, rfl⟩⟩ dX10_pared_9
