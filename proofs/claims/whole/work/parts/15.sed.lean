theorem ln_MK_put {N : ln_N} {σ τ : ln_S} {E K r : Nat} (hK2 : K < 2048) (hr : r < 11) (h3 : ∀ k, k ≠ E → K.testBit k = true → ln_mT N σ k) (h01 : τ 0 1 = nI (K ||| 2 ^ r)) (hT : r ≠ E → ln_mT N τ r) (hO : ∀ k, k ≠ r → ln_mT N σ k → ln_mT N τ k) : ln_MK N τ E := by
  refine ⟨_, h01, ln_K11 hK2 hr, fun k hk hb => ?_⟩
  by_cases e : k = r
  · subst e; exact hT hk
  · rw [ln_or_bit, decide_eq_false (Ne.symm e), Bool.or_false] at hb
    exact hO k e (h3 k hk hb)
/-- other tables beside one of the ends' -/
theorem ln_mT_eo {N : ln_N} (hW : ln_wf N) {σ τ : ln_S} {r k : Nat} (hk : k ≠ r) (h6 : ∀ i, i < 4096 * r ∨ 4096 * r + 4096 ≤ i → τ 6 i = σ 6 i) (ho : ∀ c, c ≠ 0 → c ≠ 5 → c ≠ 6 → τ c = σ c) (h : ln_mT N σ k) : ln_mT N τ k := by
  by_cases h3 : k < 3
  · rw [ln_mT_e h3] at h ⊢
    intro S hS
    have := hW.p12
    rw [h6 _ (by omega)]
    exact h S hS
  · exact h.of (fun c hc => ho c (by omega) (by omega) (by omega))
def ln_isL (N : ln_N) (r s : Nat) : Prop := s < 2 ^ N 0 0 ∧ ln_go N r s = true ∧ ∀ t, t < 2 ^ N 0 0 → ln_go N r t = true → ln_pc s < ln_pc t ∨ (ln_pc s = ln_pc t ∧ s ≤ t)
theorem ln_isL_one {N : ln_N} {r s t : Nat} (h : ln_isL N r s) (h2 : ln_isL N r t) : s = t := by
  have a := h.2.2 t h2.1 h2.2.1
  have b := h2.2.2 s h.1 h.2.1
  omega
def ln_isP (N : ln_N) (r s : Nat) : Prop := s < 2 ^ N 0 0 ∧ ln_go N r s = true ∧ ∀ t, t < 2 ^ N 0 0 → ln_go N r t = true → ln_pri N s (N 0 0) < ln_pri N t (N 0 0) ∨ (ln_pri N s (N 0 0) = ln_pri N t (N 0 0) ∧ s ≤ t)
theorem ln_isP_one {N : ln_N} {r s t : Nat} (h : ln_isP N r s) (h2 : ln_isP N r t) : s = t := by
  have a := h.2.2 t h2.1 h2.2.1
  have b := h2.2.2 s h.1 h.2.1
  omega
theorem ln_all_bit (n i : Nat) : (2 ^ n - 1).testBit i = decide (i < n) := Nat.testBit_two_pow_sub_one n i
theorem ln_sb_all {n S : Nat} (h : S < 2 ^ n) : ln_sb S (2 ^ n - 1) := fun i hi => by
  rw [ln_all_bit]
  apply decide_eq_true
  refine Classical.byContradiction (fun q => ?_)
  rw [Nat.testBit_lt_two_pow (Nat.lt_of_lt_of_le h (Nat.pow_le_pow_right (n := 2) (by decide) (show n ≤ i by omega)))] at hi
  exact absurd hi (by decide)
theorem ln_all_lt (n : Nat) : 2 ^ n - 1 < 2 ^ n := Nat.sub_lt (ln_pos2 n) (by decide)
theorem ln_go_all {N : ln_N} (hW : ln_wf N) (r : Nat) : ln_go N r (2 ^ N 0 0 - 1) = true := by
  apply decide_eq_true
  have h1 := ln_end_lt hW r (ln_all_lt (N 0 0))
  have h2 := ln_sb_le (ln_sb_end N r (2 ^ N 0 0 - 1))
  omega
theorem ln_pc_all {N : ln_N} (hW : ln_wf N) {t : Nat} (h : t < 2 ^ N 0 0 - 1) : ln_pc t < ln_pc (2 ^ N 0 0 - 1) :=
  ln_pc_lt (ln_sb_all (by omega)) (by have := hW.p12; have := ln_pos2 (N 0 0); omega) (by omega)
theorem ln_sum_mono {f g : Nat → Nat} (h : ∀ k, f k ≤ g k) : ∀ k, ln_sum f k ≤ ln_sum g k
  | 0 => Nat.le_refl 0
  | k + 1 => Nat.add_le_add (ln_sum_mono h k) (h k)
theorem ln_pri_all {N : ln_N} {t : Nat} (h : t < 2 ^ N 0 0) (n : Nat) : ln_pri N t n ≤ ln_pri N (2 ^ N 0 0 - 1) n := by
  apply ln_sum_mono
  intro q
  show (if t.testBit q then N 2 q else 0) ≤ (if (2 ^ N 0 0 - 1).testBit q then N 2 q else 0)
  cases hq : t.testBit q with
  | false => simp
  | true => rw [ln_sb_all h q hq]; simp
def ln_pd (N : ln_N) (r : Nat) : Nat → Nat → Nat
  | 0, s => s
  | k + 1, s => ln_pd N r k (if ln_go N r (ln_df s (2 ^ k)) then ln_df s (2 ^ k) else s)
theorem ln_pd_t {N : ln_N} {r k s : Nat} (h : ln_go N r (ln_df s (2 ^ k)) = true) : ln_pd N r (k + 1) s = ln_pd N r k (ln_df s (2 ^ k)) := by
  show ln_pd N r k (if ln_go N r (ln_df s (2 ^ k)) then ln_df s (2 ^ k) else s) = _
  rw [if_pos h]
theorem ln_pd_f {N : ln_N} {r k s : Nat} (h : ln_go N r (ln_df s (2 ^ k)) = false) : ln_pd N r (k + 1) s = ln_pd N r k s := by
  show ln_pd N r k (if ln_go N r (ln_df s (2 ^ k)) then ln_df s (2 ^ k) else s) = _
  rw [if_neg (by rw [h]; decide)]
theorem ln_go_t {N : ln_N} {r s : Nat} (h : ln_end N r s = 2 ^ N 0 0 - 1) : ln_go N r s = true := decide_eq_true h
theorem ln_go_f {N : ln_N} {r s : Nat} (h : ln_end N r s ≠ 2 ^ N 0 0 - 1) : ln_go N r s = false := decide_eq_false h
def ln_cs (N : ln_N) (r s : Nat) : Nat → Bool := fun t => ln_go N r t && decide (ln_pc t = ln_pc s)
theorem ln_ct_t {f : Nat → Bool} {k : Nat} (h : f k = true) : ln_ct f (k + 1) = ln_ct f k + 1 := by show ln_ct f k + (if f k then 1 else 0) = _; rw [if_pos h]
theorem ln_ct_f {f : Nat → Bool} {k : Nat} (h : f k = false) : ln_ct f (k + 1) = ln_ct f k := by show ln_ct f k + (if f k then 1 else 0) = _; rw [if_neg (by rw [h]; decide), Nat.add_zero]
theorem ln_cs_t {N : ln_N} {r s t : Nat} (h : ln_go N r t = true) (h2 : ln_pc t = ln_pc s) : ln_cs N r s t = true := by unfold ln_cs; rw [h, decide_eq_true h2]; rfl
theorem ln_cs_f {N : ln_N} {r s t : Nat} (h : ln_go N r t = false) : ln_cs N r s t = false := by unfold ln_cs; rw [h]; rfl
theorem ln_cs_g {N : ln_N} {r s t : Nat} (h2 : ln_pc t ≠ ln_pc s) : ln_cs N r s t = false := by unfold ln_cs; rw [decide_eq_false h2, Bool.and_false]
/-- what is best among those below k -/
def ln_bL (N : ln_N) (r b k : Nat) : Prop := b < 2 ^ N 0 0 ∧ ln_go N r b = true ∧ (b < k ∨ b = 2 ^ N 0 0 - 1) ∧ ln_pc b ≤ ln_pc (2 ^ N 0 0 - 1) ∧ ∀ t, t < k → ln_go N r t = true → ln_pc b < ln_pc t ∨ (ln_pc b = ln_pc t ∧ b ≤ t)
theorem ln_bL_skip {N : ln_N} {r b k : Nat} (h : ln_bL N r b k) (hk : ln_go N r k = false) : ln_bL N r b (k + 1) := by
  refine ⟨h.1, h.2.1, by have := h.2.2.1; omega, h.2.2.2.1, fun t ht hg => ?_⟩
  by_cases e : t = k
  · subst e; rw [hk] at hg; exact absurd hg (by decide)
  · exact h.2.2.2.2 t (by omega) hg
theorem ln_bL_keep {N : ln_N} (hW : ln_wf N) {r b k : Nat} (h : ln_bL N r b k) (hk : k < 2 ^ N 0 0 - 1) (hp : ln_pc b ≤ ln_pc k) : ln_bL N r b (k + 1) := by
  refine ⟨h.1, h.2.1, by have := h.2.2.1; omega, h.2.2.2.1, fun t ht hg => ?_⟩
  by_cases e : t = k
  · subst e
    rcases h.2.2.1 with q | q
    · omega
    · have := ln_pc_all hW hk
      rw [q] at hp; omega
  · exact h.2.2.2.2 t (by omega) hg
theorem ln_bL_take {N : ln_N} {r b k : Nat} (h : ln_bL N r b k) (hk : k < 2 ^ N 0 0 - 1) (hg : ln_go N r k = true) (hp : ln_pc k < ln_pc b) : ln_bL N r k (k + 1) := by
  refine ⟨by omega, hg, by omega, by have := h.2.2.2.1; omega, fun t ht hg2 => ?_⟩
  by_cases e : t = k
  · subst e; omega
  · have := h.2.2.2.2 t (by omega) hg2; omega
theorem ln_bL_end {N : ln_N} {r b : Nat} (h : ln_bL N r b (2 ^ N 0 0 - 1)) : ln_isL N r b := by
  refine ⟨h.1, h.2.1, fun t ht hg => ?_⟩
  by_cases e : t = 2 ^ N 0 0 - 1
  · subst e
    have h1 := h.2.2.2.1
    have h2 := h.1
    omega
  · exact h.2.2.2.2 t (by omega) hg
def ln_bP (N : ln_N) (r b v k : Nat) : Prop := (b = 2 ^ N 0 0 - 1 ∧ v = ln_pri N (2 ^ N 0 0 - 1) (N 0 0) + 1 ∧ ∀ t, t < k → ln_go N r t = false) ∨ (b < k ∧ b < 2 ^ N 0 0 ∧ ln_go N r b = true ∧ v = ln_pri N b (N 0 0) ∧ ∀ t, t < k → ln_go N r t = true → ln_pri N b (N 0 0) < ln_pri N t (N 0 0) ∨ (ln_pri N b (N 0 0) = ln_pri N t (N 0 0) ∧ b ≤ t))
theorem ln_bP_skip {N : ln_N} {r b v k : Nat} (h : ln_bP N r b v k) (hk : ln_go N r k = false) : ln_bP N r b v (k + 1) := by
  rcases h with ⟨h1, h2, h3⟩ | ⟨h1, h2, h3, h4, h5⟩
  · exact Or.inl ⟨h1, h2, ln_lt_s h3 hk⟩
  · refine Or.inr ⟨by omega, h2, h3, h4, fun t ht hg => ?_⟩
    by_cases e : t = k
    · subst e; rw [hk] at hg; exact absurd hg (by decide)
    · exact h5 t (by omega) hg
theorem ln_bP_keep {N : ln_N} {r b v k : Nat} (h : ln_bP N r b v k) (hk : k < 2 ^ N 0 0) (hp : v ≤ ln_pri N k (N 0 0)) : ln_bP N r b v (k + 1) := by
  rcases h with ⟨h1, h2, h3⟩ | ⟨h1, h2, h3, h4, h5⟩
  · have := ln_pri_all hk (N 0 0); omega
  · refine Or.inr ⟨by omega, h2, h3, h4, fun t ht hg => ?_⟩
    by_cases e : t = k
    · subst e; omega
    · exact h5 t (by omega) hg
theorem ln_bP_take {N : ln_N} {r b v k : Nat} (h : ln_bP N r b v k) (hk : k < 2 ^ N 0 0) (hg : ln_go N r k = true) (hp : ln_pri N k (N 0 0) < v) : ln_bP N r k (ln_pri N k (N 0 0)) (k + 1) := by
  rcases h with ⟨h1, h2, h3⟩ | ⟨h1, h2, h3, h4, h5⟩
  · refine Or.inr ⟨by omega, hk, hg, rfl, fun t ht hg2 => ?_⟩
    by_cases e : t = k
    · subst e; omega
    · rw [h3 t (by omega)] at hg2; exact absurd hg2 (by decide)
  · refine Or.inr ⟨by omega, hk, hg, rfl, fun t ht hg2 => ?_⟩
    by_cases e : t = k
    · subst e; omega
    · have := h5 t (by omega) hg2; omega
theorem ln_bP_end {N : ln_N} (hW : ln_wf N) {r b v : Nat} (h : ln_bP N r b v (2 ^ N 0 0)) : ln_isP N r b := by
  rcases h with ⟨h1, h2, h3⟩ | ⟨h1, h2, h3, h4, h5⟩
  · have := h3 _ (ln_all_lt (N 0 0))
    rw [ln_go_all hW r] at this
    exact absurd this (by decide)
  · exact ⟨h2, h3, h5⟩
/-- none of fewer posts, none lesser -/
def ln_nL (N : ln_N) (r z k : Nat) : Prop := (∀ t, t < 2 ^ N 0 0 → ln_go N r t = true → z ≤ ln_pc t) ∧ ∀ t, t < k → ln_go N r t = true → z < ln_pc t
set_option maxHeartbeats 4000000 in
set_option maxRecDepth 100000 in
theorem c_X5_smallest (l : Launch) (D : va_G) (g : Nat → ClassId) (a : Nat → Nat) (σ : ln_S) (d : Nat) (N : ln_N) (hW : ln_wf N) (hN : ln_nC N σ) (r : Nat) (hr3 : r < 3) (hE : ln_eT N σ r)  (hd : 1 ≤ d) : ln_R l D g (CW a g σ) yX5_smallest (.code yX5_smallest cX5_smallest 5 (some .int)) d [.ref (a 12), .ref (a (37 + r))] (fun z => ∃ s, z = nI s ∧ ln_isL N r s) := by
  have hN12 := hW.n12
  have hp12 := hW.p12
  have hs1 := ln_sub1 (N 0 0)
  refine ln_ofR (by decide +kernel) (Nat.le_of_ble_eq_true rfl) (fun prg env rum sta mid args below meth cod ls hr hlk X hP hl => ?_)
  have hl : lv_has ls 5 [(0, .ref (a 12)), (1, .ref (a (37 + r)))] := hl
  generalize hQ0 : (MQ below (vp_Si (fun z => ∃ s, z = nI s ∧ ln_isL N r s)) args sta 0 0 (fun _ => False)) = Q0
  refine lv_aload_n X.1 X.2.1 dX5_smallest_0 rfl (lv_at hl 0 rfl) ?_
  refine gC_12_0 X hP mF_X5_7 dX5_smallest_1 ?_
  refine ln_vR X (c_X4_allPosts l D g a σ 0 N hW hN (Nat.le_refl _)) hP 1 rfl rfl mM_X5_13 Y_X4_allPosts rfl (by omega) hl.1 rfl (Nat.le_of_ble_eq_true rfl) dX5_smallest_4 ⟨Nat.zero_le _, Nat.zero_le _⟩ (fun r4 hr4 => ?_)
  subst hr4
  refine lv_istore_n (lv' := [(2, .int (nI (2 ^ N 0 0 - 1))), (0, .ref (a 12)), (1, .ref (a (37 + r)))]) X.1 X.2.1 dX5_smallest_7 rfl hl (by decide) rfl (fun ls hl => ?_)
  refine lv_iload_n X.1 X.2.1 dX5_smallest_8 rfl (lv_at hl 0 rfl) ?_
  refine lv_istore_n (lv' := [(3, .int (nI (2 ^ N 0 0 - 1))), (2, .int (nI (2 ^ N 0 0 - 1))), (0, .ref (a 12)), (1, .ref (a (37 + r)))]) X.1 X.2.1 dX5_smallest_9 rfl hl (by decide) rfl (fun ls hl => ?_)
  refine lv_iconst (v := nI 0) X.1 X.2.1 dX5_smallest_10 (by decide) ?_
  refine lv_istore (lv' := [(4, .int (nI 0)), (3, .int (nI (2 ^ N 0 0 - 1))), (2, .int (nI (2 ^ N 0 0 - 1))), (0, .ref (a 12)), (1, .ref (a (37 + r)))]) X.1 X.2.1 dX5_smallest_11 hl (by decide) rfl (fun ls hl => ?_)
  have L13 : ∀ (K : Nat) (k : Nat) (b : Nat), 2 ^ N 0 0 - 1 - k < K → (k ≤ 2 ^ N 0 0 - 1) → (ln_bL N r b k) → ∀ ls : Array Slot, lv_has ls 5 [(1, .ref (a (37 + r))), (2, .int (nI (2 ^ N 0 0 - 1))), (3, .int (nI b)), (4, .int (nI k))] → W prg l env rum sta mid args below meth cod sta.heap [] 0 0 Q0 (F0 mid 13 ls []) := by
    intro K
    induction K with
    | zero => intro k b hm; exact absurd hm (Nat.not_lt_zero _)
    | succ K ih13 =>
      intro k b hm13 hk hb ls hl
      refine lv_iload X.1 X.2.1 dX5_smallest_13 (lv_at hl 3 rfl) ?_
      refine lv_iload_n X.1 X.2.1 dX5_smallest_15 rfl (lv_at hl 1 rfl) ?_
      refine rn_ge X (ln_31 (show k < 4096 by omega)) (ln_31 (Nat.lt_of_lt_of_le (Nat.sub_lt (ln_pos2 _) (by decide)) hp12)) (tgt := 48) dX5_smallest_16 (by decide) (fun h16 => ?_) (fun h16 => ?_)
      · skip
        refine lv_iload_n X.1 X.2.1 dX5_smallest_48 rfl (lv_at hl 2 rfl) ?_
        subst hQ0
        exact ln_retR X hr hlk rfl ⟨b, rfl, ln_bL_end (by rw [show k = 2 ^ N 0 0 - 1 by omega] at hb; exact hb)⟩ dX5_smallest_49
      · skip
        refine lv_aload_n X.1 X.2.1 dX5_smallest_19 rfl (lv_at hl 0 rfl) ?_
        refine lv_iload X.1 X.2.1 dX5_smallest_20 (lv_at hl 3 rfl) ?_
        refine lC_r37 X hP hr3 (by omega) (v := nI (ln_end N r k)) (hE _ (by omega)) dX5_smallest_22 ?_
        refine lv_iload_n X.1 X.2.1 dX5_smallest_23 rfl (lv_at hl 1 rfl) ?_
        refine rn_ne X (ln_31 (ln_end12 hW r (show k < 2 ^ N 0 0 by omega))) (ln_31 (Nat.lt_of_lt_of_le (Nat.sub_lt (ln_pos2 _) (by decide)) hp12)) (tgt := 42) dX5_smallest_24 (by decide) (fun h24 => ?_) (fun h24 => ?_)
        · skip
          refine lv_iinc (v := nI (k + 1)) (lv' := [(4, .int (nI (k + 1))), (1, .ref (a (37 + r))), (2, .int (nI (2 ^ N 0 0 - 1))), (3, .int (nI b))]) X.1 X.2.1 dX5_smallest_42 hl (k := 3) rfl rn_inc (by decide) rfl (fun ls hl => ?_)
          refine lv_goto (tgt := 13) X.1 X.2.1 dX5_smallest_45 (by decide) ?_
          exact ih13 (k + 1) _ (by omega) (by omega) (by first | exact ln_bL_skip hb (ln_go_f h24) | exact ln_bL_keep hW hb h16 h36 | exact ln_bL_take hb h16 (ln_go_t h24) h36) ls (lv_sub hl [1, 2, 3, 0] rfl)
        · skip
          refine lv_iload X.1 X.2.1 dX5_smallest_27 (lv_at hl 3 rfl) ?_
          refine ln_sR X (c_J6_bitCount_0f7a4 l D g 0 k (show k < 4096 by omega) (Nat.le_refl _)) ln_nil mM_X5_19 Y_J6_bitCount_0f7a4 rfl (by omega) hl.1 rfl (Nat.le_of_ble_eq_true rfl) dX5_smallest_29 ⟨Nat.zero_le _, Nat.zero_le _⟩ (fun r29 hr29 => ?_)
          subst hr29
          refine lv_iload_n X.1 X.2.1 dX5_smallest_32 rfl (lv_at hl 2 rfl) ?_
          refine ln_sR X (c_J6_bitCount_0f7a4 l D g 0 b (ln_n12 hW hb.1) (Nat.le_refl _)) ln_nil mM_X5_19 Y_J6_bitCount_0f7a4 rfl (by omega) hl.1 rfl (Nat.le_of_ble_eq_true rfl) dX5_smallest_33 ⟨Nat.zero_le _, Nat.zero_le _⟩ (fun r33 hr33 => ?_)
          subst hr33
          refine rn_ge X (ln_31 (Nat.lt_of_le_of_lt (ln_pc_le _) (by decide))) (ln_31 (Nat.lt_of_le_of_lt (ln_pc_le _) (by decide))) (tgt := 42) dX5_smallest_36 (by decide) (fun h36 => ?_) (fun h36 => ?_)
          · skip
            refine lv_iinc (v := nI (k + 1)) (lv' := [(4, .int (nI (k + 1))), (1, .ref (a (37 + r))), (2, .int (nI (2 ^ N 0 0 - 1))), (3, .int (nI b))]) X.1 X.2.1 dX5_smallest_42 hl (k := 3) rfl rn_inc (by decide) rfl (fun ls hl => ?_)
            refine lv_goto (tgt := 13) X.1 X.2.1 dX5_smallest_45 (by decide) ?_
            exact ih13 (k + 1) _ (by omega) (by omega) (by first | exact ln_bL_skip hb (ln_go_f h24) | exact ln_bL_keep hW hb h16 h36 | exact ln_bL_take hb h16 (ln_go_t h24) h36) ls (lv_sub hl [1, 2, 3, 0] rfl)
          · skip
            refine lv_iload X.1 X.2.1 dX5_smallest_39 (lv_at hl 3 rfl) ?_
            refine lv_istore_n (lv' := [(3, .int (nI k)), (1, .ref (a (37 + r))), (2, .int (nI (2 ^ N 0 0 - 1))), (4, .int (nI k))]) X.1 X.2.1 dX5_smallest_41 rfl hl (by decide) rfl (fun ls hl => ?_)
            refine lv_iinc (v := nI (k + 1)) (lv' := [(4, .int (nI (k + 1))), (3, .int (nI k)), (1, .ref (a (37 + r))), (2, .int (nI (2 ^ N 0 0 - 1)))]) X.1 X.2.1 dX5_smallest_42 hl (k := 3) rfl rn_inc (by decide) rfl (fun ls hl => ?_)
            refine lv_goto (tgt := 13) X.1 X.2.1 dX5_smallest_45 (by decide) ?_
            exact ih13 (k + 1) _ (by omega) (by omega) (by first | exact ln_bL_skip hb (ln_go_f h24) | exact ln_bL_keep hW hb h16 h36 | exact ln_bL_take hb h16 (ln_go_t h24) h36) ls (lv_sub hl [2, 3, 1, 0] rfl)
  exact L13 _ 0 _ (Nat.lt_succ_self _) (Nat.zero_le _) ⟨ln_all_lt _, ln_go_all hW r, Or.inr rfl, Nat.le_refl _, fun t ht => absurd ht (Nat.not_lt_zero t)⟩ ls (lv_sub hl [4, 2, 1, 0] rfl)
set_option maxHeartbeats 4000000 in
set_option maxRecDepth 100000 in
theorem c_X5_howManySmallest (l : Launch) (D : va_G) (g : Nat → ClassId) (a : Nat → Nat) (σ : ln_S) (d : Nat) (N : ln_N) (hW : ln_wf N) (hN : ln_nC N σ) (r : Nat) (hr3 : r < 3) (hE : ln_eT N σ r)  (hd : 2 ≤ d) : ln_R l D g (CW a g σ) yX5_howManySmallest (.code yX5_howManySmallest cX5_howManySmallest 6 (some .int)) d [.ref (a 12), .ref (a (37 + r))] (fun z => ∃ s, ln_isL N r s ∧ z = nI (ln_ct (ln_cs N r s) (2 ^ N 0 0))) := by
  have hN12 := hW.n12
  have hp12 := hW.p12
  have hs1 := ln_sub1 (N 0 0)
  refine ln_ofR (by decide +kernel) (Nat.le_of_ble_eq_true rfl) (fun prg env rum sta mid args below meth cod ls hr hlk X hP hl => ?_)
  have hl : lv_has ls 6 [(0, .ref (a 12)), (1, .ref (a (37 + r)))] := hl
  generalize hQ0 : (MQ below (vp_Si (fun z => ∃ s, ln_isL N r s ∧ z = nI (ln_ct (ln_cs N r s) (2 ^ N 0 0)))) args sta 0 0 (fun _ => False)) = Q0
  refine lv_aload_n X.1 X.2.1 dX5_howManySmallest_0 rfl (lv_at hl 0 rfl) ?_
  refine gC_12_0 X hP mF_X5_7 dX5_howManySmallest_1 ?_
  refine ln_vR X (c_X4_allPosts l D g a σ 0 N hW hN (Nat.le_refl _)) hP 1 rfl rfl mM_X5_13 Y_X4_allPosts rfl (by omega) hl.1 rfl (Nat.le_of_ble_eq_true rfl) dX5_howManySmallest_4 ⟨Nat.zero_le _, Nat.zero_le _⟩ (fun r4 hr4 => ?_)
  subst hr4
  refine lv_istore_n (lv' := [(2, .int (nI (2 ^ N 0 0 - 1))), (0, .ref (a 12)), (1, .ref (a (37 + r)))]) X.1 X.2.1 dX5_howManySmallest_7 rfl hl (by decide) rfl (fun ls hl => ?_)
  refine lv_aload_n X.1 X.2.1 dX5_howManySmallest_8 rfl (lv_at hl 1 rfl) ?_
  refine lv_aload_n X.1 X.2.1 dX5_howManySmallest_9 rfl (lv_at hl 2 rfl) ?_
  refine ln_vR X (c_X5_smallest l D g a σ 1 N hW hN r hr3 hE (Nat.le_refl _)) hP 12 rfl rfl mM_X5_25 Y_X5_smallest rfl (by omega) hl.1 rfl (Nat.le_of_ble_eq_true rfl) dX5_howManySmallest_10 ⟨Nat.zero_le _, Nat.zero_le _⟩ (fun r10 hr10 => ?_)
  obtain ⟨sL, rfl, hsL⟩ := hr10
  refine ln_sR X (c_J6_bitCount_0f7a4 l D g 0 sL (ln_n12 hW hsL.1) (Nat.le_refl _)) ln_nil mM_X5_19 Y_J6_bitCount_0f7a4 rfl (by omega) hl.1 rfl (Nat.le_of_ble_eq_true rfl) dX5_howManySmallest_13 ⟨Nat.zero_le _, Nat.zero_le _⟩ (fun r13 hr13 => ?_)
  subst hr13
  refine lv_istore_n (lv' := [(3, .int (nI (ln_pc sL))), (2, .int (nI (2 ^ N 0 0 - 1))), (0, .ref (a 12)), (1, .ref (a (37 + r)))]) X.1 X.2.1 dX5_howManySmallest_16 rfl hl (by decide) rfl (fun ls hl => ?_)
  refine lv_iconst (v := nI 0) X.1 X.2.1 dX5_howManySmallest_17 (by decide) ?_
  refine lv_istore (lv' := [(4, .int (nI 0)), (3, .int (nI (ln_pc sL))), (2, .int (nI (2 ^ N 0 0 - 1))), (0, .ref (a 12)), (1, .ref (a (37 + r)))]) X.1 X.2.1 dX5_howManySmallest_18 hl (by decide) rfl (fun ls hl => ?_)
  refine lv_iconst (v := nI 0) X.1 X.2.1 dX5_howManySmallest_20 (by decide) ?_
  refine lv_istore (lv' := [(5, .int (nI 0)), (4, .int (nI 0)), (3, .int (nI (ln_pc sL))), (2, .int (nI (2 ^ N 0 0 - 1))), (0, .ref (a 12)), (1, .ref (a (37 + r)))]) X.1 X.2.1 dX5_howManySmallest_21 hl (by decide) rfl (fun ls hl => ?_)
  have L23 : ∀ (K : Nat) (k : Nat) (b : Nat), 2 ^ N 0 0 - k < K → (k ≤ 2 ^ N 0 0) → (b = ln_ct (ln_cs N r sL) k) → ∀ ls : Array Slot, lv_has ls 6 [(1, .ref (a (37 + r))), (2, .int (nI (2 ^ N 0 0 - 1))), (3, .int (nI (ln_pc sL))), (4, .int (nI b)), (5, .int (nI k))] → W prg l env rum sta mid args below meth cod sta.heap [] 0 0 Q0 (F0 mid 23 ls []) := by
    intro K
    induction K with
    | zero => intro k b hm; exact absurd hm (Nat.not_lt_zero _)
    | succ K ih23 =>
      intro k b hm23 hk hb ls hl
      refine lv_iload X.1 X.2.1 dX5_howManySmallest_23 (lv_at hl 4 rfl) ?_
      refine lv_iload_n X.1 X.2.1 dX5_howManySmallest_25 rfl (lv_at hl 1 rfl) ?_
      refine rn_gt X (by omega) (ln_31 (Nat.lt_of_lt_of_le (Nat.sub_lt (ln_pos2 _) (by decide)) hp12)) (tgt := 55) dX5_howManySmallest_26 (by decide) (fun h26 => ?_) (fun h26 => ?_)
      · skip
        refine lv_iload X.1 X.2.1 dX5_howManySmallest_55 (lv_at hl 3 rfl) ?_
        subst hQ0
        exact ln_retR X hr hlk rfl ⟨sL, hsL, by rw [hb, show k = 2 ^ N 0 0 by omega]⟩ dX5_howManySmallest_57
      · skip
        refine lv_aload_n X.1 X.2.1 dX5_howManySmallest_29 rfl (lv_at hl 0 rfl) ?_
        refine lv_iload X.1 X.2.1 dX5_howManySmallest_30 (lv_at hl 4 rfl) ?_
        refine lC_r37 X hP hr3 (by omega) (v := nI (ln_end N r k)) (hE _ (by omega)) dX5_howManySmallest_32 ?_
        refine lv_iload_n X.1 X.2.1 dX5_howManySmallest_33 rfl (lv_at hl 1 rfl) ?_
        refine rn_ne X (ln_31 (ln_end12 hW r (show k < 2 ^ N 0 0 by omega))) (ln_31 (Nat.lt_of_lt_of_le (Nat.sub_lt (ln_pos2 _) (by decide)) hp12)) (tgt := 49) dX5_howManySmallest_34 (by decide) (fun h34 => ?_) (fun h34 => ?_)
        · skip
          refine lv_iinc (v := nI (k + 1)) (lv' := [(5, .int (nI (k + 1))), (1, .ref (a (37 + r))), (2, .int (nI (2 ^ N 0 0 - 1))), (3, .int (nI (ln_pc sL))), (4, .int (nI b))]) X.1 X.2.1 dX5_howManySmallest_49 hl (k := 4) rfl rn_inc (by decide) rfl (fun ls hl => ?_)
          refine lv_goto (tgt := 23) X.1 X.2.1 dX5_howManySmallest_52 (by decide) ?_
          exact ih23 (k + 1) _ (by omega) (by omega) (by first | (rw [ln_ct_f (ln_cs_f (ln_go_f h34))]; exact hb) | (rw [ln_ct_f (ln_cs_g h43)]; exact hb) | (rw [ln_ct_t (ln_cs_t (ln_go_t h34) h43), hb])) ls (lv_sub hl [1, 2, 3, 4, 0] rfl)
        · skip
          refine lv_iload X.1 X.2.1 dX5_howManySmallest_37 (lv_at hl 4 rfl) ?_
          refine ln_sR X (c_J6_bitCount_0f7a4 l D g 0 k (show k < 4096 by omega) (Nat.le_refl _)) ln_nil mM_X5_19 Y_J6_bitCount_0f7a4 rfl (by omega) hl.1 rfl (Nat.le_of_ble_eq_true rfl) dX5_howManySmallest_39 ⟨Nat.zero_le _, Nat.zero_le _⟩ (fun r39 hr39 => ?_)
          subst hr39
          refine lv_iload_n X.1 X.2.1 dX5_howManySmallest_42 rfl (lv_at hl 2 rfl) ?_
          refine rn_ne X (ln_31 (Nat.lt_of_le_of_lt (ln_pc_le _) (by decide))) (ln_31 (Nat.lt_of_le_of_lt (ln_pc_le _) (by decide))) (tgt := 49) dX5_howManySmallest_43 (by decide) (fun h43 => ?_) (fun h43 => ?_)
          · skip
            refine lv_iinc (v := nI (k + 1)) (lv' := [(5, .int (nI (k + 1))), (1, .ref (a (37 + r))), (2, .int (nI (2 ^ N 0 0 - 1))), (3, .int (nI (ln_pc sL))), (4, .int (nI b))]) X.1 X.2.1 dX5_howManySmallest_49 hl (k := 4) rfl rn_inc (by decide) rfl (fun ls hl => ?_)
            refine lv_goto (tgt := 23) X.1 X.2.1 dX5_howManySmallest_52 (by decide) ?_
            exact ih23 (k + 1) _ (by omega) (by omega) (by first | (rw [ln_ct_f (ln_cs_f (ln_go_f h34))]; exact hb) | (rw [ln_ct_f (ln_cs_g h43)]; exact hb) | (rw [ln_ct_t (ln_cs_t (ln_go_t h34) h43), hb])) ls (lv_sub hl [1, 2, 3, 4, 0] rfl)
          · skip
            refine lv_iinc (v := nI (b + 1)) (lv' := [(4, .int (nI (b + 1))), (1, .ref (a (37 + r))), (2, .int (nI (2 ^ N 0 0 - 1))), (3, .int (nI (ln_pc sL))), (5, .int (nI k))]) X.1 X.2.1 dX5_howManySmallest_46 hl (k := 3) rfl rn_inc (by decide) rfl (fun ls hl => ?_)
            refine lv_iinc (v := nI (k + 1)) (lv' := [(5, .int (nI (k + 1))), (4, .int (nI (b + 1))), (1, .ref (a (37 + r))), (2, .int (nI (2 ^ N 0 0 - 1))), (3, .int (nI (ln_pc sL)))]) X.1 X.2.1 dX5_howManySmallest_49 hl (k := 4) rfl rn_inc (by decide) rfl (fun ls hl => ?_)
            refine lv_goto (tgt := 23) X.1 X.2.1 dX5_howManySmallest_52 (by decide) ?_
            exact ih23 (k + 1) _ (by omega) (by omega) (by first | (rw [ln_ct_f (ln_cs_f (ln_go_f h34))]; exact hb) | (rw [ln_ct_f (ln_cs_g h43)]; exact hb) | (rw [ln_ct_t (ln_cs_t (ln_go_t h34) h43), hb])) ls (lv_sub hl [2, 3, 4, 1, 0] rfl)
  exact L23 _ 0 0 (Nat.lt_succ_self _) (Nat.zero_le _) rfl ls (lv_sub hl [5, 3, 2, 1, 0] rfl)
set_option maxHeartbeats 4000000 in
set_option maxRecDepth 100000 in
theorem c_X5_leastPriced (l : Launch) (D : va_G) (g : Nat → ClassId) (a : Nat → Nat) (σ : ln_S) (d : Nat) (N : ln_N) (hW : ln_wf N) (hN : ln_nC N σ) (r : Nat) (hr3 : r < 3) (hE : ln_eT N σ r)  (hd : 2 ≤ d) : ln_R l D g (CW a g σ) yX5_leastPriced (.code yX5_leastPriced cX5_leastPriced 6 (some .int)) d [.ref (a 12), .ref (a (37 + r))] (fun z => ∃ s, z = nI s ∧ ln_isP N r s) := by
  have hN12 := hW.n12
  have hp12 := hW.p12
  have hs1 := ln_sub1 (N 0 0)
  have hpl := fun t => ln_pri_le hW t (N 0 0)
  refine ln_ofR (by decide +kernel) (Nat.le_of_ble_eq_true rfl) (fun prg env rum sta mid args below meth cod ls hr hlk X hP hl => ?_)
  have hl : lv_has ls 6 [(0, .ref (a 12)), (1, .ref (a (37 + r)))] := hl
  generalize hQ0 : (MQ below (vp_Si (fun z => ∃ s, z = nI s ∧ ln_isP N r s)) args sta 0 0 (fun _ => False)) = Q0
  refine lv_aload_n X.1 X.2.1 dX5_leastPriced_0 rfl (lv_at hl 0 rfl) ?_
  refine gC_12_0 X hP mF_X5_7 dX5_leastPriced_1 ?_
  refine ln_vR X (c_X4_allPosts l D g a σ 0 N hW hN (Nat.le_refl _)) hP 1 rfl rfl mM_X5_13 Y_X4_allPosts rfl (by omega) hl.1 rfl (Nat.le_of_ble_eq_true rfl) dX5_leastPriced_4 ⟨Nat.zero_le _, Nat.zero_le _⟩ (fun r4 hr4 => ?_)
  subst hr4
  refine lv_istore_n (lv' := [(2, .int (nI (2 ^ N 0 0 - 1))), (0, .ref (a 12)), (1, .ref (a (37 + r)))]) X.1 X.2.1 dX5_leastPriced_7 rfl hl (by decide) rfl (fun ls hl => ?_)
  refine lv_iload_n X.1 X.2.1 dX5_leastPriced_8 rfl (lv_at hl 0 rfl) ?_
  refine lv_istore_n (lv' := [(3, .int (nI (2 ^ N 0 0 - 1))), (2, .int (nI (2 ^ N 0 0 - 1))), (0, .ref (a 12)), (1, .ref (a (37 + r)))]) X.1 X.2.1 dX5_leastPriced_9 rfl hl (by decide) rfl (fun ls hl => ?_)
  refine lv_aload_n X.1 X.2.1 dX5_leastPriced_10 rfl (lv_at hl 2 rfl) ?_
  refine gC_12_0 X hP mF_X5_7 dX5_leastPriced_11 ?_
  refine lv_iload_n X.1 X.2.1 dX5_leastPriced_14 rfl (lv_at hl 1 rfl) ?_
  refine ln_vR X (c_X4_priceOf l D g a σ 1 N hW hN (2 ^ N 0 0 - 1) (Nat.lt_of_lt_of_le (Nat.sub_lt (ln_pos2 _) (by decide)) hp12) (Nat.le_refl _)) hP 1 rfl rfl mM_X5_29 Y_X4_priceOf rfl (by omega) hl.1 rfl (Nat.le_of_ble_eq_true rfl) dX5_leastPriced_15 ⟨Nat.zero_le _, Nat.zero_le _⟩ (fun r15 hr15 => ?_)
  subst hr15
  refine lv_iconst (v := nI 1) X.1 X.2.1 dX5_leastPriced_18 (by decide) ?_
  refine rn_add X dX5_leastPriced_19 ?_
  refine lv_istore (lv' := [(4, .int (nI (ln_pri N (2 ^ N 0 0 - 1) (N 0 0) + 1))), (3, .int (nI (2 ^ N 0 0 - 1))), (2, .int (nI (2 ^ N 0 0 - 1))), (0, .ref (a 12)), (1, .ref (a (37 + r)))]) X.1 X.2.1 dX5_leastPriced_20 hl (by decide) rfl (fun ls hl => ?_)
  refine lv_iconst (v := nI 0) X.1 X.2.1 dX5_leastPriced_22 (by decide) ?_
  refine lv_istore (lv' := [(5, .int (nI 0)), (4, .int (nI (ln_pri N (2 ^ N 0 0 - 1) (N 0 0) + 1))), (3, .int (nI (2 ^ N 0 0 - 1))), (2, .int (nI (2 ^ N 0 0 - 1))), (0, .ref (a 12)), (1, .ref (a (37 + r)))]) X.1 X.2.1 dX5_leastPriced_23 hl (by decide) rfl (fun ls hl => ?_)
  have L25 : ∀ (K : Nat) (k : Nat) (b : Nat) (v : Nat), 2 ^ N 0 0 - k < K → (k ≤ 2 ^ N 0 0) → (v ≤ 12001) → (ln_bP N r b v k) → ∀ ls : Array Slot, lv_has ls 6 [(0, .ref (a 12)), (1, .ref (a (37 + r))), (2, .int (nI (2 ^ N 0 0 - 1))), (3, .int (nI b)), (4, .int (nI v)), (5, .int (nI k))] → W prg l env rum sta mid args below meth cod sta.heap [] 0 0 Q0 (F0 mid 25 ls []) := by
    intro K
    induction K with
    | zero => intro k b v hm; exact absurd hm (Nat.not_lt_zero _)
    | succ K ih25 =>
      intro k b v hm25 hk hv hb ls hl
      refine lv_iload X.1 X.2.1 dX5_leastPriced_25 (lv_at hl 5 rfl) ?_
      refine lv_iload_n X.1 X.2.1 dX5_leastPriced_27 rfl (lv_at hl 2 rfl) ?_
      refine rn_gt X (by omega) (ln_31 (Nat.lt_of_lt_of_le (Nat.sub_lt (ln_pos2 _) (by decide)) hp12)) (tgt := 73) dX5_leastPriced_28 (by decide) (fun h28 => ?_) (fun h28 => ?_)
      · skip
        refine lv_iload_n X.1 X.2.1 dX5_leastPriced_73 rfl (lv_at hl 3 rfl) ?_
        subst hQ0
        exact ln_retR X hr hlk rfl ⟨b, rfl, ln_bP_end hW (by rw [show k = 2 ^ N 0 0 by omega] at hb; exact hb)⟩ dX5_leastPriced_74
      · skip
        refine lv_aload_n X.1 X.2.1 dX5_leastPriced_31 rfl (lv_at hl 1 rfl) ?_
        refine lv_iload X.1 X.2.1 dX5_leastPriced_32 (lv_at hl 5 rfl) ?_
        refine lC_r37 X hP hr3 (by omega) (v := nI (ln_end N r k)) (hE _ (by omega)) dX5_leastPriced_34 ?_
        refine lv_iload_n X.1 X.2.1 dX5_leastPriced_35 rfl (lv_at hl 2 rfl) ?_
        refine rn_ne X (ln_31 (ln_end12 hW r (show k < 2 ^ N 0 0 by omega))) (ln_31 (Nat.lt_of_lt_of_le (Nat.sub_lt (ln_pos2 _) (by decide)) hp12)) (tgt := 67) dX5_leastPriced_36 (by decide) (fun h36 => ?_) (fun h36 => ?_)
        · skip
          refine lv_iinc (v := nI (k + 1)) (lv' := [(5, .int (nI (k + 1))), (0, .ref (a 12)), (1, .ref (a (37 + r))), (2, .int (nI (2 ^ N 0 0 - 1))), (3, .int (nI b)), (4, .int (nI v))]) X.1 X.2.1 dX5_leastPriced_67 hl (k := 5) rfl rn_inc (by decide) rfl (fun ls hl => ?_)
          refine lv_goto (tgt := 25) X.1 X.2.1 dX5_leastPriced_70 (by decide) ?_
          exact ih25 (k + 1) _ _ (by omega) (by omega) (by first | exact hv | (have := hpl k; omega)) (by first | exact ln_bP_skip hb (ln_go_f h36) | exact ln_bP_keep hb (by omega) h50 | exact ln_bP_take hb (by omega) (ln_go_t h36) h50) ls (lv_sub hl [1, 2, 3, 4, 5, 0] rfl)
        · skip
          refine lv_aload_n X.1 X.2.1 dX5_leastPriced_39 rfl (lv_at hl 0 rfl) ?_
          refine gC_12_0 X hP mF_X5_7 dX5_leastPriced_40 ?_
          refine lv_iload X.1 X.2.1 dX5_leastPriced_43 (lv_at hl 5 rfl) ?_
          refine ln_vR X (c_X4_priceOf l D g a σ 1 N hW hN k (show k < 4096 by omega) (Nat.le_refl _)) hP 1 rfl rfl mM_X5_29 Y_X4_priceOf rfl (by omega) hl.1 rfl (Nat.le_of_ble_eq_true rfl) dX5_leastPriced_45 ⟨Nat.zero_le _, Nat.zero_le _⟩ (fun r45 hr45 => ?_)
          subst hr45
          refine lv_iload X.1 X.2.1 dX5_leastPriced_48 (lv_at hl 4 rfl) ?_
          refine rn_ge X (by have := hpl k; omega) (by omega) (tgt := 67) dX5_leastPriced_50 (by decide) (fun h50 => ?_) (fun h50 => ?_)
          · skip
            refine lv_iinc (v := nI (k + 1)) (lv' := [(5, .int (nI (k + 1))), (0, .ref (a 12)), (1, .ref (a (37 + r))), (2, .int (nI (2 ^ N 0 0 - 1))), (3, .int (nI b)), (4, .int (nI v))]) X.1 X.2.1 dX5_leastPriced_67 hl (k := 5) rfl rn_inc (by decide) rfl (fun ls hl => ?_)
            refine lv_goto (tgt := 25) X.1 X.2.1 dX5_leastPriced_70 (by decide) ?_
            exact ih25 (k + 1) _ _ (by omega) (by omega) (by first | exact hv | (have := hpl k; omega)) (by first | exact ln_bP_skip hb (ln_go_f h36) | exact ln_bP_keep hb (by omega) h50 | exact ln_bP_take hb (by omega) (ln_go_t h36) h50) ls (lv_sub hl [1, 2, 3, 4, 5, 0] rfl)
          · skip
            refine lv_iload X.1 X.2.1 dX5_leastPriced_53 (lv_at hl 5 rfl) ?_
            refine lv_istore_n (lv' := [(3, .int (nI k)), (0, .ref (a 12)), (1, .ref (a (37 + r))), (2, .int (nI (2 ^ N 0 0 - 1))), (4, .int (nI v)), (5, .int (nI k))]) X.1 X.2.1 dX5_leastPriced_55 rfl hl (by decide) rfl (fun ls hl => ?_)
            refine lv_aload_n X.1 X.2.1 dX5_leastPriced_56 rfl (lv_at hl 1 rfl) ?_
            refine gC_12_0 X hP mF_X5_7 dX5_leastPriced_57 ?_
            refine lv_iload X.1 X.2.1 dX5_leastPriced_60 (lv_at hl 5 rfl) ?_
            refine ln_vR X (c_X4_priceOf l D g a σ 1 N hW hN k (show k < 4096 by omega) (Nat.le_refl _)) hP 1 rfl rfl mM_X5_29 Y_X4_priceOf rfl (by omega) hl.1 rfl (Nat.le_of_ble_eq_true rfl) dX5_leastPriced_62 ⟨Nat.zero_le _, Nat.zero_le _⟩ (fun r62 hr62 => ?_)
            subst hr62
            refine lv_istore (lv' := [(4, .int (nI (ln_pri N k (N 0 0)))), (3, .int (nI k)), (0, .ref (a 12)), (1, .ref (a (37 + r))), (2, .int (nI (2 ^ N 0 0 - 1))), (5, .int (nI k))]) X.1 X.2.1 dX5_leastPriced_65 hl (by decide) rfl (fun ls hl => ?_)
            refine lv_iinc (v := nI (k + 1)) (lv' := [(5, .int (nI (k + 1))), (4, .int (nI (ln_pri N k (N 0 0)))), (3, .int (nI k)), (0, .ref (a 12)), (1, .ref (a (37 + r))), (2, .int (nI (2 ^ N 0 0 - 1)))]) X.1 X.2.1 dX5_leastPriced_67 hl (k := 5) rfl rn_inc (by decide) rfl (fun ls hl => ?_)
            refine lv_goto (tgt := 25) X.1 X.2.1 dX5_leastPriced_70 (by decide) ?_
            exact ih25 (k + 1) _ _ (by omega) (by omega) (by first | exact hv | (have := hpl k; omega)) (by first | exact ln_bP_skip hb (ln_go_f h36) | exact ln_bP_keep hb (by omega) h50 | exact ln_bP_take hb (by omega) (ln_go_t h36) h50) ls (lv_sub hl [3, 4, 5, 2, 1, 0] rfl)
  exact L25 _ 0 _ _ (Nat.lt_succ_self _) (Nat.zero_le _) (by have := hpl (2 ^ N 0 0 - 1); omega) (Or.inl ⟨rfl, rfl, fun t ht => absurd ht (Nat.not_lt_zero t)⟩) ls (lv_sub hl [4, 5, 3, 2, 1, 0] rfl)
set_option maxHeartbeats 4000000 in
set_option maxRecDepth 100000 in
theorem c_X5_paredDown (l : Launch) (D : va_G) (g : Nat → ClassId) (a : Nat → Nat) (σ : ln_S) (d : Nat) (N : ln_N) (hW : ln_wf N) (hN : ln_nC N σ) (r : Nat) (hr3 : r < 3) (hE : ln_eT N σ r)  (hd : 1 ≤ d) : ln_R l D g (CW a g σ) yX5_paredDown (.code yX5_paredDown cX5_paredDown 6 (some .int)) d [.ref (a 12), .ref (a (37 + r))] (fun z => z = nI (ln_pd N r (N 0 0) (2 ^ N 0 0 - 1))) := by
  have hN12 := hW.n12
  have hp12 := hW.p12
  have hs1 := ln_sub1 (N 0 0)
  refine ln_ofR (by decide +kernel) (Nat.le_of_ble_eq_true rfl) (fun prg env rum sta mid args below meth cod ls hr hlk X hP hl => ?_)
  have hl : lv_has ls 6 [(0, .ref (a 12)), (1, .ref (a (37 + r)))] := hl
  generalize hQ0 : (MQ below (vp_Si (fun z => z = nI (ln_pd N r (N 0 0) (2 ^ N 0 0 - 1)))) args sta 0 0 (fun _ => False)) = Q0
  refine lv_aload_n X.1 X.2.1 dX5_paredDown_0 rfl (lv_at hl 0 rfl) ?_
  refine gC_12_0 X hP mF_X5_7 dX5_paredDown_1 ?_
  refine ln_vR X (c_X4_allPosts l D g a σ 0 N hW hN (Nat.le_refl _)) hP 1 rfl rfl mM_X5_13 Y_X4_allPosts rfl (by omega) hl.1 rfl (Nat.le_of_ble_eq_true rfl) dX5_paredDown_4 ⟨Nat.zero_le _, Nat.zero_le _⟩ (fun r4 hr4 => ?_)
  subst hr4
  refine lv_istore_n (lv' := [(2, .int (nI (2 ^ N 0 0 - 1))), (0, .ref (a 12)), (1, .ref (a (37 + r)))]) X.1 X.2.1 dX5_paredDown_7 rfl hl (by decide) rfl (fun ls hl => ?_)
  refine lv_iload_n X.1 X.2.1 dX5_paredDown_8 rfl (lv_at hl 0 rfl) ?_
  refine lv_istore_n (lv' := [(3, .int (nI (2 ^ N 0 0 - 1))), (2, .int (nI (2 ^ N 0 0 - 1))), (0, .ref (a 12)), (1, .ref (a (37 + r)))]) X.1 X.2.1 dX5_paredDown_9 rfl hl (by decide) rfl (fun ls hl => ?_)
  refine lv_aload_n X.1 X.2.1 dX5_paredDown_10 rfl (lv_at hl 2 rfl) ?_
  refine gC_12_0 X hP mF_X5_7 dX5_paredDown_11 ?_
  refine nC_1_0 X hP (v := nI (N 0 0)) hN.n mF_X5_32 dX5_paredDown_14 ?_
  refine lv_iconst (v := nI 1) X.1 X.2.1 dX5_paredDown_17 (by decide) ?_
  refine lv_isub X.1 X.2.1 dX5_paredDown_18 ?_
  refine rn_top (y := (nI (N 0 0) - 1)) rfl ?_
  refine lv_istore (lv' := [(4, .int (nI (N 0 0) - 1)), (3, .int (nI (2 ^ N 0 0 - 1))), (2, .int (nI (2 ^ N 0 0 - 1))), (0, .ref (a 12)), (1, .ref (a (37 + r)))]) X.1 X.2.1 dX5_paredDown_19 hl (by decide) rfl (fun ls hl => ?_)
  have L21 : ∀ (K : Nat) (k : Nat) (s : Nat), k < K → (k ≤ N 0 0) → (s < 2 ^ N 0 0) → (ln_pd N r k s = ln_pd N r (N 0 0) (2 ^ N 0 0 - 1)) → ∀ ls : Array Slot, lv_has ls 6 [(1, .ref (a (37 + r))), (2, .int (nI (2 ^ N 0 0 - 1))), (3, .int (nI s)), (4, .int (nI k - 1))] → W prg l env rum sta mid args below meth cod sta.heap [] 0 0 Q0 (F0 mid 21 ls []) := by
    intro K
    induction K with
    | zero => intro k s hm; exact absurd hm (Nat.not_lt_zero _)
    | succ K ih21 =>
      intro k s hm21 hk hs hp ls hl
      refine lv_iload X.1 X.2.1 dX5_paredDown_21 (lv_at hl 3 rfl) ?_
      rcases ln_m1_cases k with ⟨ek, e1⟩ | ⟨j, ek, e1⟩
      · refine rn_top (y := ((-1))) e1 ?_
        refine lv_if_lt (tgt := 53) X.1 X.2.1 dX5_paredDown_23 (by decide) (fun h23 => ?_) (fun h23 => absurd (by decide) h23)
        refine lv_iload_n X.1 X.2.1 dX5_paredDown_53 rfl (lv_at hl 2 rfl) ?_
        subst hQ0
        exact ln_retR X hr hlk rfl (by subst ek; rw [← hp]; rfl) dX5_paredDown_54
      · refine rn_top (y := nI j) e1 ?_
        subst ek
        rw [nI_pred] at hl
        refine rn_lt0 X (ln_31 (show j < 4096 by omega)) (tgt := 53) dX5_paredDown_23 (by decide) ?_
        refine lv_iload_n X.1 X.2.1 dX5_paredDown_26 rfl (lv_at hl 2 rfl) ?_
        refine lv_iconst (v := nI 1) X.1 X.2.1 dX5_paredDown_27 (by decide) ?_
        refine lv_iload X.1 X.2.1 dX5_paredDown_28 (lv_at hl 3 rfl) ?_
        refine rn_shl X (by omega) dX5_paredDown_30 ?_
        refine lv_iconst (v := ((-1))) X.1 X.2.1 dX5_paredDown_31 (by decide) ?_
        refine lv_ixor X.1 X.2.1 dX5_paredDown_32 ?_
        refine rn_nt X dX5_paredDown_33 ?_
        refine lv_istore (lv' := [(5, .int (nI (ln_df s (2 ^ j)))), (1, .ref (a (37 + r))), (2, .int (nI (2 ^ N 0 0 - 1))), (3, .int (nI s)), (4, .int (nI j))]) X.1 X.2.1 dX5_paredDown_34 hl (by decide) rfl (fun ls hl => ?_)
        refine lv_aload_n X.1 X.2.1 dX5_paredDown_36 rfl (lv_at hl 1 rfl) ?_
        refine lv_iload X.1 X.2.1 dX5_paredDown_37 (lv_at hl 0 rfl) ?_
        refine lC_r37 X hP hr3 (ln_n12 hW (ln_df_lt hs)) (v := nI (ln_end N r (ln_df s (2 ^ j)))) (hE _ (ln_df_lt hs)) dX5_paredDown_39 ?_
        refine lv_iload_n X.1 X.2.1 dX5_paredDown_40 rfl (lv_at hl 2 rfl) ?_
        refine rn_ne X (ln_31 (ln_end12 hW r (ln_df_lt hs))) (ln_31 (Nat.lt_of_lt_of_le (Nat.sub_lt (ln_pos2 _) (by decide)) hp12)) (tgt := 47) dX5_paredDown_41 (by decide) (fun h41 => ?_) (fun h41 => ?_)
        · skip
          refine lv_iinc (v := (nI j - 1)) (lv' := [(4, .int (nI j - 1)), (5, .int (nI (ln_df s (2 ^ j)))), (1, .ref (a (37 + r))), (2, .int (nI (2 ^ N 0 0 - 1))), (3, .int (nI s))]) X.1 X.2.1 dX5_paredDown_47 hl (k := 4) rfl rn_inn (by decide) rfl (fun ls hl => ?_)
          refine lv_goto (tgt := 21) X.1 X.2.1 dX5_paredDown_50 (by decide) ?_
          exact ih21 j _ (by omega) (by omega) (by first | exact hs | exact ln_df_lt hs) (by first | (rw [← hp, ln_pd_t (ln_go_t h41)]) | (rw [← hp, ln_pd_f (ln_go_f h41)])) ls (lv_sub hl [2, 3, 4, 0] rfl)
        · skip
          refine lv_iload X.1 X.2.1 dX5_paredDown_44 (lv_at hl 0 rfl) ?_
          refine lv_istore_n (lv' := [(3, .int (nI (ln_df s (2 ^ j)))), (5, .int (nI (ln_df s (2 ^ j)))), (1, .ref (a (37 + r))), (2, .int (nI (2 ^ N 0 0 - 1))), (4, .int (nI j))]) X.1 X.2.1 dX5_paredDown_46 rfl hl (by decide) rfl (fun ls hl => ?_)
          refine lv_iinc (v := (nI j - 1)) (lv' := [(4, .int (nI j - 1)), (3, .int (nI (ln_df s (2 ^ j)))), (5, .int (nI (ln_df s (2 ^ j)))), (1, .ref (a (37 + r))), (2, .int (nI (2 ^ N 0 0 - 1)))]) X.1 X.2.1 dX5_paredDown_47 hl (k := 4) rfl rn_inn (by decide) rfl (fun ls hl => ?_)
          refine lv_goto (tgt := 21) X.1 X.2.1 dX5_paredDown_50 (by decide) ?_
          exact ih21 j _ (by omega) (by omega) (by first | exact hs | exact ln_df_lt hs) (by first | (rw [← hp, ln_pd_t (ln_go_t h41)]) | (rw [← hp, ln_pd_f (ln_go_f h41)])) ls (lv_sub hl [3, 4, 1, 0] rfl)
  exact L21 _ (N 0 0) _ (Nat.lt_succ_self _) (Nat.le_refl _) (ln_all_lt _) rfl ls (lv_sub hl [4, 2, 1, 0] rfl)
set_option maxHeartbeats 4000000 in
set_option maxRecDepth 100000 in
theorem c_X10_endOf (l : Launch) (D : va_G) (g : Nat → ClassId) (a : Nat → Nat) (σ : ln_S) (d : Nat) (N : ln_N) (hW : ln_wf N) (hN : ln_nM N σ) (E : Nat) (hK : ln_MK N σ E) (r S : Nat) (hr3 : r < 3) (hEr : r ≠ E) (hS : S < 2 ^ N 0 0) (hd : 4 ≤ d) : ln_U l D g (MW a g) yX10_endOf (.code yX10_endOf cX10_endOf 4 (some .int)) d [.ref (a 0), .int (nI r), .int (nI S)] σ (fun z τ => z = nI (ln_end N r S) ∧ ln_nM N τ ∧ ln_MK N τ E ∧ ∀ c, c ≠ 0 → c ≠ 5 → c ≠ 6 → τ c = σ c) := by
  have hN12 := hW.n12
  have hp12 := hW.p12
  have hs1 := ln_sub1 (N 0 0)
  obtain ⟨K, hK1, hK2, hK3⟩ := hK
  refine ln_ofU (by decide +kernel) (Nat.le_of_ble_eq_true rfl) (fun prg env rum sta mid args below meth cod ls A hr hlk X hA hP hDw hSw hl => ?_)
  have hl : lv_has ls 4 [(0, .ref (a 0)), (1, .int (nI r)), (2, .int (nI S))] := hl
  generalize hQ0 : (MQ below (va_Qi (fun z τ => z = nI (ln_end N r S) ∧ ln_nM N τ ∧ ln_MK N τ E ∧ ∀ c, c ≠ 0 → c ≠ 5 → c ≠ 6 → τ c = σ c) (fun τ t => va_P D ln_cl (MW a g τ) t.heap) A) args sta 0 0 A) = Q0
  obtain ⟨H, hH⟩ : ∃ H, H = sta.heap := ⟨_, rfl⟩
  obtain ⟨locs, hlo⟩ : ∃ x : List Loc, x = [] := ⟨_, rfl⟩
  rw [← hH] at hP
  have hSw : va_S A sta.heap H locs := by rw [hH, hlo]; exact hSw
  have goal : W prg l env rum sta mid args below meth cod H locs 0 0 Q0 (F0 mid 0 ls []) := ?_
  · rw [hH, hlo] at goal; exact goal
  clear hlo
  refine lv_aload_n X.1 X.2.1 dX10_endOf_0 rfl (lv_at hl 0 rfl) ?_
  refine lv_iconst (v := nI 0) X.1 X.2.1 dX10_endOf_1 (by decide) ?_
  refine lv_iload_n X.1 X.2.1 dX10_endOf_2 rfl (lv_at hl 1 rfl) ?_
  refine rn_add X dX10_endOf_3 ?_
  refine rn_top (y := nI r) (by rw [Nat.zero_add]) ?_
  refine ln_vU X (MW_ad a g) hA (c_X10_isKnown l D g a σ 0 K r hK1 hK2 (by omega) (Nat.le_refl _)) hP hDw hSw 0 rfl rfl mM_X10_84 Y_X10_isKnown rfl (by omega) hl.1 rfl (Nat.le_of_ble_eq_true rfl) dX10_endOf_4 ⟨Nat.zero_le _, Nat.zero_le _⟩ (fun r4 τ4 H locs hr4 hP hDw hSw => ?_)
  obtain ⟨hz4, hτ4⟩ := hr4
  subst hz4
  have hN4 : ln_nM N τ4 := by rw [hτ4]; exact hN.up0 (by decide) _
  have h41 : τ4 0 1 = nI (K ||| 2 ^ r) := by rw [hτ4]; rfl
  have ho4 : ∀ c, c ≠ 0 → τ4 c = σ c := fun c hc => by rw [hτ4, ln_up_n _ _ hc]
  refine rn_neB X (tgt := 44) dX10_endOf_7 (by decide) (fun h7 => ?_) (fun h7 => ?_)
  · skip
    have hTr := hK3 r hEr h7
    rw [ln_mT_e hr3] at hTr
    refine lv_aload_n X.1 X.2.1 dX10_endOf_44 rfl (lv_at hl 0 rfl) ?_
    refine gM_0_8 X hP mF_X10_25 dX10_endOf_45 ?_
    refine lv_sipush (v := nI 4096) X.1 X.2.1 dX10_endOf_48 (by decide) ?_
    refine lv_iload_n X.1 X.2.1 dX10_endOf_51 rfl (lv_at hl 1 rfl) ?_
    refine rn_mul X dX10_endOf_52 ?_
    refine lv_iload_n X.1 X.2.1 dX10_endOf_53 rfl (lv_at hl 2 rfl) ?_
    refine rn_add X dX10_endOf_54 ?_
    refine lM_6 X hP (by omega) (v := nI (ln_end N r S)) (by first | exact hT S (by omega) | (rw [ho4 6 (by decide)]; exact hTr S hS)) dX10_endOf_55 ?_
    subst hQ0
    exact ln_retU X hr hlk hP hSw rfl (by first | exact ⟨rfl, hN4, ln_MK_put hK2 (by omega) hK3 h41 (fun _ => by rw [ln_mT_e hr3]; intro T h; rw [ho4 6 (by decide)]; exact hTr T h) (fun k _ hk => hk.of (fun c hc => ho4 c (by omega))), fun c h1 _ _ => ho4 c h1⟩ | exact ⟨rfl, hN, ln_MK_put hK2 (by omega) hK3 ((ho2 1 (by decide)).trans h41) (fun _ => by rw [ln_mT_e hr3]; intro T h; exact hT T (by omega)) (fun k hk h => ln_mT_eo hW hk h6 ho h), ho⟩) dX10_endOf_56
  · skip
    refine lv_iconst (v := nI 0) X.1 X.2.1 dX10_endOf_10 (by decide) ?_
    refine lv_istore_n (lv' := [(3, .int (nI 0)), (0, .ref (a 0)), (1, .int (nI r)), (2, .int (nI S))]) X.1 X.2.1 dX10_endOf_11 rfl hl (by decide) rfl (fun ls hl => ?_)
    have L12 : ∀ (K : Nat) (k : Nat) (τ : ln_S) (H : Heap) (locs : List Loc), 2 ^ N 0 0 - k < K → (k ≤ 2 ^ N 0 0) → (∀ T, T < k → τ 6 (4096 * r + T) = nI (ln_end N r T)) → (∀ i, i < 4096 * r ∨ 4096 * r + 4096 ≤ i → τ 6 i = σ 6 i) → (∀ c, c ≠ 0 → c ≠ 5 → c ≠ 6 → τ c = σ c) → (∀ j, j ≠ 2 → τ 0 j = τ4 0 j) → va_P D ln_cl (MW a g τ) H → va_D A (MW a g τ) → va_S A sta.heap H locs → ∀ ls : Array Slot, lv_has ls 4 [(0, .ref (a 0)), (1, .int (nI r)), (2, .int (nI S)), (3, .int (nI k))] → W prg l env rum sta mid args below meth cod H locs 0 0 Q0 (F0 mid 12 ls []) := by
      intro K
      induction K with
      | zero => intro k τ H locs hm; exact absurd hm (Nat.not_lt_zero _)
      | succ K ih12 =>
        intro k τ H locs hm12 hk hT h6 ho ho2 hP hDw hSw ls hl
        have hN : ln_nM N τ := hN4.of (ho2 0 (by decide)) (fun c h1 h2 => (ho c (by omega) (by omega) (by omega)).trans (ho4 c (by omega)).symm)
        refine lv_iload_n X.1 X.2.1 dX10_endOf_12 rfl (lv_at hl 3 rfl) ?_
        refine lv_aload_n X.1 X.2.1 dX10_endOf_13 rfl (lv_at hl 0 rfl) ?_
        refine ln_vR X (c_X10_all l D g a τ 0 N hW hN (Nat.le_refl _)) hP 0 rfl rfl mM_X10_87 Y_X10_all rfl (by omega) hl.1 rfl (Nat.le_of_ble_eq_true rfl) dX10_endOf_14 ⟨Nat.zero_le _, Nat.zero_le _⟩ (fun r14 hr14 => ?_)
        subst hr14
        refine rn_gt X (by omega) (ln_31 (Nat.lt_of_lt_of_le (Nat.sub_lt (ln_pos2 _) (by decide)) hp12)) (tgt := 44) dX10_endOf_17 (by decide) (fun h17 => ?_) (fun h17 => ?_)
        · skip
          refine lv_aload_n X.1 X.2.1 dX10_endOf_44 rfl (lv_at hl 0 rfl) ?_
          refine gM_0_8 X hP mF_X10_25 dX10_endOf_45 ?_
          refine lv_sipush (v := nI 4096) X.1 X.2.1 dX10_endOf_48 (by decide) ?_
          refine lv_iload_n X.1 X.2.1 dX10_endOf_51 rfl (lv_at hl 1 rfl) ?_
          refine rn_mul X dX10_endOf_52 ?_
          refine lv_iload_n X.1 X.2.1 dX10_endOf_53 rfl (lv_at hl 2 rfl) ?_
          refine rn_add X dX10_endOf_54 ?_
          refine lM_6 X hP (by omega) (v := nI (ln_end N r S)) (by first | exact hT S (by omega) | (rw [ho4 6 (by decide)]; exact hTr S hS)) dX10_endOf_55 ?_
          subst hQ0
          exact ln_retU X hr hlk hP hSw rfl (by first | exact ⟨rfl, hN4, ln_MK_put hK2 (by omega) hK3 h41 (fun _ => by rw [ln_mT_e hr3]; intro T h; rw [ho4 6 (by decide)]; exact hTr T h) (fun k _ hk => hk.of (fun c hc => ho4 c (by omega))), fun c h1 _ _ => ho4 c h1⟩ | exact ⟨rfl, hN, ln_MK_put hK2 (by omega) hK3 ((ho2 1 (by decide)).trans h41) (fun _ => by rw [ln_mT_e hr3]; intro T h; exact hT T (by omega)) (fun k hk h => ln_mT_eo hW hk h6 ho h), ho⟩) dX10_endOf_56
        · skip
          refine lv_aload_n X.1 X.2.1 dX10_endOf_20 rfl (lv_at hl 0 rfl) ?_
          refine gM_0_8 X hP mF_X10_25 dX10_endOf_21 ?_
          refine lv_sipush (v := nI 4096) X.1 X.2.1 dX10_endOf_24 (by decide) ?_
          refine lv_iload_n X.1 X.2.1 dX10_endOf_27 rfl (lv_at hl 1 rfl) ?_
          refine rn_mul X dX10_endOf_28 ?_
          refine lv_iload_n X.1 X.2.1 dX10_endOf_29 rfl (lv_at hl 3 rfl) ?_
          refine rn_add X dX10_endOf_30 ?_
          refine lv_aload_n X.1 X.2.1 dX10_endOf_31 rfl (lv_at hl 0 rfl) ?_
          refine lv_iload_n X.1 X.2.1 dX10_endOf_32 rfl (lv_at hl 1 rfl) ?_
          refine lv_iload_n X.1 X.2.1 dX10_endOf_33 rfl (lv_at hl 3 rfl) ?_
          refine ln_vU X (MW_ad a g) hA (c_X10_runs l D g a τ 3 N hW hN r k (by omega) (show k < 2 ^ N 0 0 by omega) (Nat.le_refl _)) hP hDw hSw 0 rfl rfl mM_X10_91 Y_X10_runs rfl (by omega) hl.1 rfl (Nat.le_of_ble_eq_true rfl) dX10_endOf_34 ⟨Nat.zero_le _, Nat.zero_le _⟩ (fun r34 τ34 H locs hr34 hP hDw hSw => ?_)
          obtain ⟨hz34, hran, hf1, hf2⟩ := hr34
          subst hz34
          refine sM_6 X hP hDw hSw (by omega) dX10_endOf_37 (fun H locs hP hDw hSw => ?_)
          obtain ⟨τ1, hτ1⟩ : ∃ z : ln_S, z = (ln_up τ34 6 (upd (τ34 6) (4096 * r + k) (nI (ln_end N r k)))) := ⟨_, rfl⟩
          rw [← hτ1] at hP hDw
          have hT1 : ∀ T, T < k + 1 → τ1 6 (4096 * r + T) = nI (ln_end N r T) := fun T hT2 => by rw [hτ1, ln_up_s]; by_cases e : T = k; (· subst e; exact ln_upd_s); (· rw [ln_upd_n (by omega), hf1 6 (by decide) (by decide)]; exact hT T (by omega))
          have h61 : ∀ i, i < 4096 * r ∨ 4096 * r + 4096 ≤ i → τ1 6 i = σ 6 i := fun i hi => by rw [hτ1, ln_up_s, ln_upd_n (by omega), hf1 6 (by decide) (by decide)]; exact h6 i hi
          have hq1 : ∀ c, c ≠ 0 → c ≠ 5 → c ≠ 6 → τ1 c = σ c := fun c h1 h2 h3 => by rw [hτ1, ln_up_n _ _ h3, hf1 c h1 h2]; exact ho c h1 h2 h3
          have hu1 : ∀ j, j ≠ 2 → τ1 0 j = τ4 0 j := fun j h1 => by rw [hτ1, ln_up_n _ _ (by decide), hf2 j h1]; exact ho2 j h1
          refine lv_iinc (v := nI (k + 1)) (lv' := [(3, .int (nI (k + 1))), (0, .ref (a 0)), (1, .int (nI r)), (2, .int (nI S))]) X.1 X.2.1 dX10_endOf_38 hl (k := 3) rfl rn_inc (by decide) rfl (fun ls hl => ?_)
          refine lv_goto (tgt := 12) X.1 X.2.1 dX10_endOf_41 (by decide) ?_
          exact ih12 (k + 1) τ1 H locs (by omega) (by omega) hT1 h61 hq1 hu1 hP hDw hSw ls (lv_sub hl [1, 2, 3, 0] rfl)
    exact L12 _ 0 τ4 H locs (Nat.lt_succ_self _) (Nat.zero_le _) (fun T hT => absurd hT (Nat.not_lt_zero T)) (fun i _ => by rw [ho4 6 (by decide)]) (fun c h1 _ _ => ho4 c h1) (fun j _ => rfl) hP hDw hSw ls (lv_sub hl [1, 2, 3, 0] rfl)
set_option maxHeartbeats 4000000 in
set_option maxRecDepth 100000 in
theorem c_X10_setsGoing (l : Launch) (D : va_G) (g : Nat → ClassId) (a : Nat → Nat) (σ : ln_S) (d : Nat) (N : ln_N) (hW : ln_wf N) (hN : ln_nM N σ) (E : Nat) (hK : ln_MK N σ E) (r S : Nat) (hr3 : r < 3) (hEr : r ≠ E) (hS : S < 2 ^ N 0 0) (hd : 5 ≤ d) : ln_U l D g (MW a g) yX10_setsGoing (.code yX10_setsGoing cX10_setsGoing 3 (some .boolean)) d [.ref (a 0), .int (nI r), .int (nI S)] σ (fun z τ => z = ln_b (ln_go N r S) ∧ ln_nM N τ ∧ ln_MK N τ E ∧ ∀ c, c ≠ 0 → c ≠ 5 → c ≠ 6 → τ c = σ c) := by
  have hN12 := hW.n12
  have hp12 := hW.p12
  have hs1 := ln_sub1 (N 0 0)
  refine ln_ofU (by decide +kernel) (Nat.le_of_ble_eq_true rfl) (fun prg env rum sta mid args below meth cod ls A hr hlk X hA hP hDw hSw hl => ?_)
  have hl : lv_has ls 3 [(0, .ref (a 0)), (1, .int (nI r)), (2, .int (nI S))] := hl
  generalize hQ0 : (MQ below (va_Qi (fun z τ => z = ln_b (ln_go N r S) ∧ ln_nM N τ ∧ ln_MK N τ E ∧ ∀ c, c ≠ 0 → c ≠ 5 → c ≠ 6 → τ c = σ c) (fun τ t => va_P D ln_cl (MW a g τ) t.heap) A) args sta 0 0 A) = Q0
  obtain ⟨H, hH⟩ : ∃ H, H = sta.heap := ⟨_, rfl⟩
  obtain ⟨locs, hlo⟩ : ∃ x : List Loc, x = [] := ⟨_, rfl⟩
  rw [← hH] at hP
  have hSw : va_S A sta.heap H locs := by rw [hH, hlo]; exact hSw
  have goal : W prg l env rum sta mid args below meth cod H locs 0 0 Q0 (F0 mid 0 ls []) := ?_
  · rw [hH, hlo] at goal; exact goal
  clear hlo
  refine lv_aload_n X.1 X.2.1 dX10_setsGoing_0 rfl (lv_at hl 0 rfl) ?_
  refine lv_iload_n X.1 X.2.1 dX10_setsGoing_1 rfl (lv_at hl 1 rfl) ?_
  refine lv_iload_n X.1 X.2.1 dX10_setsGoing_2 rfl (lv_at hl 2 rfl) ?_
  refine ln_vU X (MW_ad a g) hA (c_X10_endOf l D g a σ 4 N hW hN E hK r S (by omega) (by omega) hS (Nat.le_refl _)) hP hDw hSw 0 rfl rfl mM_X10_114 Y_X10_endOf rfl (by omega) hl.1 rfl (Nat.le_of_ble_eq_true rfl) dX10_setsGoing_3 ⟨Nat.zero_le _, Nat.zero_le _⟩ (fun r3 τ3 H locs hr3 hP hDw hSw => ?_)
  obtain ⟨hz3, hN, hK, hf3⟩ := hr3
  subst hz3
  refine lv_aload_n X.1 X.2.1 dX10_setsGoing_6 rfl (lv_at hl 0 rfl) ?_
  refine ln_vR X (c_X10_all l D g a τ3 0 N hW hN (Nat.le_refl _)) hP 0 rfl rfl mM_X10_87 Y_X10_all rfl (by omega) hl.1 rfl (Nat.le_of_ble_eq_true rfl) dX10_setsGoing_7 ⟨Nat.zero_le _, Nat.zero_le _⟩ (fun r7 hr7 => ?_)
  subst hr7
  refine rn_ne X (ln_31 (ln_end12 hW _ hS)) (ln_31 (Nat.lt_of_lt_of_le (Nat.sub_lt (ln_pos2 _) (by decide)) hp12)) (tgt := 17) dX10_setsGoing_10 (by decide) (fun h10 => ?_) (fun h10 => ?_)
  · skip
    refine lv_iconst (v := nI 0) X.1 X.2.1 dX10_setsGoing_17 (by decide) ?_
    subst hQ0
    exact ln_retU X hr hlk hP hSw rfl ⟨by first | (rw [ln_go_f h10]; rfl) | (rw [ln_go_t h10]; rfl), hN, hK, hf3⟩ dX10_setsGoing_18
  · skip
    refine lv_iconst (v := nI 1) X.1 X.2.1 dX10_setsGoing_13 (by decide) ?_
    refine lv_goto (tgt := 18) X.1 X.2.1 dX10_setsGoing_14 (by decide) ?_
    subst hQ0
    exact ln_retU X hr hlk hP hSw rfl ⟨by first | (rw [ln_go_f h10]; rfl) | (rw [ln_go_t h10]; rfl), hN, hK, hf3⟩ dX10_setsGoing_18
