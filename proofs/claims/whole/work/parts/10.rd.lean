theorem ln_wt_step {N : ln_N} (hW : ln_wf N) (S q p : Nat) : ln_wt N S q p + (if (S &&& N 4 q).testBit p then 1 else 0) * N (5 + p) q = ln_wt N S q (p + 1) := by
  have h1 := (hW.2 p).2.2 q
  rw [Nat.testBit_and]
  cases hs : S.testBit p with
  | false => rw [ln_wt_f hs]; simp
  | true =>
    rw [ln_wt_t hs]
    cases h4 : (N 4 q).testBit p with
    | true => simp
    | false =>
      rw [h1.2.2.1] at h4
      have := of_decide_eq_false h4
      simp
      omega
theorem ln_wt_stop {N : ln_N} (hW : ln_wf N) {S q p : Nat} (h : (S &&& N 4 q) >>> p = 0) : ∀ {n : Nat}, p ≤ n → ln_wt N S q p = ln_wt N S q n := by
  intro n hn
  induction n with
  | zero => rw [show p = 0 by omega]
  | succ k ih =>
    by_cases hk : p = k + 1
    · rw [hk]
    · rw [ih (by omega), ← ln_wt_step hW S q k]
      have h2 : (S &&& N 4 q).testBit k = false := by
        have h3 : ((S &&& N 4 q) >>> p).testBit (k - p) = false := by rw [h, Nat.zero_testBit]
        rw [Nat.testBit_shiftRight, show p + (k - p) = k by omega] at h3
        exact h3
      rw [h2]; simp
theorem ln_ah_step {N : ln_N} {q p x : Nat} (h : N (5 + p) q = 0) : x = x ||| (if 0 < N (5 + p) q then 2 ^ p else 0) := by
  rw [if_neg (by omega), Nat.or_zero]
theorem ln_ah_step2 {N : ln_N} {q p x : Nat} (h : N (5 + p) q ≠ 0) : x ||| 2 ^ p = x ||| (if 0 < N (5 + p) q then 2 ^ p else 0) := by
  rw [if_pos (by omega)]
theorem ln_oru_bit (f : Nat → Nat) (i : Nat) : ∀ k, (ln_oru f k).testBit i = true ↔ ∃ j, j < k ∧ (f j).testBit i = true
  | 0 => by simp [ln_oru]
  | k + 1 => by
    show (ln_oru f k ||| f k).testBit i = true ↔ _
    rw [Nat.testBit_or, Bool.or_eq_true, ln_oru_bit f i k]
    constructor
    · rintro (⟨j, h1, h2⟩ | h)
      · exact ⟨j, by omega, h2⟩
      · exact ⟨k, by omega, h⟩
    · rintro ⟨j, h1, h2⟩
      by_cases hj : j = k
      · subst hj; exact Or.inr h2
      · exact Or.inl ⟨j, by omega, h2⟩
theorem ln_ah_ok {N : ln_N} (hW : ln_wf N) {q : Nat} : ln_oru (fun i => if 0 < N (5 + i) q then 2 ^ i else 0) (N 0 0) = N 4 q := by
  apply Nat.eq_of_testBit_eq
  intro i
  rw [((hW.2 i).2.2 q).2.2.1]
  by_cases h : 0 < N (5 + i) q
  · rw [decide_eq_true h, (ln_oru_bit _ _ _).mpr ⟨i, (((hW.2 i).2.2 q).2.2.2 h).1, by rw [if_pos h]; simp⟩]
  · rw [decide_eq_false h, ← Bool.not_eq_true, ln_oru_bit]
    rintro ⟨j, h1, h2⟩
    split at h2
    · rename_i h3
      rw [Nat.testBit_two_pow] at h2
      have := of_decide_eq_true h2
      subst this
      exact h h3
    · simp at h2
set_option maxHeartbeats 4000000 in
set_option maxRecDepth 100000 in
theorem c_X9_hasPost (l : Launch) (D : va_G) (g : Nat → ClassId) (d : Nat) (S p : Nat) (hS : S < 2 ^ 31) (hp : p < 32) (hd : 0 ≤ d) : ln_R l D g [] yX9_hasPost (.code yX9_hasPost cX9_hasPost 2 (some .boolean)) d [.int (nI S), .int (nI p)] (fun r => r = ln_b (S.testBit p)) := by
  refine ln_ofR (by decide +kernel) (Nat.le_of_ble_eq_true rfl) (fun prg env rum sta mid args below meth cod ls hr hlk X hP hl => ?_)
  have hl : lv_has ls 2 [(0, .int (nI S)), (1, .int (nI p))] := hl
  generalize hQ0 : (MQ below (vp_Si (fun r => r = ln_b (S.testBit p))) args sta 0 0 (fun _ => False)) = Q0
  refine lv_iload_n X.1 X.2.1 dX9_hasPost_0 rfl (lv_at hl 0 rfl) ?_
  refine lv_iload_n X.1 X.2.1 dX9_hasPost_1 rfl (lv_at hl 1 rfl) ?_
  refine rn_shr X (by omega) (by omega) dX9_hasPost_2 ?_
  refine lv_iconst (v := nI 1) X.1 X.2.1 dX9_hasPost_3 (by decide) ?_
  refine rn_and X dX9_hasPost_4 ?_
  refine rn_top (y := ln_b (S.testBit p)) (by rw [ln_shr_and, ln_nb]) ?_
  refine rn_eqB X (tgt := 12) dX9_hasPost_5 (by decide) (fun h5 => ?_) (fun h5 => ?_)
  · skip
    refine lv_iconst (v := nI 0) X.1 X.2.1 dX9_hasPost_12 (by decide) ?_
    subst hQ0
    exact ln_retR X hr hlk rfl (by rw [h5]; rfl) dX9_hasPost_13
  · skip
    refine lv_iconst (v := nI 1) X.1 X.2.1 dX9_hasPost_8 (by decide) ?_
    refine lv_goto (tgt := 13) X.1 X.2.1 dX9_hasPost_9 (by decide) ?_
    subst hQ0
    exact ln_retR X hr hlk rfl (by rw [h5]; rfl) dX9_hasPost_13
set_option maxHeartbeats 4000000 in
set_option maxRecDepth 100000 in
theorem c_X10_has (l : Launch) (D : va_G) (g : Nat → ClassId) (d : Nat) (S p : Nat) (hS : S < 2 ^ 31) (hp : p < 32) (hd : 0 ≤ d) : ln_R l D g [] yX10_has (.code yX10_has cX10_has 2 (some .boolean)) d [.int (nI S), .int (nI p)] (fun r => r = ln_b (S.testBit p)) := by
  refine ln_ofR (by decide +kernel) (Nat.le_of_ble_eq_true rfl) (fun prg env rum sta mid args below meth cod ls hr hlk X hP hl => ?_)
  have hl : lv_has ls 2 [(0, .int (nI S)), (1, .int (nI p))] := hl
  generalize hQ0 : (MQ below (vp_Si (fun r => r = ln_b (S.testBit p))) args sta 0 0 (fun _ => False)) = Q0
  refine lv_iload_n X.1 X.2.1 dX10_has_0 rfl (lv_at hl 0 rfl) ?_
  refine lv_iload_n X.1 X.2.1 dX10_has_1 rfl (lv_at hl 1 rfl) ?_
  refine rn_shr X (by omega) (by omega) dX10_has_2 ?_
  refine lv_iconst (v := nI 1) X.1 X.2.1 dX10_has_3 (by decide) ?_
  refine rn_and X dX10_has_4 ?_
  refine rn_top (y := nI ((if S.testBit p then 1 else 0))) (by rw [ln_shr_and]) ?_
  refine lv_iconst (v := nI 1) X.1 X.2.1 dX10_has_5 (by decide) ?_
  refine rn_ne X (by split <;> decide) (by decide) (tgt := 13) dX10_has_6 (by decide) (fun h6 => ?_) (fun h6 => ?_)
  · skip
    have h6b : S.testBit p = false := by cases hq : S.testBit p with | false => rfl | true => rw [hq] at h6; exact absurd rfl h6
    refine lv_iconst (v := nI 0) X.1 X.2.1 dX10_has_13 (by decide) ?_
    subst hQ0
    exact ln_retR X hr hlk rfl (by rw [h6b]; rfl) dX10_has_14
  · skip
    have h6b : S.testBit p = true := by cases hq : S.testBit p with | true => rfl | false => rw [hq] at h6; exact absurd h6 (by decide)
    refine lv_iconst (v := nI 1) X.1 X.2.1 dX10_has_9 (by decide) ?_
    refine lv_goto (tgt := 14) X.1 X.2.1 dX10_has_10 (by decide) ?_
    subst hQ0
    exact ln_retR X hr hlk rfl (by rw [h6b]; rfl) dX10_has_14
set_option maxHeartbeats 4000000 in
set_option maxRecDepth 100000 in
theorem c_X9_isRule (l : Launch) (D : va_G) (g : Nat → ClassId) (d : Nat) (x : Int32) (hd : 0 ≤ d) : ln_R l D g [] yX9_isRule (.code yX9_isRule cX9_isRule 1 (some .boolean)) d [.int x] (fun r => r = ln_b (ln_inr x 3)) := by
  refine ln_ofR (by decide +kernel) (Nat.le_of_ble_eq_true rfl) (fun prg env rum sta mid args below meth cod ls hr hlk X hP hl => ?_)
  have hl : lv_has ls 1 [(0, .int x)] := hl
  generalize hQ0 : (MQ below (vp_Si (fun r => r = ln_b (ln_inr x 3))) args sta 0 0 (fun _ => False)) = Q0
  refine lv_iload_n X.1 X.2.1 dX9_isRule_0 rfl (lv_at hl 0 rfl) ?_
  refine lv_if_lt (tgt := 13) X.1 X.2.1 dX9_isRule_1 (by decide) (fun h1 => ?_) (fun h1 => ?_)
  · skip
    refine lv_iconst (v := nI 0) X.1 X.2.1 dX9_isRule_13 (by decide) ?_
    subst hQ0
    exact ln_retR X hr hlk rfl (by first | (rw [ln_inr_lt h1]; rfl) | (rw [ln_inr_ge (by decide) h6]; rfl)) dX9_isRule_14
  · skip
    refine lv_iload_n X.1 X.2.1 dX9_isRule_4 rfl (lv_at hl 0 rfl) ?_
    refine lv_iconst (v := nI 3) X.1 X.2.1 dX9_isRule_5 (by decide) ?_
    refine lv_icmp_ge (tgt := 13) X.1 X.2.1 dX9_isRule_6 (by decide) (fun h6 => ?_) (fun h6 => ?_)
    · skip
      refine lv_iconst (v := nI 0) X.1 X.2.1 dX9_isRule_13 (by decide) ?_
      subst hQ0
      exact ln_retR X hr hlk rfl (by first | (rw [ln_inr_lt h1]; rfl) | (rw [ln_inr_ge (by decide) h6]; rfl)) dX9_isRule_14
    · skip
      refine lv_iconst (v := nI 1) X.1 X.2.1 dX9_isRule_9 (by decide) ?_
      refine lv_goto (tgt := 14) X.1 X.2.1 dX9_isRule_10 (by decide) ?_
      subst hQ0
      exact ln_retR X hr hlk rfl (by rw [ln_inr_in (by decide) h1 h6]; rfl) dX9_isRule_14
set_option maxHeartbeats 4000000 in
set_option maxRecDepth 100000 in
theorem c_X9_isPlainRule (l : Launch) (D : va_G) (g : Nat → ClassId) (d : Nat) (x : Int32) (hd : 0 ≤ d) : ln_R l D g [] yX9_isPlainRule (.code yX9_isPlainRule cX9_isPlainRule 1 (some .boolean)) d [.int x] (fun r => r = ln_b (ln_inr x 2)) := by
  refine ln_ofR (by decide +kernel) (Nat.le_of_ble_eq_true rfl) (fun prg env rum sta mid args below meth cod ls hr hlk X hP hl => ?_)
  have hl : lv_has ls 1 [(0, .int x)] := hl
  generalize hQ0 : (MQ below (vp_Si (fun r => r = ln_b (ln_inr x 2))) args sta 0 0 (fun _ => False)) = Q0
  refine lv_iload_n X.1 X.2.1 dX9_isPlainRule_0 rfl (lv_at hl 0 rfl) ?_
  refine lv_if_lt (tgt := 13) X.1 X.2.1 dX9_isPlainRule_1 (by decide) (fun h1 => ?_) (fun h1 => ?_)
  · skip
    refine lv_iconst (v := nI 0) X.1 X.2.1 dX9_isPlainRule_13 (by decide) ?_
    subst hQ0
    exact ln_retR X hr hlk rfl (by first | (rw [ln_inr_lt h1]; rfl) | (rw [ln_inr_ge (by decide) h6]; rfl)) dX9_isPlainRule_14
  · skip
    refine lv_iload_n X.1 X.2.1 dX9_isPlainRule_4 rfl (lv_at hl 0 rfl) ?_
    refine lv_iconst (v := nI 2) X.1 X.2.1 dX9_isPlainRule_5 (by decide) ?_
    refine lv_icmp_ge (tgt := 13) X.1 X.2.1 dX9_isPlainRule_6 (by decide) (fun h6 => ?_) (fun h6 => ?_)
    · skip
      refine lv_iconst (v := nI 0) X.1 X.2.1 dX9_isPlainRule_13 (by decide) ?_
      subst hQ0
      exact ln_retR X hr hlk rfl (by first | (rw [ln_inr_lt h1]; rfl) | (rw [ln_inr_ge (by decide) h6]; rfl)) dX9_isPlainRule_14
    · skip
      refine lv_iconst (v := nI 1) X.1 X.2.1 dX9_isPlainRule_9 (by decide) ?_
      refine lv_goto (tgt := 14) X.1 X.2.1 dX9_isPlainRule_10 (by decide) ?_
      subst hQ0
      exact ln_retR X hr hlk rfl (by rw [ln_inr_in (by decide) h1 h6]; rfl) dX9_isPlainRule_14
set_option maxHeartbeats 4000000 in
set_option maxRecDepth 100000 in
theorem c_X10_in (l : Launch) (D : va_G) (g : Nat → ClassId) (d : Nat) (x lo hi : Int32) (hd : 0 ≤ d) : ln_R l D g [] yX10_in (.code yX10_in cX10_in 3 (some .boolean)) d [.int x, .int lo, .int hi] (fun r => r = ln_b (decide (lo ≤ x ∧ x ≤ hi))) := by
  refine ln_ofR (by decide +kernel) (Nat.le_of_ble_eq_true rfl) (fun prg env rum sta mid args below meth cod ls hr hlk X hP hl => ?_)
  have hl : lv_has ls 3 [(0, .int x), (1, .int lo), (2, .int hi)] := hl
  generalize hQ0 : (MQ below (vp_Si (fun r => r = ln_b (decide (lo ≤ x ∧ x ≤ hi)))) args sta 0 0 (fun _ => False)) = Q0
  refine lv_iload_n X.1 X.2.1 dX10_in_0 rfl (lv_at hl 0 rfl) ?_
  refine lv_iload_n X.1 X.2.1 dX10_in_1 rfl (lv_at hl 1 rfl) ?_
  refine lv_icmp_lt (tgt := 14) X.1 X.2.1 dX10_in_2 (by decide) (fun h2 => ?_) (fun h2 => ?_)
  · skip
    refine lv_iconst (v := nI 0) X.1 X.2.1 dX10_in_14 (by decide) ?_
    subst hQ0
    exact ln_retR X hr hlk rfl (by first | (rw [decide_eq_true ⟨Int32.not_lt.mp h2, Int32.not_lt.mp h7⟩]; rfl) | (rw [decide_eq_false (fun q => absurd h2 (Int32.not_lt.mpr q.1))]; rfl) | (rw [decide_eq_false (fun q => absurd h7 (Int32.not_lt.mpr q.2))]; rfl)) dX10_in_15
  · skip
    refine lv_iload_n X.1 X.2.1 dX10_in_5 rfl (lv_at hl 0 rfl) ?_
    refine lv_iload_n X.1 X.2.1 dX10_in_6 rfl (lv_at hl 2 rfl) ?_
    refine lv_icmp_gt (tgt := 14) X.1 X.2.1 dX10_in_7 (by decide) (fun h7 => ?_) (fun h7 => ?_)
    · skip
      refine lv_iconst (v := nI 0) X.1 X.2.1 dX10_in_14 (by decide) ?_
      subst hQ0
      exact ln_retR X hr hlk rfl (by first | (rw [decide_eq_true ⟨Int32.not_lt.mp h2, Int32.not_lt.mp h7⟩]; rfl) | (rw [decide_eq_false (fun q => absurd h2 (Int32.not_lt.mpr q.1))]; rfl) | (rw [decide_eq_false (fun q => absurd h7 (Int32.not_lt.mpr q.2))]; rfl)) dX10_in_15
    · skip
      refine lv_iconst (v := nI 1) X.1 X.2.1 dX10_in_10 (by decide) ?_
      refine lv_goto (tgt := 15) X.1 X.2.1 dX10_in_11 (by decide) ?_
      subst hQ0
      exact ln_retR X hr hlk rfl (by first | (rw [decide_eq_true ⟨Int32.not_lt.mp h2, Int32.not_lt.mp h7⟩]; rfl) | (rw [decide_eq_false (fun q => absurd h2 (Int32.not_lt.mpr q.1))]; rfl) | (rw [decide_eq_false (fun q => absurd h7 (Int32.not_lt.mpr q.2))]; rfl)) dX10_in_15
set_option maxHeartbeats 4000000 in
set_option maxRecDepth 100000 in
theorem c_X10_isRule (l : Launch) (D : va_G) (g : Nat → ClassId) (d : Nat) (x : Int32) (hd : 1 ≤ d) : ln_R l D g [] yX10_isRule (.code yX10_isRule cX10_isRule 1 (some .boolean)) d [.int x] (fun r => r = ln_b (ln_inr x 3)) := by
  refine ln_ofR (by decide +kernel) (Nat.le_of_ble_eq_true rfl) (fun prg env rum sta mid args below meth cod ls hr hlk X hP hl => ?_)
  have hl : lv_has ls 1 [(0, .int x)] := hl
  generalize hQ0 : (MQ below (vp_Si (fun r => r = ln_b (ln_inr x 3))) args sta 0 0 (fun _ => False)) = Q0
  refine lv_iload_n X.1 X.2.1 dX10_isRule_0 rfl (lv_at hl 0 rfl) ?_
  refine lv_iconst (v := nI 0) X.1 X.2.1 dX10_isRule_1 (by decide) ?_
  refine lv_iconst (v := nI 2) X.1 X.2.1 dX10_isRule_2 (by decide) ?_
  refine ln_sR X (c_X10_in l D g 0 x (nI 0) (nI 2) (Nat.le_refl _)) ln_nil mM_X10_52 Y_X10_in rfl (by omega) hl.1 rfl (Nat.le_of_ble_eq_true rfl) dX10_isRule_3 ⟨Nat.zero_le _, Nat.zero_le _⟩ (fun r3 hr3 => ?_)
  subst hr3
  refine rn_top (y := ln_b (ln_inr x 3)) (by rw [show nI 0 = 0 from rfl, ln_in_inr2 (by decide)]) ?_
  subst hQ0
  exact ln_retR X hr hlk (ln_b_nar _) rfl dX10_isRule_6
set_option maxHeartbeats 4000000 in
set_option maxRecDepth 100000 in
theorem c_X10_ones (l : Launch) (D : va_G) (g : Nat → ClassId) (d : Nat) (S : Nat) (hS : S < 2 ^ 31) (hd : 0 ≤ d) : ln_R l D g [] yX10_ones (.code yX10_ones cX10_ones 3 (some .int)) d [.int (nI S)] (fun r => r = nI (ln_pc S)) := by
  refine ln_ofR (by decide +kernel) (Nat.le_of_ble_eq_true rfl) (fun prg env rum sta mid args below meth cod ls hr hlk X hP hl => ?_)
  have hl : lv_has ls 3 [(0, .int (nI S))] := hl
  generalize hQ0 : (MQ below (vp_Si (fun r => r = nI (ln_pc S))) args sta 0 0 (fun _ => False)) = Q0
  refine lv_iconst (v := nI 0) X.1 X.2.1 dX10_ones_0 (by decide) ?_
  refine lv_istore_n (lv' := [(1, .int (nI 0)), (0, .int (nI S))]) X.1 X.2.1 dX10_ones_1 rfl hl (by decide) rfl (fun ls hl => ?_)
  refine lv_iconst (v := nI 0) X.1 X.2.1 dX10_ones_2 (by decide) ?_
  refine lv_istore_n (lv' := [(2, .int (nI 0)), (1, .int (nI 0)), (0, .int (nI S))]) X.1 X.2.1 dX10_ones_3 rfl hl (by decide) rfl (fun ls hl => ?_)
  have L4 : ∀ (K : Nat) (p : Nat) (x : Nat), 12 - p < K → p ≤ 12 → x = ln_ct S.testBit p → ∀ ls : Array Slot, lv_has ls 3 [(0, .int (nI S)), (1, .int (nI x)), (2, .int (nI p))] → W prg l env rum sta mid args below meth cod sta.heap [] 0 0 Q0 (F0 mid 4 ls []) := by
    intro K
    induction K with
    | zero => intro p x hm; exact absurd hm (Nat.not_lt_zero _)
    | succ K ih4 =>
      intro p x hm4 hp hx ls hl
      refine lv_iload_n X.1 X.2.1 dX10_ones_4 rfl (lv_at hl 2 rfl) ?_
      refine lv_bipush (v := nI 12) X.1 X.2.1 dX10_ones_5 (by decide) ?_
      refine rn_ge X (by omega) (by decide) (tgt := 24) dX10_ones_7 (by decide) (fun h7 => ?_) (fun h7 => ?_)
      · skip
        refine lv_iload_n X.1 X.2.1 dX10_ones_24 rfl (lv_at hl 1 rfl) ?_
        subst hQ0
        exact ln_retR X hr hlk rfl (by rw [hx, show p = 12 by omega]; rfl) dX10_ones_25
      · skip
        refine lv_iload_n X.1 X.2.1 dX10_ones_10 rfl (lv_at hl 1 rfl) ?_
        refine lv_iload_n X.1 X.2.1 dX10_ones_11 rfl (lv_at hl 0 rfl) ?_
        refine lv_iload_n X.1 X.2.1 dX10_ones_12 rfl (lv_at hl 2 rfl) ?_
        refine rn_shr X (by omega) (by omega) dX10_ones_13 ?_
        refine lv_iconst (v := nI 1) X.1 X.2.1 dX10_ones_14 (by decide) ?_
        refine rn_and X dX10_ones_15 ?_
        refine rn_add X dX10_ones_16 ?_
        refine lv_istore_n (lv' := [(1, .int (nI (x + ((S >>> p) &&& 1)))), (0, .int (nI S)), (2, .int (nI p))]) X.1 X.2.1 dX10_ones_17 rfl hl (by decide) rfl (fun ls hl => ?_)
        refine lv_iinc (v := nI (p + 1)) (lv' := [(2, .int (nI (p + 1))), (1, .int (nI (x + ((S >>> p) &&& 1)))), (0, .int (nI S))]) X.1 X.2.1 dX10_ones_18 hl (k := 2) rfl rn_inc (by decide) rfl (fun ls hl => ?_)
        refine lv_goto (tgt := 4) X.1 X.2.1 dX10_ones_21 (by decide) ?_
        exact ih4 (p + 1) _ (by omega) (by omega) (by rw [hx]; show _ = ln_ct S.testBit p + (if S.testBit p then 1 else 0); rw [ln_shr_and]) ls (lv_sub hl [2, 1, 0] rfl)
  exact L4 _ 0 0 (Nat.lt_succ_self _) (by decide) rfl ls (lv_sub hl [2, 1, 0] rfl)
set_option maxHeartbeats 4000000 in
set_option maxRecDepth 100000 in
theorem c_X4_allPosts (l : Launch) (D : va_G) (g : Nat → ClassId) (a : Nat → Nat) (σ : ln_S) (d : Nat) (N : ln_N) (hW : ln_wf N) (hN : ln_nC N σ)  (hd : 0 ≤ d) : ln_R l D g (CW a g σ) yX4_allPosts (.code yX4_allPosts cX4_allPosts 1 (some .int)) d [.ref (a 1)] (fun r => r = nI (2 ^ N 0 0 - 1)) := by
  have hN12 := hW.n12
  have hp12 := hW.p12
  refine ln_ofR (by decide +kernel) (Nat.le_of_ble_eq_true rfl) (fun prg env rum sta mid args below meth cod ls hr hlk X hP hl => ?_)
  have hl : lv_has ls 1 [(0, .ref (a 1))] := hl
  generalize hQ0 : (MQ below (vp_Si (fun r => r = nI (2 ^ N 0 0 - 1))) args sta 0 0 (fun _ => False)) = Q0
  refine lv_iconst (v := nI 1) X.1 X.2.1 dX4_allPosts_0 (by decide) ?_
  refine lv_aload_n X.1 X.2.1 dX4_allPosts_1 rfl (lv_at hl 0 rfl) ?_
  refine gC_1_0 X hP (v := nI (N 0 0)) hN.n mF_X4_33 dX4_allPosts_2 ?_
  refine rn_shl X (by omega) dX4_allPosts_5 ?_
  refine lv_iconst (v := nI 1) X.1 X.2.1 dX4_allPosts_6 (by decide) ?_
  refine rn_sub X (ln_pos2 _) dX4_allPosts_7 ?_
  subst hQ0
  exact ln_retR X hr hlk rfl rfl dX4_allPosts_8
set_option maxHeartbeats 4000000 in
set_option maxRecDepth 100000 in
theorem c_X4_isPost (l : Launch) (D : va_G) (g : Nat → ClassId) (a : Nat → Nat) (σ : ln_S) (d : Nat) (N : ln_N) (hW : ln_wf N) (hN : ln_nC N σ) (x : Int32) (hd : 0 ≤ d) : ln_R l D g (CW a g σ) yX4_isPost (.code yX4_isPost cX4_isPost 2 (some .boolean)) d [.ref (a 1), .int x] (fun r => r = ln_b (ln_inr x (N 0 0))) := by
  have hN12 := hW.n12
  have hp12 := hW.p12
  refine ln_ofR (by decide +kernel) (Nat.le_of_ble_eq_true rfl) (fun prg env rum sta mid args below meth cod ls hr hlk X hP hl => ?_)
  have hl : lv_has ls 2 [(0, .ref (a 1)), (1, .int x)] := hl
  generalize hQ0 : (MQ below (vp_Si (fun r => r = ln_b (ln_inr x (N 0 0)))) args sta 0 0 (fun _ => False)) = Q0
  refine lv_iload_n X.1 X.2.1 dX4_isPost_0 rfl (lv_at hl 1 rfl) ?_
  refine lv_if_lt (tgt := 16) X.1 X.2.1 dX4_isPost_1 (by decide) (fun h1 => ?_) (fun h1 => ?_)
  · skip
    refine lv_iconst (v := nI 0) X.1 X.2.1 dX4_isPost_16 (by decide) ?_
    subst hQ0
    exact ln_retR X hr hlk rfl (by first | (rw [ln_inr_lt h1]; rfl) | (rw [ln_inr_ge (by omega) h9]; rfl) | (rw [ln_inr_in (by omega) h1 h9]; rfl)) dX4_isPost_17
  · skip
    refine lv_iload_n X.1 X.2.1 dX4_isPost_4 rfl (lv_at hl 1 rfl) ?_
    refine lv_aload_n X.1 X.2.1 dX4_isPost_5 rfl (lv_at hl 0 rfl) ?_
    refine gC_1_0 X hP (v := nI (N 0 0)) hN.n mF_X4_33 dX4_isPost_6 ?_
    refine lv_icmp_ge (tgt := 16) X.1 X.2.1 dX4_isPost_9 (by decide) (fun h9 => ?_) (fun h9 => ?_)
    · skip
      refine lv_iconst (v := nI 0) X.1 X.2.1 dX4_isPost_16 (by decide) ?_
      subst hQ0
      exact ln_retR X hr hlk rfl (by first | (rw [ln_inr_lt h1]; rfl) | (rw [ln_inr_ge (by omega) h9]; rfl) | (rw [ln_inr_in (by omega) h1 h9]; rfl)) dX4_isPost_17
    · skip
      refine lv_iconst (v := nI 1) X.1 X.2.1 dX4_isPost_12 (by decide) ?_
      refine lv_goto (tgt := 17) X.1 X.2.1 dX4_isPost_13 (by decide) ?_
      subst hQ0
      exact ln_retR X hr hlk rfl (by first | (rw [ln_inr_lt h1]; rfl) | (rw [ln_inr_ge (by omega) h9]; rfl) | (rw [ln_inr_in (by omega) h1 h9]; rfl)) dX4_isPost_17
set_option maxHeartbeats 4000000 in
set_option maxRecDepth 100000 in
theorem c_X4_isSet (l : Launch) (D : va_G) (g : Nat → ClassId) (a : Nat → Nat) (σ : ln_S) (d : Nat) (N : ln_N) (hW : ln_wf N) (hN : ln_nC N σ) (x : Int32) (hd : 1 ≤ d) : ln_R l D g (CW a g σ) yX4_isSet (.code yX4_isSet cX4_isSet 2 (some .boolean)) d [.ref (a 1), .int x] (fun r => r = ln_b (ln_inr x (2 ^ N 0 0))) := by
  have hN12 := hW.n12
  have hp12 := hW.p12
  have hs1 := ln_sub1 (N 0 0)
  refine ln_ofR (by decide +kernel) (Nat.le_of_ble_eq_true rfl) (fun prg env rum sta mid args below meth cod ls hr hlk X hP hl => ?_)
  have hl : lv_has ls 2 [(0, .ref (a 1)), (1, .int x)] := hl
  generalize hQ0 : (MQ below (vp_Si (fun r => r = ln_b (ln_inr x (2 ^ N 0 0)))) args sta 0 0 (fun _ => False)) = Q0
  refine lv_iload_n X.1 X.2.1 dX4_isSet_0 rfl (lv_at hl 1 rfl) ?_
  refine lv_if_lt (tgt := 16) X.1 X.2.1 dX4_isSet_1 (by decide) (fun h1 => ?_) (fun h1 => ?_)
  · skip
    refine lv_iconst (v := nI 0) X.1 X.2.1 dX4_isSet_16 (by decide) ?_
    subst hQ0
    exact ln_retR X hr hlk rfl (by first | (rw [ln_inr_lt h1]; rfl) | (rw [← hs1, ln_inr_gt (by omega) h9]; rfl) | (rw [← hs1, ln_inr_in2 (by omega) h1 h9]; rfl)) dX4_isSet_17
  · skip
    refine lv_iload_n X.1 X.2.1 dX4_isSet_4 rfl (lv_at hl 1 rfl) ?_
    refine lv_aload_n X.1 X.2.1 dX4_isSet_5 rfl (lv_at hl 0 rfl) ?_
    refine ln_vR X (c_X4_allPosts l D g a σ 0 N hW hN (Nat.le_refl _)) hP 1 rfl rfl mM_X4_36 Y_X4_allPosts rfl (by omega) hl.1 rfl (Nat.le_of_ble_eq_true rfl) dX4_isSet_6 ⟨Nat.zero_le _, Nat.zero_le _⟩ (fun r6 hr6 => ?_)
    subst hr6
    refine lv_icmp_gt (tgt := 16) X.1 X.2.1 dX4_isSet_9 (by decide) (fun h9 => ?_) (fun h9 => ?_)
    · skip
      refine lv_iconst (v := nI 0) X.1 X.2.1 dX4_isSet_16 (by decide) ?_
      subst hQ0
      exact ln_retR X hr hlk rfl (by first | (rw [ln_inr_lt h1]; rfl) | (rw [← hs1, ln_inr_gt (by omega) h9]; rfl) | (rw [← hs1, ln_inr_in2 (by omega) h1 h9]; rfl)) dX4_isSet_17
    · skip
      refine lv_iconst (v := nI 1) X.1 X.2.1 dX4_isSet_12 (by decide) ?_
      refine lv_goto (tgt := 17) X.1 X.2.1 dX4_isSet_13 (by decide) ?_
      subst hQ0
      exact ln_retR X hr hlk rfl (by first | (rw [ln_inr_lt h1]; rfl) | (rw [← hs1, ln_inr_gt (by omega) h9]; rfl) | (rw [← hs1, ln_inr_in2 (by omega) h1 h9]; rfl)) dX4_isSet_17
set_option maxHeartbeats 4000000 in
set_option maxRecDepth 100000 in
theorem c_X4_withBehind (l : Launch) (D : va_G) (g : Nat → ClassId) (a : Nat → Nat) (σ : ln_S) (d : Nat) (N : ln_N) (hW : ln_wf N) (hN : ln_nC N σ) (S : Nat) (hS : S < 4096) (hd : 1 ≤ d) : ln_R l D g (CW a g σ) yX4_withBehind (.code yX4_withBehind cX4_withBehind 4 (some .int)) d [.ref (a 1), .int (nI S)] (fun r => r = nI (ln_wb N S)) := by
  have hN12 := hW.n12
  have hp12 := hW.p12
  refine ln_ofR (by decide +kernel) (Nat.le_of_ble_eq_true rfl) (fun prg env rum sta mid args below meth cod ls hr hlk X hP hl => ?_)
  have hl : lv_has ls 4 [(0, .ref (a 1)), (1, .int (nI S))] := hl
  generalize hQ0 : (MQ below (vp_Si (fun r => r = nI (ln_wb N S))) args sta 0 0 (fun _ => False)) = Q0
  refine lv_iload_n X.1 X.2.1 dX4_withBehind_0 rfl (lv_at hl 1 rfl) ?_
  refine lv_istore_n (lv' := [(2, .int (nI S)), (0, .ref (a 1)), (1, .int (nI S))]) X.1 X.2.1 dX4_withBehind_1 rfl hl (by decide) rfl (fun ls hl => ?_)
  refine lv_iconst (v := nI 0) X.1 X.2.1 dX4_withBehind_2 (by decide) ?_
  refine lv_istore_n (lv' := [(3, .int (nI 0)), (2, .int (nI S)), (0, .ref (a 1)), (1, .int (nI S))]) X.1 X.2.1 dX4_withBehind_3 rfl hl (by decide) rfl (fun ls hl => ?_)
  have L4 : ∀ (K : Nat) (p : Nat) (x : Nat), N 0 0 - p < K → p ≤ N 0 0 → x < 4096 → x = S ||| ln_bhs N S p → ∀ ls : Array Slot, lv_has ls 4 [(0, .ref (a 1)), (1, .int (nI S)), (2, .int (nI x)), (3, .int (nI p))] → W prg l env rum sta mid args below meth cod sta.heap [] 0 0 Q0 (F0 mid 4 ls []) := by
    intro K
    induction K with
    | zero => intro p x hm; exact absurd hm (Nat.not_lt_zero _)
    | succ K ih4 =>
      intro p x hm4 hp hxb hx ls hl
      refine lv_iload_n X.1 X.2.1 dX4_withBehind_4 rfl (lv_at hl 3 rfl) ?_
      refine lv_aload_n X.1 X.2.1 dX4_withBehind_5 rfl (lv_at hl 0 rfl) ?_
      refine gC_1_0 X hP (v := nI (N 0 0)) hN.n mF_X4_33 dX4_withBehind_6 ?_
      refine rn_ge X (by omega) (by omega) (tgt := 35) dX4_withBehind_9 (by decide) (fun h9 => ?_) (fun h9 => ?_)
      · skip
        refine lv_iload_n X.1 X.2.1 dX4_withBehind_35 rfl (lv_at hl 2 rfl) ?_
        subst hQ0
        exact ln_retR X hr hlk rfl (by rw [hx, show p = N 0 0 by omega]; rfl) dX4_withBehind_36
      · skip
        refine lv_iload_n X.1 X.2.1 dX4_withBehind_12 rfl (lv_at hl 1 rfl) ?_
        refine lv_iload_n X.1 X.2.1 dX4_withBehind_13 rfl (lv_at hl 3 rfl) ?_
        refine ln_nR X (c_X9_hasPost l D g 0 S p (ln_31 hS) (by omega) (Nat.le_refl _)) ln_nil mM_X4_43 Y_X9_hasPost rfl (by omega) hl.1 rfl (Nat.le_of_ble_eq_true rfl) dX4_withBehind_14 ⟨Nat.zero_le _, Nat.zero_le _⟩ (fun r14 hr14 => ?_)
        subst hr14
        refine rn_eqB X (tgt := 29) dX4_withBehind_17 (by decide) (fun h17 => ?_) (fun h17 => ?_)
        · skip
          refine lv_iinc (v := nI (p + 1)) (lv' := [(3, .int (nI (p + 1))), (0, .ref (a 1)), (1, .int (nI S)), (2, .int (nI x))]) X.1 X.2.1 dX4_withBehind_29 hl (k := 3) rfl rn_inc (by decide) rfl (fun ls hl => ?_)
          refine lv_goto (tgt := 4) X.1 X.2.1 dX4_withBehind_32 (by decide) ?_
          exact ih4 (p + 1) _ (by omega) (by omega) (by first | exact hxb | exact ln_or12 hxb (hW.bh12 _)) (by first | (rw [ln_bhs_f h17]; exact hx) | (rw [ln_bhs_t h17, ← Nat.or_assoc, hx])) ls (lv_sub hl [1, 2, 3, 0] rfl)
        · skip
          refine lv_iload_n X.1 X.2.1 dX4_withBehind_20 rfl (lv_at hl 2 rfl) ?_
          refine lv_aload_n X.1 X.2.1 dX4_withBehind_21 rfl (lv_at hl 0 rfl) ?_
          refine gC_1_6 X hP mF_X4_27 dX4_withBehind_22 ?_
          refine lv_iload_n X.1 X.2.1 dX4_withBehind_25 rfl (lv_at hl 3 rfl) ?_
          refine lC_5 X hP (by omega) (v := nI (N 3 p)) (hN.bh (by omega)) dX4_withBehind_26 ?_
          refine rn_or X dX4_withBehind_27 ?_
          refine lv_istore_n (lv' := [(2, .int (nI (x ||| (N 3 p)))), (0, .ref (a 1)), (1, .int (nI S)), (3, .int (nI p))]) X.1 X.2.1 dX4_withBehind_28 rfl hl (by decide) rfl (fun ls hl => ?_)
          refine lv_iinc (v := nI (p + 1)) (lv' := [(3, .int (nI (p + 1))), (2, .int (nI (x ||| (N 3 p)))), (0, .ref (a 1)), (1, .int (nI S))]) X.1 X.2.1 dX4_withBehind_29 hl (k := 3) rfl rn_inc (by decide) rfl (fun ls hl => ?_)
          refine lv_goto (tgt := 4) X.1 X.2.1 dX4_withBehind_32 (by decide) ?_
          exact ih4 (p + 1) _ (by omega) (by omega) (by first | exact hxb | exact ln_or12 hxb (hW.bh12 _)) (by first | (rw [ln_bhs_f h17]; exact hx) | (rw [ln_bhs_t h17, ← Nat.or_assoc, hx])) ls (lv_sub hl [2, 3, 1, 0] rfl)
  exact L4 _ 0 S (Nat.lt_succ_self _) (Nat.zero_le _) hS (by rw [show ln_bhs N S 0 = 0 from rfl, Nat.or_zero]) ls (lv_sub hl [2, 3, 1, 0] rfl)
set_option maxHeartbeats 4000000 in
set_option maxRecDepth 100000 in
theorem c_X4_priceOf (l : Launch) (D : va_G) (g : Nat → ClassId) (a : Nat → Nat) (σ : ln_S) (d : Nat) (N : ln_N) (hW : ln_wf N) (hN : ln_nC N σ) (S : Nat) (hS : S < 4096) (hd : 1 ≤ d) : ln_R l D g (CW a g σ) yX4_priceOf (.code yX4_priceOf cX4_priceOf 4 (some .int)) d [.ref (a 1), .int (nI S)] (fun r => r = nI (ln_pri N S (N 0 0))) := by
  have hN12 := hW.n12
  have hp12 := hW.p12
  refine ln_ofR (by decide +kernel) (Nat.le_of_ble_eq_true rfl) (fun prg env rum sta mid args below meth cod ls hr hlk X hP hl => ?_)
  have hl : lv_has ls 4 [(0, .ref (a 1)), (1, .int (nI S))] := hl
  generalize hQ0 : (MQ below (vp_Si (fun r => r = nI (ln_pri N S (N 0 0)))) args sta 0 0 (fun _ => False)) = Q0
  refine lv_iconst (v := nI 0) X.1 X.2.1 dX4_priceOf_0 (by decide) ?_
  refine lv_istore_n (lv' := [(2, .int (nI 0)), (0, .ref (a 1)), (1, .int (nI S))]) X.1 X.2.1 dX4_priceOf_1 rfl hl (by decide) rfl (fun ls hl => ?_)
  refine lv_iconst (v := nI 0) X.1 X.2.1 dX4_priceOf_2 (by decide) ?_
  refine lv_istore_n (lv' := [(3, .int (nI 0)), (2, .int (nI 0)), (0, .ref (a 1)), (1, .int (nI S))]) X.1 X.2.1 dX4_priceOf_3 rfl hl (by decide) rfl (fun ls hl => ?_)
  have L4 : ∀ (K : Nat) (p : Nat) (x : Nat), N 0 0 - p < K → p ≤ N 0 0 → x = ln_pri N S p → ∀ ls : Array Slot, lv_has ls 4 [(0, .ref (a 1)), (1, .int (nI S)), (2, .int (nI x)), (3, .int (nI p))] → W prg l env rum sta mid args below meth cod sta.heap [] 0 0 Q0 (F0 mid 4 ls []) := by
    intro K
    induction K with
    | zero => intro p x hm; exact absurd hm (Nat.not_lt_zero _)
    | succ K ih4 =>
      intro p x hm4 hp hx ls hl
      refine lv_iload_n X.1 X.2.1 dX4_priceOf_4 rfl (lv_at hl 3 rfl) ?_
      refine lv_aload_n X.1 X.2.1 dX4_priceOf_5 rfl (lv_at hl 0 rfl) ?_
      refine gC_1_0 X hP (v := nI (N 0 0)) hN.n mF_X4_33 dX4_priceOf_6 ?_
      refine rn_ge X (by omega) (by omega) (tgt := 35) dX4_priceOf_9 (by decide) (fun h9 => ?_) (fun h9 => ?_)
      · skip
        refine lv_iload_n X.1 X.2.1 dX4_priceOf_35 rfl (lv_at hl 2 rfl) ?_
        subst hQ0
        exact ln_retR X hr hlk rfl (by rw [hx, show p = N 0 0 by omega]) dX4_priceOf_36
      · skip
        refine lv_iload_n X.1 X.2.1 dX4_priceOf_12 rfl (lv_at hl 1 rfl) ?_
        refine lv_iload_n X.1 X.2.1 dX4_priceOf_13 rfl (lv_at hl 3 rfl) ?_
        refine ln_nR X (c_X9_hasPost l D g 0 S p (ln_31 hS) (by omega) (Nat.le_refl _)) ln_nil mM_X4_43 Y_X9_hasPost rfl (by omega) hl.1 rfl (Nat.le_of_ble_eq_true rfl) dX4_priceOf_14 ⟨Nat.zero_le _, Nat.zero_le _⟩ (fun r14 hr14 => ?_)
        subst hr14
        refine rn_eqB X (tgt := 29) dX4_priceOf_17 (by decide) (fun h17 => ?_) (fun h17 => ?_)
        · skip
          refine lv_iinc (v := nI (p + 1)) (lv' := [(3, .int (nI (p + 1))), (0, .ref (a 1)), (1, .int (nI S)), (2, .int (nI x))]) X.1 X.2.1 dX4_priceOf_29 hl (k := 3) rfl rn_inc (by decide) rfl (fun ls hl => ?_)
          refine lv_goto (tgt := 4) X.1 X.2.1 dX4_priceOf_32 (by decide) ?_
          exact ih4 (p + 1) _ (by omega) (by omega) (by first | (rw [ln_pri_f h17]; exact hx) | (rw [ln_pri_t h17, hx])) ls (lv_sub hl [1, 2, 3, 0] rfl)
        · skip
          refine lv_iload_n X.1 X.2.1 dX4_priceOf_20 rfl (lv_at hl 2 rfl) ?_
          refine lv_aload_n X.1 X.2.1 dX4_priceOf_21 rfl (lv_at hl 0 rfl) ?_
          refine gC_1_4 X hP mF_X4_19 dX4_priceOf_22 ?_
          refine lv_iload_n X.1 X.2.1 dX4_priceOf_25 rfl (lv_at hl 3 rfl) ?_
          refine lC_3 X hP (by omega) (v := nI (N 2 p)) (hN.pr (by omega)) dX4_priceOf_26 ?_
          refine rn_add X dX4_priceOf_27 ?_
          refine lv_istore_n (lv' := [(2, .int (nI (x + (N 2 p)))), (0, .ref (a 1)), (1, .int (nI S)), (3, .int (nI p))]) X.1 X.2.1 dX4_priceOf_28 rfl hl (by decide) rfl (fun ls hl => ?_)
          refine lv_iinc (v := nI (p + 1)) (lv' := [(3, .int (nI (p + 1))), (2, .int (nI (x + (N 2 p)))), (0, .ref (a 1)), (1, .int (nI S))]) X.1 X.2.1 dX4_priceOf_29 hl (k := 3) rfl rn_inc (by decide) rfl (fun ls hl => ?_)
          refine lv_goto (tgt := 4) X.1 X.2.1 dX4_priceOf_32 (by decide) ?_
          exact ih4 (p + 1) _ (by omega) (by omega) (by first | (rw [ln_pri_f h17]; exact hx) | (rw [ln_pri_t h17, hx])) ls (lv_sub hl [2, 3, 1, 0] rfl)
  exact L4 _ 0 0 (Nat.lt_succ_self _) (Nat.zero_le _) rfl ls (lv_sub hl [2, 3, 1, 0] rfl)
set_option maxHeartbeats 4000000 in
set_option maxRecDepth 100000 in
theorem c_X4_weightOnto (l : Launch) (D : va_G) (g : Nat → ClassId) (a : Nat → Nat) (σ : ln_S) (d : Nat) (N : ln_N) (hW : ln_wf N) (hN : ln_nC N σ) (q S : Nat) (hq : q < N 0 0) (hS : S < 4096) (hd : 0 ≤ d) : ln_R l D g (CW a g σ) yX4_weightOnto (.code yX4_weightOnto cX4_weightOnto 6 (some .int)) d [.ref (a 1), .int (nI q), .int (nI S)] (fun r => r = nI (ln_wt N S q (N 0 0))) := by
  have hN12 := hW.n12
  have hp12 := hW.p12
  refine ln_ofR (by decide +kernel) (Nat.le_of_ble_eq_true rfl) (fun prg env rum sta mid args below meth cod ls hr hlk X hP hl => ?_)
  have hl : lv_has ls 6 [(0, .ref (a 1)), (1, .int (nI q)), (2, .int (nI S))] := hl
  generalize hQ0 : (MQ below (vp_Si (fun r => r = nI (ln_wt N S q (N 0 0)))) args sta 0 0 (fun _ => False)) = Q0
  refine lv_iload_n X.1 X.2.1 dX4_weightOnto_0 rfl (lv_at hl 2 rfl) ?_
  refine lv_aload_n X.1 X.2.1 dX4_weightOnto_1 rfl (lv_at hl 0 rfl) ?_
  refine gC_1_7 X hP mF_X4_30 dX4_weightOnto_2 ?_
  refine lv_iload_n X.1 X.2.1 dX4_weightOnto_5 rfl (lv_at hl 1 rfl) ?_
  refine lC_6 X hP (by omega) (v := nI (N 4 q)) (hN.ah (by omega)) dX4_weightOnto_6 ?_
  refine rn_and X dX4_weightOnto_7 ?_
  refine lv_istore_n (lv' := [(3, .int (nI (S &&& (N 4 q)))), (0, .ref (a 1)), (1, .int (nI q)), (2, .int (nI S))]) X.1 X.2.1 dX4_weightOnto_8 rfl hl (by decide) rfl (fun ls hl => ?_)
  refine lv_iconst (v := nI 0) X.1 X.2.1 dX4_weightOnto_9 (by decide) ?_
  refine lv_istore (lv' := [(4, .int (nI 0)), (3, .int (nI (S &&& (N 4 q)))), (0, .ref (a 1)), (1, .int (nI q)), (2, .int (nI S))]) X.1 X.2.1 dX4_weightOnto_10 hl (by decide) rfl (fun ls hl => ?_)
  refine lv_iconst (v := nI 0) X.1 X.2.1 dX4_weightOnto_12 (by decide) ?_
  refine lv_istore (lv' := [(5, .int (nI 0)), (4, .int (nI 0)), (3, .int (nI (S &&& (N 4 q)))), (0, .ref (a 1)), (1, .int (nI q)), (2, .int (nI S))]) X.1 X.2.1 dX4_weightOnto_13 hl (by decide) rfl (fun ls hl => ?_)
  have L15 : ∀ (K : Nat) (p : Nat) (x : Nat), N 0 0 - p < K → p ≤ N 0 0 → x = ln_wt N S q p → ∀ ls : Array Slot, lv_has ls 6 [(0, .ref (a 1)), (1, .int (nI q)), (3, .int (nI (S &&& N 4 q))), (4, .int (nI x)), (5, .int (nI p))] → W prg l env rum sta mid args below meth cod sta.heap [] 0 0 Q0 (F0 mid 15 ls []) := by
    intro K
    induction K with
    | zero => intro p x hm; exact absurd hm (Nat.not_lt_zero _)
    | succ K ih15 =>
      intro p x hm15 hp hx ls hl
      refine lv_iload X.1 X.2.1 dX4_weightOnto_15 (lv_at hl 4 rfl) ?_
      refine lv_aload_n X.1 X.2.1 dX4_weightOnto_17 rfl (lv_at hl 0 rfl) ?_
      refine gC_1_0 X hP (v := nI (N 0 0)) hN.n mF_X4_33 dX4_weightOnto_18 ?_
      refine rn_ge X (by omega) (by omega) (tgt := 58) dX4_weightOnto_21 (by decide) (fun h21 => ?_) (fun h21 => ?_)
      · skip
        refine lv_iload X.1 X.2.1 dX4_weightOnto_58 (lv_at hl 3 rfl) ?_
        subst hQ0
        exact ln_retR X hr hlk rfl (by first | (rw [hx, show p = N 0 0 by omega]) | (rw [hx, ln_wt_stop hW h28 hp])) dX4_weightOnto_60
      · skip
        refine lv_iload_n X.1 X.2.1 dX4_weightOnto_24 rfl (lv_at hl 2 rfl) ?_
        refine lv_iload X.1 X.2.1 dX4_weightOnto_25 (lv_at hl 4 rfl) ?_
        refine rn_shr X (ln_31 (ln_and_lt hS)) (by omega) dX4_weightOnto_27 ?_
        refine rn_eq0 X (ln_31 (ln_shr_lt (ln_and_lt hS))) (tgt := 58) dX4_weightOnto_28 (by decide) (fun h28 => ?_) (fun h28 => ?_)
        · skip
          refine lv_iload X.1 X.2.1 dX4_weightOnto_58 (lv_at hl 3 rfl) ?_
          subst hQ0
          exact ln_retR X hr hlk rfl (by first | (rw [hx, show p = N 0 0 by omega]) | (rw [hx, ln_wt_stop hW h28 hp])) dX4_weightOnto_60
        · skip
          refine lv_iload X.1 X.2.1 dX4_weightOnto_31 (lv_at hl 3 rfl) ?_
          refine lv_iload_n X.1 X.2.1 dX4_weightOnto_33 rfl (lv_at hl 2 rfl) ?_
          refine lv_iload X.1 X.2.1 dX4_weightOnto_34 (lv_at hl 4 rfl) ?_
          refine rn_shr X (ln_31 (ln_and_lt hS)) (by omega) dX4_weightOnto_36 ?_
          refine lv_iconst (v := nI 1) X.1 X.2.1 dX4_weightOnto_37 (by decide) ?_
          refine rn_and X dX4_weightOnto_38 ?_
          refine lv_aload_n X.1 X.2.1 dX4_weightOnto_39 rfl (lv_at hl 0 rfl) ?_
          refine gC_1_5 X hP mF_X4_24 dX4_weightOnto_40 ?_
          refine lv_iload X.1 X.2.1 dX4_weightOnto_43 (lv_at hl 4 rfl) ?_
          refine oC_4 X hP (by omega) dX4_weightOnto_45 ?_
          refine lv_iload_n X.1 X.2.1 dX4_weightOnto_46 rfl (lv_at hl 1 rfl) ?_
          refine lC_r25 X hP (by omega) (by omega) (v := nI (N (5 + p) q)) (hN.w (by omega) (by omega)) dX4_weightOnto_47 ?_
          refine rn_mul X dX4_weightOnto_48 ?_
          refine rn_add X dX4_weightOnto_49 ?_
          refine lv_istore (lv' := [(4, .int (nI (x + ((((S &&& N 4 q) >>> p) &&& 1) * (N (5 + p) q))))), (0, .ref (a 1)), (1, .int (nI q)), (3, .int (nI (S &&& N 4 q))), (5, .int (nI p))]) X.1 X.2.1 dX4_weightOnto_50 hl (by decide) rfl (fun ls hl => ?_)
          refine lv_iinc (v := nI (p + 1)) (lv' := [(5, .int (nI (p + 1))), (4, .int (nI (x + ((((S &&& N 4 q) >>> p) &&& 1) * (N (5 + p) q))))), (0, .ref (a 1)), (1, .int (nI q)), (3, .int (nI (S &&& N 4 q)))]) X.1 X.2.1 dX4_weightOnto_52 hl (k := 4) rfl rn_inc (by decide) rfl (fun ls hl => ?_)
          refine lv_goto (tgt := 15) X.1 X.2.1 dX4_weightOnto_55 (by decide) ?_
          exact ih15 (p + 1) _ (by omega) (by omega) (by rw [hx, ln_shr_and]; exact ln_wt_step hW S q p) ls (lv_sub hl [2, 3, 4, 1, 0] rfl)
  exact L15 _ 0 0 (Nat.lt_succ_self _) (Nat.zero_le _) rfl ls (lv_sub hl [3, 4, 2, 1, 0] rfl)
set_option maxHeartbeats 4000000 in
set_option maxRecDepth 100000 in
theorem c_X10_all (l : Launch) (D : va_G) (g : Nat → ClassId) (a : Nat → Nat) (σ : ln_S) (d : Nat) (N : ln_N) (hW : ln_wf N) (hN : ln_nM N σ)  (hd : 0 ≤ d) : ln_R l D g (MW a g σ) yX10_all (.code yX10_all cX10_all 1 (some .int)) d [.ref (a 0)] (fun r => r = nI (2 ^ N 0 0 - 1)) := by
  have hN12 := hW.n12
  have hp12 := hW.p12
  refine ln_ofR (by decide +kernel) (Nat.le_of_ble_eq_true rfl) (fun prg env rum sta mid args below meth cod ls hr hlk X hP hl => ?_)
  have hl : lv_has ls 1 [(0, .ref (a 0))] := hl
  generalize hQ0 : (MQ below (vp_Si (fun r => r = nI (2 ^ N 0 0 - 1))) args sta 0 0 (fun _ => False)) = Q0
  refine lv_iconst (v := nI 1) X.1 X.2.1 dX10_all_0 (by decide) ?_
  refine lv_aload_n X.1 X.2.1 dX10_all_1 rfl (lv_at hl 0 rfl) ?_
  refine gM_0_0 X hP (v := nI (N 0 0)) hN.n mF_X10_48 dX10_all_2 ?_
  refine rn_shl X (by omega) dX10_all_5 ?_
  refine lv_iconst (v := nI 1) X.1 X.2.1 dX10_all_6 (by decide) ?_
  refine rn_sub X (ln_pos2 _) dX10_all_7 ?_
  subst hQ0
  exact ln_retR X hr hlk rfl rfl dX10_all_8
set_option maxHeartbeats 4000000 in
set_option maxRecDepth 100000 in
theorem c_X10_isPost (l : Launch) (D : va_G) (g : Nat → ClassId) (a : Nat → Nat) (σ : ln_S) (d : Nat) (N : ln_N) (hW : ln_wf N) (hN : ln_nM N σ) (x : Int32) (hd : 1 ≤ d) : ln_R l D g (MW a g σ) yX10_isPost (.code yX10_isPost cX10_isPost 2 (some .boolean)) d [.ref (a 0), .int x] (fun r => r = ln_b (ln_inr x (N 0 0))) := by
  have hN12 := hW.n12
  have hp12 := hW.p12
  refine ln_ofR (by decide +kernel) (Nat.le_of_ble_eq_true rfl) (fun prg env rum sta mid args below meth cod ls hr hlk X hP hl => ?_)
  have hl : lv_has ls 2 [(0, .ref (a 0)), (1, .int x)] := hl
  generalize hQ0 : (MQ below (vp_Si (fun r => r = ln_b (ln_inr x (N 0 0)))) args sta 0 0 (fun _ => False)) = Q0
  refine lv_iload_n X.1 X.2.1 dX10_isPost_0 rfl (lv_at hl 1 rfl) ?_
  refine lv_iconst (v := nI 0) X.1 X.2.1 dX10_isPost_1 (by decide) ?_
  refine lv_aload_n X.1 X.2.1 dX10_isPost_2 rfl (lv_at hl 0 rfl) ?_
  refine gM_0_0 X hP (v := nI (N 0 0)) hN.n mF_X10_48 dX10_isPost_3 ?_
  refine lv_iconst (v := nI 1) X.1 X.2.1 dX10_isPost_6 (by decide) ?_
  refine lv_isub X.1 X.2.1 dX10_isPost_7 ?_
  refine ln_sR X (c_X10_in l D g 0 x (nI 0) ((nI (N 0 0) - nI 1)) (Nat.le_refl _)) ln_nil mM_X10_52 Y_X10_in rfl (by omega) hl.1 rfl (Nat.le_of_ble_eq_true rfl) dX10_isPost_8 ⟨Nat.zero_le _, Nat.zero_le _⟩ (fun r8 hr8 => ?_)
  subst hr8
  refine rn_top (y := ln_b (ln_inr x (N 0 0))) (by rw [show nI 0 = 0 from rfl, ln_in_inr (by omega)]) ?_
  subst hQ0
  exact ln_retR X hr hlk (ln_b_nar _) rfl dX10_isPost_11
set_option maxHeartbeats 4000000 in
set_option maxRecDepth 100000 in
theorem c_X10_isSet (l : Launch) (D : va_G) (g : Nat → ClassId) (a : Nat → Nat) (σ : ln_S) (d : Nat) (N : ln_N) (hW : ln_wf N) (hN : ln_nM N σ) (x : Int32) (hd : 0 ≤ d) : ln_R l D g (MW a g σ) yX10_isSet (.code yX10_isSet cX10_isSet 2 (some .boolean)) d [.ref (a 0), .int x] (fun r => r = ln_b (ln_inr x (2 ^ N 0 0))) := by
  have hN12 := hW.n12
  have hp12 := hW.p12
  refine ln_ofR (by decide +kernel) (Nat.le_of_ble_eq_true rfl) (fun prg env rum sta mid args below meth cod ls hr hlk X hP hl => ?_)
  have hl : lv_has ls 2 [(0, .ref (a 0)), (1, .int x)] := hl
  generalize hQ0 : (MQ below (vp_Si (fun r => r = ln_b (ln_inr x (2 ^ N 0 0)))) args sta 0 0 (fun _ => False)) = Q0
  refine lv_iload_n X.1 X.2.1 dX10_isSet_0 rfl (lv_at hl 1 rfl) ?_
  refine lv_if_lt (tgt := 18) X.1 X.2.1 dX10_isSet_1 (by decide) (fun h1 => ?_) (fun h1 => ?_)
  · skip
    refine lv_iconst (v := nI 0) X.1 X.2.1 dX10_isSet_18 (by decide) ?_
    subst hQ0
    exact ln_retR X hr hlk rfl (by first | (rw [ln_inr_lt h1]; rfl) | (rw [ln_inr_ge (by omega) h11]; rfl) | (rw [ln_inr_in (by omega) h1 h11]; rfl)) dX10_isSet_19
  · skip
    refine lv_iload_n X.1 X.2.1 dX10_isSet_4 rfl (lv_at hl 1 rfl) ?_
    refine lv_iconst (v := nI 1) X.1 X.2.1 dX10_isSet_5 (by decide) ?_
    refine lv_aload_n X.1 X.2.1 dX10_isSet_6 rfl (lv_at hl 0 rfl) ?_
    refine gM_0_0 X hP (v := nI (N 0 0)) hN.n mF_X10_48 dX10_isSet_7 ?_
    refine rn_shl X (by omega) dX10_isSet_10 ?_
    refine lv_icmp_ge (tgt := 18) X.1 X.2.1 dX10_isSet_11 (by decide) (fun h11 => ?_) (fun h11 => ?_)
    · skip
      refine lv_iconst (v := nI 0) X.1 X.2.1 dX10_isSet_18 (by decide) ?_
      subst hQ0
      exact ln_retR X hr hlk rfl (by first | (rw [ln_inr_lt h1]; rfl) | (rw [ln_inr_ge (by omega) h11]; rfl) | (rw [ln_inr_in (by omega) h1 h11]; rfl)) dX10_isSet_19
    · skip
      refine lv_iconst (v := nI 1) X.1 X.2.1 dX10_isSet_14 (by decide) ?_
      refine lv_goto (tgt := 19) X.1 X.2.1 dX10_isSet_15 (by decide) ?_
      subst hQ0
      exact ln_retR X hr hlk rfl (by first | (rw [ln_inr_lt h1]; rfl) | (rw [ln_inr_ge (by omega) h11]; rfl) | (rw [ln_inr_in (by omega) h1 h11]; rfl)) dX10_isSet_19
set_option maxHeartbeats 4000000 in
set_option maxRecDepth 100000 in
theorem c_X10_behind (l : Launch) (D : va_G) (g : Nat → ClassId) (a : Nat → Nat) (σ : ln_S) (d : Nat) (N : ln_N) (hW : ln_wf N) (hN : ln_nM N σ) (p : Nat) (hp : p < 12) (hd : 0 ≤ d) : ln_R l D g (MW a g σ) yX10_behind (.code yX10_behind cX10_behind 2 (some .int)) d [.ref (a 0), .int (nI p)] (fun r => r = nI (N 3 p)) := by
  refine ln_ofR (by decide +kernel) (Nat.le_of_ble_eq_true rfl) (fun prg env rum sta mid args below meth cod ls hr hlk X hP hl => ?_)
  have hl : lv_has ls 2 [(0, .ref (a 0)), (1, .int (nI p))] := hl
  generalize hQ0 : (MQ below (vp_Si (fun r => r = nI (N 3 p))) args sta 0 0 (fun _ => False)) = Q0
  refine lv_aload_n X.1 X.2.1 dX10_behind_0 rfl (lv_at hl 0 rfl) ?_
  refine gM_0_4 X hP mF_X10_19 dX10_behind_1 ?_
  refine lv_iload_n X.1 X.2.1 dX10_behind_4 rfl (lv_at hl 1 rfl) ?_
  refine lM_4 X hP (by omega) (v := nI (N 3 p)) (hN.bh (by omega)) dX10_behind_5 ?_
  subst hQ0
  exact ln_retR X hr hlk rfl rfl dX10_behind_6
set_option maxHeartbeats 4000000 in
set_option maxRecDepth 100000 in
theorem c_X10_ahead (l : Launch) (D : va_G) (g : Nat → ClassId) (a : Nat → Nat) (σ : ln_S) (d : Nat) (N : ln_N) (hW : ln_wf N) (hN : ln_nM N σ) (q : Nat) (hq : q < 12) (hd : 0 ≤ d) : ln_R l D g (MW a g σ) yX10_ahead (.code yX10_ahead cX10_ahead 4 (some .int)) d [.ref (a 0), .int (nI q)] (fun r => r = nI (N 4 q)) := by
  have hN12 := hW.n12
  have hp12 := hW.p12
  refine ln_ofR (by decide +kernel) (Nat.le_of_ble_eq_true rfl) (fun prg env rum sta mid args below meth cod ls hr hlk X hP hl => ?_)
  have hl : lv_has ls 4 [(0, .ref (a 0)), (1, .int (nI q))] := hl
  generalize hQ0 : (MQ below (vp_Si (fun r => r = nI (N 4 q))) args sta 0 0 (fun _ => False)) = Q0
  refine lv_iconst (v := nI 0) X.1 X.2.1 dX10_ahead_0 (by decide) ?_
  refine lv_istore_n (lv' := [(2, .int (nI 0)), (0, .ref (a 0)), (1, .int (nI q))]) X.1 X.2.1 dX10_ahead_1 rfl hl (by decide) rfl (fun ls hl => ?_)
  refine lv_iconst (v := nI 0) X.1 X.2.1 dX10_ahead_2 (by decide) ?_
  refine lv_istore_n (lv' := [(3, .int (nI 0)), (2, .int (nI 0)), (0, .ref (a 0)), (1, .int (nI q))]) X.1 X.2.1 dX10_ahead_3 rfl hl (by decide) rfl (fun ls hl => ?_)
  have L4 : ∀ (K : Nat) (p : Nat) (x : Nat), N 0 0 - p < K → p ≤ N 0 0 → x < 4096 → x = ln_oru (fun i => if 0 < N (5 + i) q then 2 ^ i else 0) p → ∀ ls : Array Slot, lv_has ls 4 [(0, .ref (a 0)), (1, .int (nI q)), (2, .int (nI x)), (3, .int (nI p))] → W prg l env rum sta mid args below meth cod sta.heap [] 0 0 Q0 (F0 mid 4 ls []) := by
    intro K
    induction K with
    | zero => intro p x hm; exact absurd hm (Nat.not_lt_zero _)
    | succ K ih4 =>
      intro p x hm4 hp hxb hx ls hl
      refine lv_iload_n X.1 X.2.1 dX10_ahead_4 rfl (lv_at hl 3 rfl) ?_
      refine lv_aload_n X.1 X.2.1 dX10_ahead_5 rfl (lv_at hl 0 rfl) ?_
      refine gM_0_0 X hP (v := nI (N 0 0)) hN.n mF_X10_48 dX10_ahead_6 ?_
      refine rn_ge X (by omega) (by omega) (tgt := 38) dX10_ahead_9 (by decide) (fun h9 => ?_) (fun h9 => ?_)
      · skip
        refine lv_iload_n X.1 X.2.1 dX10_ahead_38 rfl (lv_at hl 2 rfl) ?_
        subst hQ0
        exact ln_retR X hr hlk rfl (by rw [hx, show p = N 0 0 by omega, ln_ah_ok hW]) dX10_ahead_39
      · skip
        refine lv_aload_n X.1 X.2.1 dX10_ahead_12 rfl (lv_at hl 0 rfl) ?_
        refine gM_0_1 X hP mF_X10_7 dX10_ahead_13 ?_
        refine lv_bipush (v := nI 12) X.1 X.2.1 dX10_ahead_16 (by decide) ?_
        refine lv_iload_n X.1 X.2.1 dX10_ahead_18 rfl (lv_at hl 3 rfl) ?_
        refine rn_mul X dX10_ahead_19 ?_
        refine lv_iload_n X.1 X.2.1 dX10_ahead_20 rfl (lv_at hl 1 rfl) ?_
        refine rn_add X dX10_ahead_21 ?_
        refine lM_1 X hP (by omega) (v := nI (N (5 + p) q)) (hN.w (by omega) hq) dX10_ahead_22 ?_
        refine rn_le0 X (ln_31 (hW.w12 _ _)) (tgt := 32) dX10_ahead_23 (by decide) (fun h23 => ?_) (fun h23 => ?_)
        · skip
          refine lv_iinc (v := nI (p + 1)) (lv' := [(3, .int (nI (p + 1))), (0, .ref (a 0)), (1, .int (nI q)), (2, .int (nI x))]) X.1 X.2.1 dX10_ahead_32 hl (k := 3) rfl rn_inc (by decide) rfl (fun ls hl => ?_)
          refine lv_goto (tgt := 4) X.1 X.2.1 dX10_ahead_35 (by decide) ?_
          exact ih4 (p + 1) _ (by omega) (by omega) (by first | exact hxb | exact ln_or12 hxb (ln_p12 (by omega))) (by rw [hx]; first | exact ln_ah_step h23 | exact ln_ah_step2 h23) ls (lv_sub hl [1, 2, 3, 0] rfl)
        · skip
          refine lv_iload_n X.1 X.2.1 dX10_ahead_26 rfl (lv_at hl 2 rfl) ?_
          refine lv_iconst (v := nI 1) X.1 X.2.1 dX10_ahead_27 (by decide) ?_
          refine lv_iload_n X.1 X.2.1 dX10_ahead_28 rfl (lv_at hl 3 rfl) ?_
          refine rn_shl X (by omega) dX10_ahead_29 ?_
          refine rn_or X dX10_ahead_30 ?_
          refine lv_istore_n (lv' := [(2, .int (nI (x ||| (2 ^ p)))), (0, .ref (a 0)), (1, .int (nI q)), (3, .int (nI p))]) X.1 X.2.1 dX10_ahead_31 rfl hl (by decide) rfl (fun ls hl => ?_)
          refine lv_iinc (v := nI (p + 1)) (lv' := [(3, .int (nI (p + 1))), (2, .int (nI (x ||| (2 ^ p)))), (0, .ref (a 0)), (1, .int (nI q))]) X.1 X.2.1 dX10_ahead_32 hl (k := 3) rfl rn_inc (by decide) rfl (fun ls hl => ?_)
          refine lv_goto (tgt := 4) X.1 X.2.1 dX10_ahead_35 (by decide) ?_
          exact ih4 (p + 1) _ (by omega) (by omega) (by first | exact hxb | exact ln_or12 hxb (ln_p12 (by omega))) (by rw [hx]; first | exact ln_ah_step h23 | exact ln_ah_step2 h23) ls (lv_sub hl [2, 3, 1, 0] rfl)
  exact L4 _ 0 0 (Nat.lt_succ_self _) (Nat.zero_le _) (by decide) rfl ls (lv_sub hl [2, 3, 1, 0] rfl)
set_option maxHeartbeats 4000000 in
set_option maxRecDepth 100000 in
theorem c_X10_allBehind (l : Launch) (D : va_G) (g : Nat → ClassId) (a : Nat → Nat) (σ : ln_S) (d : Nat) (N : ln_N) (hW : ln_wf N) (hN : ln_nM N σ) (S : Nat) (hS : S < 4096) (hd : 1 ≤ d) : ln_R l D g (MW a g σ) yX10_allBehind (.code yX10_allBehind cX10_allBehind 4 (some .int)) d [.ref (a 0), .int (nI S)] (fun r => r = nI (ln_bhs N S (N 0 0))) := by
  have hN12 := hW.n12
  have hp12 := hW.p12
  refine ln_ofR (by decide +kernel) (Nat.le_of_ble_eq_true rfl) (fun prg env rum sta mid args below meth cod ls hr hlk X hP hl => ?_)
  have hl : lv_has ls 4 [(0, .ref (a 0)), (1, .int (nI S))] := hl
  generalize hQ0 : (MQ below (vp_Si (fun r => r = nI (ln_bhs N S (N 0 0)))) args sta 0 0 (fun _ => False)) = Q0
  refine lv_iconst (v := nI 0) X.1 X.2.1 dX10_allBehind_0 (by decide) ?_
  refine lv_istore_n (lv' := [(2, .int (nI 0)), (0, .ref (a 0)), (1, .int (nI S))]) X.1 X.2.1 dX10_allBehind_1 rfl hl (by decide) rfl (fun ls hl => ?_)
  refine lv_iconst (v := nI 0) X.1 X.2.1 dX10_allBehind_2 (by decide) ?_
  refine lv_istore_n (lv' := [(3, .int (nI 0)), (2, .int (nI 0)), (0, .ref (a 0)), (1, .int (nI S))]) X.1 X.2.1 dX10_allBehind_3 rfl hl (by decide) rfl (fun ls hl => ?_)
  have L4 : ∀ (K : Nat) (p : Nat) (x : Nat), N 0 0 - p < K → p ≤ N 0 0 → x < 4096 → x = ln_bhs N S p → ∀ ls : Array Slot, lv_has ls 4 [(0, .ref (a 0)), (1, .int (nI S)), (2, .int (nI x)), (3, .int (nI p))] → W prg l env rum sta mid args below meth cod sta.heap [] 0 0 Q0 (F0 mid 4 ls []) := by
    intro K
    induction K with
    | zero => intro p x hm; exact absurd hm (Nat.not_lt_zero _)
    | succ K ih4 =>
      intro p x hm4 hp hxb hx ls hl
      refine lv_iload_n X.1 X.2.1 dX10_allBehind_4 rfl (lv_at hl 3 rfl) ?_
      refine lv_aload_n X.1 X.2.1 dX10_allBehind_5 rfl (lv_at hl 0 rfl) ?_
      refine gM_0_0 X hP (v := nI (N 0 0)) hN.n mF_X10_48 dX10_allBehind_6 ?_
      refine rn_ge X (by omega) (by omega) (tgt := 35) dX10_allBehind_9 (by decide) (fun h9 => ?_) (fun h9 => ?_)
      · skip
        refine lv_iload_n X.1 X.2.1 dX10_allBehind_35 rfl (lv_at hl 2 rfl) ?_
        subst hQ0
        exact ln_retR X hr hlk rfl (by rw [hx, show p = N 0 0 by omega]) dX10_allBehind_36
      · skip
        refine lv_iload_n X.1 X.2.1 dX10_allBehind_12 rfl (lv_at hl 1 rfl) ?_
        refine lv_iload_n X.1 X.2.1 dX10_allBehind_13 rfl (lv_at hl 3 rfl) ?_
        refine ln_sR X (c_X10_has l D g 0 S p (ln_31 hS) (by omega) (Nat.le_refl _)) ln_nil mM_X10_70 Y_X10_has rfl (by omega) hl.1 rfl (Nat.le_of_ble_eq_true rfl) dX10_allBehind_14 ⟨Nat.zero_le _, Nat.zero_le _⟩ (fun r14 hr14 => ?_)
        subst hr14
        refine rn_eqB X (tgt := 29) dX10_allBehind_17 (by decide) (fun h17 => ?_) (fun h17 => ?_)
        · skip
          refine lv_iinc (v := nI (p + 1)) (lv' := [(3, .int (nI (p + 1))), (0, .ref (a 0)), (1, .int (nI S)), (2, .int (nI x))]) X.1 X.2.1 dX10_allBehind_29 hl (k := 3) rfl rn_inc (by decide) rfl (fun ls hl => ?_)
          refine lv_goto (tgt := 4) X.1 X.2.1 dX10_allBehind_32 (by decide) ?_
          exact ih4 (p + 1) _ (by omega) (by omega) (by first | exact hxb | exact ln_or12 hxb (hW.bh12 _)) (by first | (rw [ln_bhs_f h17]; exact hx) | (rw [ln_bhs_t h17, hx])) ls (lv_sub hl [1, 2, 3, 0] rfl)
        · skip
          refine lv_iload_n X.1 X.2.1 dX10_allBehind_20 rfl (lv_at hl 2 rfl) ?_
          refine lv_aload_n X.1 X.2.1 dX10_allBehind_21 rfl (lv_at hl 0 rfl) ?_
          refine gM_0_4 X hP mF_X10_19 dX10_allBehind_22 ?_
          refine lv_iload_n X.1 X.2.1 dX10_allBehind_25 rfl (lv_at hl 3 rfl) ?_
          refine lM_4 X hP (by omega) (v := nI (N 3 p)) (hN.bh (by omega)) dX10_allBehind_26 ?_
          refine rn_or X dX10_allBehind_27 ?_
          refine lv_istore_n (lv' := [(2, .int (nI (x ||| (N 3 p)))), (0, .ref (a 0)), (1, .int (nI S)), (3, .int (nI p))]) X.1 X.2.1 dX10_allBehind_28 rfl hl (by decide) rfl (fun ls hl => ?_)
          refine lv_iinc (v := nI (p + 1)) (lv' := [(3, .int (nI (p + 1))), (2, .int (nI (x ||| (N 3 p)))), (0, .ref (a 0)), (1, .int (nI S))]) X.1 X.2.1 dX10_allBehind_29 hl (k := 3) rfl rn_inc (by decide) rfl (fun ls hl => ?_)
          refine lv_goto (tgt := 4) X.1 X.2.1 dX10_allBehind_32 (by decide) ?_
          exact ih4 (p + 1) _ (by omega) (by omega) (by first | exact hxb | exact ln_or12 hxb (hW.bh12 _)) (by first | (rw [ln_bhs_f h17]; exact hx) | (rw [ln_bhs_t h17, hx])) ls (lv_sub hl [2, 3, 1, 0] rfl)
  exact L4 _ 0 0 (Nat.lt_succ_self _) (Nat.zero_le _) (by decide) rfl ls (lv_sub hl [2, 3, 1, 0] rfl)
