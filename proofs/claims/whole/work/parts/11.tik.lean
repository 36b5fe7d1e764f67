def ln_tBf (N : ln_N) (S p : Nat) : Nat := if S.testBit p = false ∧ N 1 p ≤ ln_wt N S p (N 0 0) then 2 ^ p else 0
def ln_tB (N : ln_N) (S : Nat) : Nat := S ||| ln_oru (ln_tBf N S) (N 0 0)
def ln_off (N : ln_N) (S q : Nat) : Nat := ln_df (N 3 q) S
def ln_tFf (N : ln_N) (S q : Nat) : Nat := if S.testBit q = true ∧ ln_off N S q &&& (ln_off N S q - 1) = 0 then ln_off N S q else 0
def ln_tF (N : ln_N) (S : Nat) : Nat := S ||| ln_oru (ln_tFf N S) (N 0 0)
def ln_tp (N : ln_N) (r S : Nat) : Nat := if r = 0 then ln_tB N S else ln_tF N S
def ln_tk (N : ln_N) (r t S : Nat) : Nat := if r = 2 ∧ t = 1 then ln_wb N S else ln_tp N r S
theorem ln_or0 {f : Nat → Nat} {k x S : Nat} (hx : x = S ||| ln_oru f k) (h : f k = 0) : x = S ||| ln_oru f (k + 1) := by
  show x = S ||| (ln_oru f k ||| f k)
  rw [h, Nat.or_zero]; exact hx
theorem ln_or1 {f : Nat → Nat} {k x S v : Nat} (hx : x = S ||| ln_oru f k) (h : f k = v) : x ||| v = S ||| ln_oru f (k + 1) := by
  show x ||| v = S ||| (ln_oru f k ||| f k)
  rw [h, ← Nat.or_assoc, ← hx]
theorem ln_tBf_a {N : ln_N} {S p : Nat} (h : S.testBit p = true) : ln_tBf N S p = 0 := if_neg (fun q => by rw [h] at q; exact absurd q.1 (by decide))
theorem ln_tBf_b {N : ln_N} {S p : Nat} (h : ln_wt N S p (N 0 0) < N 1 p) : ln_tBf N S p = 0 := if_neg (fun q => by have := q.2; omega)
theorem ln_tBf_c {N : ln_N} {S p : Nat} (h : S.testBit p = false) (h2 : N 1 p ≤ ln_wt N S p (N 0 0)) : ln_tBf N S p = 2 ^ p := if_pos ⟨h, h2⟩
theorem ln_tFf_a {N : ln_N} {S q : Nat} (h : S.testBit q = false) : ln_tFf N S q = 0 := if_neg (fun z => by rw [h] at z; exact absurd z.1 (by decide))
theorem ln_tFf_b {N : ln_N} {S q : Nat} (h : ln_off N S q &&& (ln_off N S q - 1) ≠ 0) : ln_tFf N S q = 0 := if_neg (fun z => h z.2)
theorem ln_tFf_c {N : ln_N} {S q : Nat} (h : S.testBit q = true) (h2 : ln_off N S q &&& (ln_off N S q - 1) = 0) : ln_tFf N S q = ln_off N S q := if_pos ⟨h, h2⟩
theorem ln_tFf_d {N : ln_N} {S q : Nat} (h : ln_off N S q = 0) : ln_tFf N S q = 0 := by unfold ln_tFf; rw [h]; split <;> rfl
theorem ln_df12 {a b : Nat} (h : a < 4096) : ln_df a b < 4096 := ln_df_lt h
theorem ln_oru_lt2 {f : Nat → Nat} {n : Nat} : ∀ {K : Nat}, (∀ k, k < K → f k < 2 ^ n) → ln_oru f K < 2 ^ n
  | 0, _ => ln_pos2 n
  | K + 1, h => Nat.or_lt_two_pow (ln_oru_lt2 (fun k hk => h k (by omega))) (h K (by omega))
theorem ln_tBf_lt {N : ln_N} {S p : Nat} (h : p < N 0 0) : ln_tBf N S p < 2 ^ N 0 0 := by
  unfold ln_tBf; split
  · exact Nat.pow_lt_pow_right (by decide) h
  · exact ln_pos2 _
theorem ln_tFf_lt {N : ln_N} (hW : ln_wf N) (S q : Nat) : ln_tFf N S q < 2 ^ N 0 0 := by
  unfold ln_tFf; split
  · exact ln_df_lt (hW.bhn q)
  · exact ln_pos2 _
theorem ln_tB_lt {N : ln_N} {S : Nat} (hS : S < 2 ^ N 0 0) : ln_tB N S < 2 ^ N 0 0 := Nat.or_lt_two_pow hS (ln_oru_lt2 (fun _ hk => ln_tBf_lt hk))
theorem ln_tF_lt {N : ln_N} (hW : ln_wf N) {S : Nat} (hS : S < 2 ^ N 0 0) : ln_tF N S < 2 ^ N 0 0 := Nat.or_lt_two_pow hS (ln_oru_lt2 (fun k _ => ln_tFf_lt hW S k))
theorem ln_tp_lt {N : ln_N} (hW : ln_wf N) (r : Nat) {S : Nat} (hS : S < 2 ^ N 0 0) : ln_tp N r S < 2 ^ N 0 0 := by
  unfold ln_tp; split
  · exact ln_tB_lt hS
  · exact ln_tF_lt hW hS
theorem ln_tk_lt {N : ln_N} (hW : ln_wf N) (r t : Nat) {S : Nat} (hS : S < 2 ^ N 0 0) : ln_tk N r t S < 2 ^ N 0 0 := by
  unfold ln_tk; split
  · exact ln_wb_lt hW hS
  · exact ln_tp_lt hW r hS
theorem ln_n12 {N : ln_N} (hW : ln_wf N) {S : Nat} (hS : S < 2 ^ N 0 0) : S < 4096 := Nat.lt_of_lt_of_le hS hW.p12
/-- the course of a rule -/
def ln_st (N : ln_N) (r S : Nat) : Nat → Nat
  | 0 => S
  | t + 1 => ln_tk N r (t + 1) (ln_st N r S t)
theorem ln_st_lt {N : ln_N} (hW : ln_wf N) (r : Nat) {S : Nat} (hS : S < 2 ^ N 0 0) : ∀ t, ln_st N r S t < 2 ^ N 0 0
  | 0 => hS
  | t + 1 => ln_tk_lt hW r (t + 1) (ln_st_lt hW r hS t)
theorem ln_st12 {N : ln_N} (hW : ln_wf N) (r : Nat) {S : Nat} (hS : S < 2 ^ N 0 0) (t : Nat) : ln_st N r S t < 4096 := ln_n12 hW (ln_st_lt hW r hS t)
def ln_end (N : ln_N) (r S : Nat) : Nat := ln_st N r S 13
def ln_lc (f : Nat → Nat) : Nat → Nat
  | 0 => 0
  | k + 1 => if f (k + 1) = f k then ln_lc f k else k + 1
def ln_et (N : ln_N) (r S : Nat) : Nat := ln_lc (ln_st N r S) 13
theorem ln_lc_le (f : Nat → Nat) : ∀ k, ln_lc f k ≤ k
  | 0 => Nat.le_refl 0
  | k + 1 => by
    have h := ln_lc_le f k
    show (if f (k + 1) = f k then ln_lc f k else k + 1) ≤ k + 1
    split <;> omega
theorem ln_lc_at (f : Nat → Nat) : ∀ k, f (ln_lc f k) = f k
  | 0 => rfl
  | k + 1 => by
    show f (if f (k + 1) = f k then ln_lc f k else k + 1) = f (k + 1)
    split
    · rename_i h; rw [ln_lc_at f k, h]
    · rfl
theorem ln_lc_s {f : Nat → Nat} {k : Nat} (h : f (k + 1) = f k) : ln_lc f (k + 1) = ln_lc f k := if_pos h
theorem ln_lc_n {f : Nat → Nat} {k : Nat} (h : f (k + 1) ≠ f k) : ln_lc f (k + 1) = k + 1 := if_neg h
theorem ln_lc_stab {f : Nat → Nat} {k : Nat} (h : ∀ j, k ≤ j → f (j + 1) = f j) : ∀ m, ln_lc f (k + m) = ln_lc f k
  | 0 => rfl
  | m + 1 => by rw [← Nat.add_assoc, ln_lc_s (h _ (by omega)), ln_lc_stab h m]
theorem ln_et13 (N : ln_N) (r S : Nat) : ln_et N r S ≤ 13 := ln_lc_le _ 13
theorem ln_st_et (N : ln_N) (r S : Nat) : ln_st N r S (ln_et N r S) = ln_end N r S := ln_lc_at _ 13
theorem ln_st_stab {N : ln_N} {r S j : Nat} (hj : r ≠ 2 ∨ 1 ≤ j) (h : ln_st N r S (j + 1) = ln_st N r S j) : ∀ k, j ≤ k → ln_st N r S (k + 1) = ln_st N r S k := by
  intro k hk
  induction k with
  | zero => rw [show j = 0 by omega] at h; exact h
  | succ k ih =>
    by_cases hjk : j = k + 1
    · rw [← hjk]; exact h
    · have h1 := ih (by omega)
      show ln_tk N r (k + 1 + 1) (ln_st N r S (k + 1)) = ln_st N r S (k + 1)
      rw [h1]
      show ln_tk N r (k + 1 + 1) (ln_st N r S k) = ln_st N r S k
      have h2 : ln_tk N r (k + 1) (ln_st N r S k) = ln_st N r S k := h1
      have h3 : ln_tk N r (k + 1 + 1) (ln_st N r S k) = ln_tk N r (k + 1) (ln_st N r S k) := by
        unfold ln_tk
        rw [if_neg (by omega), if_neg (by omega)]
      rw [h3, h2]
def ln_sb (a b : Nat) : Prop := ∀ i, a.testBit i = true → b.testBit i = true
theorem ln_sb_or (a b : Nat) : ln_sb a (a ||| b) := fun i h => by rw [Nat.testBit_or, h]; rfl
theorem ln_sb_tk (N : ln_N) (r t S : Nat) : ln_sb S (ln_tk N r t S) := by
  unfold ln_tk ln_tp; split
  · exact ln_sb_or _ _
  · split <;> exact ln_sb_or _ _
theorem ln_ct_mono {f g : Nat → Bool} (h : ∀ i, f i = true → g i = true) : ∀ n, ln_ct f n ≤ ln_ct g n
  | 0 => Nat.le_refl 0
  | n + 1 => by
    have h1 := ln_ct_mono h n
    show ln_ct f n + (if f n then 1 else 0) ≤ ln_ct g n + (if g n then 1 else 0)
    cases hf : f n with
    | false => simp; split <;> omega
    | true => rw [h n hf]; simpa using h1
theorem ln_ct_lt {f g : Nat → Bool} (h : ∀ i, f i = true → g i = true) {i : Nat} (hf : f i = false) (hg : g i = true) : ∀ {n : Nat}, i < n → ln_ct f n < ln_ct g n
  | 0, hi => absurd hi (Nat.not_lt_zero i)
  | n + 1, hi => by
    show ln_ct f n + (if f n then 1 else 0) < ln_ct g n + (if g n then 1 else 0)
    by_cases hn : i = n
    · subst hn
      have h1 := ln_ct_mono h i
      rw [hf, hg]; simp; omega
    · have h1 := ln_ct_lt h hf hg (show i < n by omega)
      cases hfn : f n with
      | false => simp; split <;> omega
      | true => rw [h n hfn]; simpa using h1
theorem ln_pc_lt {S T : Nat} (h : ln_sb S T) (hT : T < 4096) (hne : S ≠ T) : ln_pc S < ln_pc T := by
  have : ∃ i, S.testBit i = false ∧ T.testBit i = true := by
    refine Classical.byContradiction (fun hn => hne ?_)
    apply Nat.eq_of_testBit_eq
    intro i
    cases hs : S.testBit i with
    | true => rw [h i hs]
    | false =>
      cases ht : T.testBit i with
      | false => rfl
      | true => exact absurd ⟨i, hs, ht⟩ hn
  obtain ⟨i, h1, h2⟩ := this
  have hi : i < 12 := by
    refine Classical.byContradiction (fun q => ?_)
    rw [Nat.testBit_lt_two_pow (Nat.lt_of_lt_of_le hT (Nat.pow_le_pow_right (n := 2) (by decide) (show 12 ≤ i by omega)))] at h2
    exact absurd h2 (by decide)
  exact ln_ct_lt h h1 h2 hi
theorem ln_tF0 (N : ln_N) : ln_tF N 0 = 0 := by
  unfold ln_tF
  rw [Nat.zero_or]
  have : ∀ k, ln_oru (ln_tFf N 0) k = 0 := by
    intro k
    induction k with
    | zero => rfl
    | succ k ih => show ln_oru (ln_tFf N 0) k ||| ln_tFf N 0 k = 0; rw [ih, ln_tFf_a (Nat.zero_testBit k)]; rfl
  exact this _
theorem ln_pc0 {S : Nat} (hS : S < 4096) (h : ln_pc S = 0) : S = 0 := by
  refine Classical.byContradiction (fun hn => ?_)
  have := ln_pc_lt (S := 0) (T := S) (fun i q => by rw [Nat.zero_testBit] at q; exact absurd q (by decide)) hS (fun q => hn q.symm)
  omega
theorem ln_st_grow {N : ln_N} (hW : ln_wf N) {r S : Nat} (hS : S < 2 ^ N 0 0) (j0 : Nat) (hj : r ≠ 2 ∨ 1 ≤ j0) (m : Nat) (h : ln_st N r S (j0 + m + 1) ≠ ln_st N r S (j0 + m)) : ln_pc (ln_st N r S j0) + m + 1 ≤ ln_pc (ln_st N r S (j0 + m + 1)) := by
  have key : ∀ k, k ≤ m → ln_pc (ln_st N r S j0) + k + 1 ≤ ln_pc (ln_st N r S (j0 + k + 1)) := by
    intro k hk
    have hne : ln_st N r S (j0 + k) ≠ ln_st N r S (j0 + k + 1) := fun q => by
      refine h (ln_st_stab (j := j0 + k) (by omega) q.symm (j0 + m) (by omega))
    have hlt := ln_pc_lt (S := ln_st N r S (j0 + k)) (T := ln_st N r S (j0 + k + 1)) (ln_sb_tk N r _ _) (ln_st12 hW r hS _) hne
    induction k with
    | zero => exact Nat.succ_le_of_lt (by simpa using hlt)
    | succ k ih =>
      have h1 := ih (by omega) (fun q => h (ln_st_stab (j := j0 + k) (by omega) q.symm (j0 + m) (by omega)))
        (ln_pc_lt (S := ln_st N r S (j0 + k)) (T := ln_st N r S (j0 + k + 1)) (ln_sb_tk N r _ _) (ln_st12 hW r hS _) (fun q => h (ln_st_stab (j := j0 + k) (by omega) q.symm (j0 + m) (by omega))))
      rw [show j0 + (k + 1) = j0 + k + 1 by omega] at hlt ⊢
      omega
  exact key m (Nat.le_refl m)
theorem ln_st_fix {N : ln_N} (hW : ln_wf N) {r S : Nat} (hS : S < 2 ^ N 0 0) : ∀ k, 12 ≤ k → ln_st N r S (k + 1) = ln_st N r S k := by
  have h12 : ln_st N r S 13 = ln_st N r S 12 := by
    refine Classical.byContradiction (fun hn => ?_)
    by_cases hr : r = 2
    · have h1 := ln_st_grow hW hS 1 (Or.inr (Nat.le_refl 1)) 11 hn
      have h2 := ln_pc_le (ln_st N r S (1 + 11 + 1))
      have h0 : ln_st N r S 1 = 0 := ln_pc0 (ln_st12 hW r hS 1) (by omega)
      have h3 : ln_st N r S 2 = ln_st N r S 1 := by
        show ln_tk N r 2 (ln_st N r S 1) = _
        rw [h0]
        unfold ln_tk ln_tp
        rw [if_neg (by omega), if_neg (by omega), ln_tF0]
      exact hn (ln_st_stab (j := 1) (Or.inr (Nat.le_refl 1)) h3 12 (by decide))
    · have h1 := ln_st_grow hW hS 0 (Or.inl hr) 12 (by simpa using hn)
      have h2 := ln_pc_le (ln_st N r S (0 + 12 + 1))
      omega
  intro k hk
  exact ln_st_stab (j := 12) (Or.inr (by decide)) h12 k hk
theorem ln_st_const {N : ln_N} {r S j : Nat} (h : ∀ k, j ≤ k → ln_st N r S (k + 1) = ln_st N r S k) : ∀ m, ln_st N r S (j + m) = ln_st N r S j
  | 0 => rfl
  | m + 1 => by rw [← Nat.add_assoc, h _ (by omega), ln_st_const h m]
/-- a stop at t: all is as at the end -/
theorem ln_stop {N : ln_N} {r S t : Nat} (ht : t ≤ 12) (hr : r ≠ 2 ∨ 1 ≤ t) (h : ln_st N r S (t + 1) = ln_st N r S t) : ln_lc (ln_st N r S) t = ln_et N r S ∧ ln_st N r S t = ln_end N r S := by
  have h1 := ln_st_stab hr h
  have h2 := ln_lc_stab h1 (13 - t)
  have h3 := ln_st_const h1 (13 - t)
  rw [show t + (13 - t) = 13 by omega] at h2 h3
  exact ⟨h2.symm, h3.symm⟩
/-- what a course leaves in its row -/
def ln_ran (N : ln_N) (r S : Nat) (f : Nat → Int32) (e : Int32) : Prop := e = nI (ln_et N r S) ∧ ∀ j, j ≤ ln_et N r S → f j = nI (ln_st N r S j)
theorem ln_nC.of {N : ln_N} {σ τ : ln_S} (h : ln_nC N σ) (ho : ∀ c, c < 7 ∨ (25 ≤ c ∧ c < 37) → τ c = σ c) : ln_nC N τ := by
  refine ⟨by rw [ho 1 (by omega)]; exact h.1, fun p hp => ?_⟩
  rw [ho 2 (by omega), ho 3 (by omega), ho 5 (by omega), ho 6 (by omega), ho (25 + p) (by omega)]
  exact h.2 p hp
theorem ln_nM.of {N : ln_N} {σ τ : ln_S} (h : ln_nM N σ) (h0 : τ 0 0 = σ 0 0) (ho : ∀ c, 1 ≤ c → c < 5 → τ c = σ c) : ln_nM N τ := by
  refine ⟨by rw [h0]; exact h.1, fun p hp => ?_⟩
  rw [ho 1 (by omega) (by omega), ho 2 (by omega) (by omega), ho 3 (by omega) (by omega), ho 4 (by omega) (by omega)]
  exact h.2 p hp
set_option maxHeartbeats 4000000 in
set_option maxRecDepth 100000 in
theorem c_J6_bitCount_0f7a4 (l : Launch) (D : va_G) (g : Nat → ClassId) (d : Nat) (S : Nat) (hS : S < 4096) (hd : 0 ≤ d) : ln_R l D g [] yJ6_bitCount_0f7a4 (.code yJ6_bitCount_0f7a4 cJ6_bitCount_0f7a4 1 (some .int)) d [.int (nI S)] (fun r => r = nI (ln_pc S)) := by
  refine ln_ofR (by decide +kernel) (Nat.le_of_ble_eq_true rfl) (fun prg env rum sta mid args below meth cod ls hr hlk X hP hl => ?_)
  have hl : lv_has ls 1 [(0, .int (nI S))] := hl
  generalize hQ0 : (MQ below (vp_Si (fun r => r = nI (ln_pc S))) args sta 0 0 (fun _ => False)) = Q0
  refine lv_iload_n X.1 X.2.1 dJ6_bitCount_0f7a4_0 rfl (lv_at hl 0 rfl) ?_
  refine lv_iload_n X.1 X.2.1 dJ6_bitCount_0f7a4_1 rfl (lv_at hl 0 rfl) ?_
  refine lv_iconst (v := nI 1) X.1 X.2.1 dJ6_bitCount_0f7a4_2 (by decide) ?_
  refine lv_iushr (v := ((nI S).toUInt32 >>> ((nI 1).toUInt32 &&& Int32.toUInt32 31)).toInt32) X.1 X.2.1 dJ6_bitCount_0f7a4_3 rfl ?_
  refine lv_ldcw (v := 1431655765) X.1 X.2.1 X.2.2.2.1 (X.ts args mK_J6_265 rfl) dJ6_bitCount_0f7a4_4 ?_
  refine lv_iand X.1 X.2.1 dJ6_bitCount_0f7a4_7 ?_
  refine lv_isub X.1 X.2.1 dJ6_bitCount_0f7a4_8 ?_
  refine lv_topi (fun x1 e1 => ?_)
  refine lv_istore_n (lv' := [(0, .int x1)]) X.1 X.2.1 dJ6_bitCount_0f7a4_9 rfl hl (by decide) rfl (fun ls hl => ?_)
  refine lv_iload_n X.1 X.2.1 dJ6_bitCount_0f7a4_10 rfl (lv_at hl 0 rfl) ?_
  refine lv_ldcw (v := 858993459) X.1 X.2.1 X.2.2.2.1 (X.ts args mK_J6_266 rfl) dJ6_bitCount_0f7a4_11 ?_
  refine lv_iand X.1 X.2.1 dJ6_bitCount_0f7a4_14 ?_
  refine lv_iload_n X.1 X.2.1 dJ6_bitCount_0f7a4_15 rfl (lv_at hl 0 rfl) ?_
  refine lv_iconst (v := nI 2) X.1 X.2.1 dJ6_bitCount_0f7a4_16 (by decide) ?_
  refine lv_iushr (v := (x1.toUInt32 >>> ((nI 2).toUInt32 &&& Int32.toUInt32 31)).toInt32) X.1 X.2.1 dJ6_bitCount_0f7a4_17 rfl ?_
  refine lv_ldcw (v := 858993459) X.1 X.2.1 X.2.2.2.1 (X.ts args mK_J6_266 rfl) dJ6_bitCount_0f7a4_18 ?_
  refine lv_iand X.1 X.2.1 dJ6_bitCount_0f7a4_21 ?_
  refine lv_iadd X.1 X.2.1 dJ6_bitCount_0f7a4_22 ?_
  refine lv_topi (fun x2 e2 => ?_)
  refine lv_istore_n (lv' := [(0, .int x2)]) X.1 X.2.1 dJ6_bitCount_0f7a4_23 rfl hl (by decide) rfl (fun ls hl => ?_)
  refine lv_iload_n X.1 X.2.1 dJ6_bitCount_0f7a4_24 rfl (lv_at hl 0 rfl) ?_
  refine lv_iload_n X.1 X.2.1 dJ6_bitCount_0f7a4_25 rfl (lv_at hl 0 rfl) ?_
  refine lv_iconst (v := nI 4) X.1 X.2.1 dJ6_bitCount_0f7a4_26 (by decide) ?_
  refine lv_iushr (v := (x2.toUInt32 >>> ((nI 4).toUInt32 &&& Int32.toUInt32 31)).toInt32) X.1 X.2.1 dJ6_bitCount_0f7a4_27 rfl ?_
  refine lv_iadd X.1 X.2.1 dJ6_bitCount_0f7a4_28 ?_
  refine lv_ldcw (v := 252645135) X.1 X.2.1 X.2.2.2.1 (X.ts args mK_J6_267 rfl) dJ6_bitCount_0f7a4_29 ?_
  refine lv_iand X.1 X.2.1 dJ6_bitCount_0f7a4_32 ?_
  refine lv_topi (fun x3 e3 => ?_)
  refine lv_istore_n (lv' := [(0, .int x3)]) X.1 X.2.1 dJ6_bitCount_0f7a4_33 rfl hl (by decide) rfl (fun ls hl => ?_)
  refine lv_iload_n X.1 X.2.1 dJ6_bitCount_0f7a4_34 rfl (lv_at hl 0 rfl) ?_
  refine lv_iload_n X.1 X.2.1 dJ6_bitCount_0f7a4_35 rfl (lv_at hl 0 rfl) ?_
  refine lv_bipush (v := nI 8) X.1 X.2.1 dJ6_bitCount_0f7a4_36 (by decide) ?_
  refine lv_iushr (v := (x3.toUInt32 >>> ((nI 8).toUInt32 &&& Int32.toUInt32 31)).toInt32) X.1 X.2.1 dJ6_bitCount_0f7a4_38 rfl ?_
  refine lv_iadd X.1 X.2.1 dJ6_bitCount_0f7a4_39 ?_
  refine lv_topi (fun x4 e4 => ?_)
  refine lv_istore_n (lv' := [(0, .int x4)]) X.1 X.2.1 dJ6_bitCount_0f7a4_40 rfl hl (by decide) rfl (fun ls hl => ?_)
  refine lv_iload_n X.1 X.2.1 dJ6_bitCount_0f7a4_41 rfl (lv_at hl 0 rfl) ?_
  refine lv_iload_n X.1 X.2.1 dJ6_bitCount_0f7a4_42 rfl (lv_at hl 0 rfl) ?_
  refine lv_bipush (v := nI 16) X.1 X.2.1 dJ6_bitCount_0f7a4_43 (by decide) ?_
  refine lv_iushr (v := (x4.toUInt32 >>> ((nI 16).toUInt32 &&& Int32.toUInt32 31)).toInt32) X.1 X.2.1 dJ6_bitCount_0f7a4_45 rfl ?_
  refine lv_iadd X.1 X.2.1 dJ6_bitCount_0f7a4_46 ?_
  refine lv_topi (fun x5 e5 => ?_)
  refine lv_istore_n (lv' := [(0, .int x5)]) X.1 X.2.1 dJ6_bitCount_0f7a4_47 rfl hl (by decide) rfl (fun ls hl => ?_)
  refine lv_iload_n X.1 X.2.1 dJ6_bitCount_0f7a4_48 rfl (lv_at hl 0 rfl) ?_
  refine lv_bipush (v := nI 63) X.1 X.2.1 dJ6_bitCount_0f7a4_49 (by decide) ?_
  refine lv_iand X.1 X.2.1 dJ6_bitCount_0f7a4_51 ?_
  subst e5 e4 e3 e2 e1
  subst hQ0
  exact ln_retR X hr hlk rfl (ln_bc_ok hS) dJ6_bitCount_0f7a4_52
set_option maxHeartbeats 4000000 in
set_option maxRecDepth 100000 in
theorem c_X6_afterTickOfBars (l : Launch) (D : va_G) (g : Nat → ClassId) (a : Nat → Nat) (σ : ln_S) (d : Nat) (N : ln_N) (hW : ln_wf N) (hN : ln_nC N σ) (S : Nat) (hS : S < 4096) (hd : 1 ≤ d) : ln_R l D g (CW a g σ) yX6_afterTickOfBars (.code yX6_afterTickOfBars cX6_afterTickOfBars 4 (some .int)) d [.ref (a 7), .int (nI S)] (fun r => r = nI (ln_tB N S)) := by
  have hN12 := hW.n12
  have hp12 := hW.p12
  have hwl := fun p => ln_wt_le hW S p (N 0 0)
  refine ln_ofR (by decide +kernel) (Nat.le_of_ble_eq_true rfl) (fun prg env rum sta mid args below meth cod ls hr hlk X hP hl => ?_)
  have hl : lv_has ls 4 [(0, .ref (a 7)), (1, .int (nI S))] := hl
  generalize hQ0 : (MQ below (vp_Si (fun r => r = nI (ln_tB N S))) args sta 0 0 (fun _ => False)) = Q0
  refine lv_iload_n X.1 X.2.1 dX6_afterTickOfBars_0 rfl (lv_at hl 1 rfl) ?_
  refine lv_istore_n (lv' := [(2, .int (nI S)), (0, .ref (a 7)), (1, .int (nI S))]) X.1 X.2.1 dX6_afterTickOfBars_1 rfl hl (by decide) rfl (fun ls hl => ?_)
  refine lv_iconst (v := nI 0) X.1 X.2.1 dX6_afterTickOfBars_2 (by decide) ?_
  refine lv_istore_n (lv' := [(3, .int (nI 0)), (2, .int (nI S)), (0, .ref (a 7)), (1, .int (nI S))]) X.1 X.2.1 dX6_afterTickOfBars_3 rfl hl (by decide) rfl (fun ls hl => ?_)
  have L4 : ∀ (K : Nat) (p : Nat) (x : Nat), N 0 0 - p < K → p ≤ N 0 0 → x < 4096 → x = S ||| ln_oru (ln_tBf N S) p → ∀ ls : Array Slot, lv_has ls 4 [(0, .ref (a 7)), (1, .int (nI S)), (2, .int (nI x)), (3, .int (nI p))] → W prg l env rum sta mid args below meth cod sta.heap [] 0 0 Q0 (F0 mid 4 ls []) := by
    intro K
    induction K with
    | zero => intro p x hm; exact absurd hm (Nat.not_lt_zero _)
    | succ K ih4 =>
      intro p x hm4 hp hxb hx ls hl
      refine lv_iload_n X.1 X.2.1 dX6_afterTickOfBars_4 rfl (lv_at hl 3 rfl) ?_
      refine lv_aload_n X.1 X.2.1 dX6_afterTickOfBars_5 rfl (lv_at hl 0 rfl) ?_
      refine gC_7_0 X hP mF_X6_20 dX6_afterTickOfBars_6 ?_
      refine nC_1_0 X hP (v := nI (N 0 0)) hN.n mF_X6_31 dX6_afterTickOfBars_9 ?_
      refine rn_ge X (by omega) (by omega) (tgt := 56) dX6_afterTickOfBars_12 (by decide) (fun h12 => ?_) (fun h12 => ?_)
      · skip
        refine lv_iload_n X.1 X.2.1 dX6_afterTickOfBars_56 rfl (lv_at hl 2 rfl) ?_
        subst hQ0
        exact ln_retR X hr hlk rfl (by rw [hx, show p = N 0 0 by omega]; rfl) dX6_afterTickOfBars_57
      · skip
        refine lv_iload_n X.1 X.2.1 dX6_afterTickOfBars_15 rfl (lv_at hl 1 rfl) ?_
        refine lv_iload_n X.1 X.2.1 dX6_afterTickOfBars_16 rfl (lv_at hl 3 rfl) ?_
        refine ln_nR X (c_X9_hasPost l D g 0 S p (ln_31 hS) (by omega) (Nat.le_refl _)) ln_nil mM_X6_37 Y_X9_hasPost rfl (by omega) hl.1 rfl (Nat.le_of_ble_eq_true rfl) dX6_afterTickOfBars_17 ⟨Nat.zero_le _, Nat.zero_le _⟩ (fun r17 hr17 => ?_)
        subst hr17
        refine rn_neB X (tgt := 50) dX6_afterTickOfBars_20 (by decide) (fun h20 => ?_) (fun h20 => ?_)
        · skip
          refine lv_iinc (v := nI (p + 1)) (lv' := [(3, .int (nI (p + 1))), (0, .ref (a 7)), (1, .int (nI S)), (2, .int (nI x))]) X.1 X.2.1 dX6_afterTickOfBars_50 hl (k := 3) rfl rn_inc (by decide) rfl (fun ls hl => ?_)
          refine lv_goto (tgt := 4) X.1 X.2.1 dX6_afterTickOfBars_53 (by decide) ?_
          exact ih4 (p + 1) _ (by omega) (by omega) (by first | exact hxb | exact ln_or12 hxb (ln_p12 (by omega))) (by first | exact ln_or0 hx (ln_tBf_a h20) | exact ln_or0 hx (ln_tBf_b h41) | exact ln_or1 hx (ln_tBf_c h20 h41)) ls (lv_sub hl [1, 2, 3, 0] rfl)
        · skip
          refine lv_aload_n X.1 X.2.1 dX6_afterTickOfBars_23 rfl (lv_at hl 0 rfl) ?_
          refine gC_7_0 X hP mF_X6_20 dX6_afterTickOfBars_24 ?_
          refine lv_iload_n X.1 X.2.1 dX6_afterTickOfBars_27 rfl (lv_at hl 3 rfl) ?_
          refine lv_iload_n X.1 X.2.1 dX6_afterTickOfBars_28 rfl (lv_at hl 1 rfl) ?_
          refine ln_vR X (c_X4_weightOnto l D g a σ 0 N hW hN p S (by omega) hS (Nat.le_refl _)) hP 1 rfl rfl mM_X6_41 Y_X4_weightOnto rfl (by omega) hl.1 rfl (Nat.le_of_ble_eq_true rfl) dX6_afterTickOfBars_29 ⟨Nat.zero_le _, Nat.zero_le _⟩ (fun r29 hr29 => ?_)
          subst hr29
          refine lv_aload_n X.1 X.2.1 dX6_afterTickOfBars_32 rfl (lv_at hl 0 rfl) ?_
          refine gC_7_0 X hP mF_X6_20 dX6_afterTickOfBars_33 ?_
          refine nC_1_3 X hP mF_X6_45 dX6_afterTickOfBars_36 ?_
          refine lv_iload_n X.1 X.2.1 dX6_afterTickOfBars_39 rfl (lv_at hl 3 rfl) ?_
          refine lC_2 X hP (by omega) (v := nI (N 1 p)) (hN.b (by omega)) dX6_afterTickOfBars_40 ?_
          refine rn_lt X (by have := hwl p; omega) (ln_31 (hW.b12 _)) (tgt := 50) dX6_afterTickOfBars_41 (by decide) (fun h41 => ?_) (fun h41 => ?_)
          · skip
            refine lv_iinc (v := nI (p + 1)) (lv' := [(3, .int (nI (p + 1))), (0, .ref (a 7)), (1, .int (nI S)), (2, .int (nI x))]) X.1 X.2.1 dX6_afterTickOfBars_50 hl (k := 3) rfl rn_inc (by decide) rfl (fun ls hl => ?_)
            refine lv_goto (tgt := 4) X.1 X.2.1 dX6_afterTickOfBars_53 (by decide) ?_
            exact ih4 (p + 1) _ (by omega) (by omega) (by first | exact hxb | exact ln_or12 hxb (ln_p12 (by omega))) (by first | exact ln_or0 hx (ln_tBf_a h20) | exact ln_or0 hx (ln_tBf_b h41) | exact ln_or1 hx (ln_tBf_c h20 h41)) ls (lv_sub hl [1, 2, 3, 0] rfl)
          · skip
            refine lv_iload_n X.1 X.2.1 dX6_afterTickOfBars_44 rfl (lv_at hl 2 rfl) ?_
            refine lv_iconst (v := nI 1) X.1 X.2.1 dX6_afterTickOfBars_45 (by decide) ?_
            refine lv_iload_n X.1 X.2.1 dX6_afterTickOfBars_46 rfl (lv_at hl 3 rfl) ?_
            refine rn_shl X (by omega) dX6_afterTickOfBars_47 ?_
            refine rn_or X dX6_afterTickOfBars_48 ?_
            refine lv_istore_n (lv' := [(2, .int (nI (x ||| (2 ^ p)))), (0, .ref (a 7)), (1, .int (nI S)), (3, .int (nI p))]) X.1 X.2.1 dX6_afterTickOfBars_49 rfl hl (by decide) rfl (fun ls hl => ?_)
            refine lv_iinc (v := nI (p + 1)) (lv' := [(3, .int (nI (p + 1))), (2, .int (nI (x ||| (2 ^ p)))), (0, .ref (a 7)), (1, .int (nI S))]) X.1 X.2.1 dX6_afterTickOfBars_50 hl (k := 3) rfl rn_inc (by decide) rfl (fun ls hl => ?_)
            refine lv_goto (tgt := 4) X.1 X.2.1 dX6_afterTickOfBars_53 (by decide) ?_
            exact ih4 (p + 1) _ (by omega) (by omega) (by first | exact hxb | exact ln_or12 hxb (ln_p12 (by omega))) (by first | exact ln_or0 hx (ln_tBf_a h20) | exact ln_or0 hx (ln_tBf_b h41) | exact ln_or1 hx (ln_tBf_c h20 h41)) ls (lv_sub hl [2, 3, 1, 0] rfl)
  exact L4 _ 0 S (Nat.lt_succ_self _) (Nat.zero_le _) hS (by rw [show ln_oru (ln_tBf N S) 0 = 0 from rfl, Nat.or_zero]) ls (lv_sub hl [2, 3, 1, 0] rfl)
set_option maxHeartbeats 4000000 in
set_option maxRecDepth 100000 in
theorem c_X6_afterTickOfForced (l : Launch) (D : va_G) (g : Nat → ClassId) (a : Nat → Nat) (σ : ln_S) (d : Nat) (N : ln_N) (hW : ln_wf N) (hN : ln_nC N σ) (S : Nat) (hS : S < 4096) (hd : 1 ≤ d) : ln_R l D g (CW a g σ) yX6_afterTickOfForced (.code yX6_afterTickOfForced cX6_afterTickOfForced 6 (some .int)) d [.ref (a 7), .int (nI S)] (fun r => r = nI (ln_tF N S)) := by
  have hN12 := hW.n12
  have hp12 := hW.p12
  refine ln_ofR (by decide +kernel) (Nat.le_of_ble_eq_true rfl) (fun prg env rum sta mid args below meth cod ls hr hlk X hP hl => ?_)
  have hl : lv_has ls 6 [(0, .ref (a 7)), (1, .int (nI S))] := hl
  generalize hQ0 : (MQ below (vp_Si (fun r => r = nI (ln_tF N S))) args sta 0 0 (fun _ => False)) = Q0
  refine lv_iload_n X.1 X.2.1 dX6_afterTickOfForced_0 rfl (lv_at hl 1 rfl) ?_
  refine lv_istore_n (lv' := [(2, .int (nI S)), (0, .ref (a 7)), (1, .int (nI S))]) X.1 X.2.1 dX6_afterTickOfForced_1 rfl hl (by decide) rfl (fun ls hl => ?_)
  refine lv_iconst (v := nI 0) X.1 X.2.1 dX6_afterTickOfForced_2 (by decide) ?_
  refine lv_istore_n (lv' := [(3, .int (nI 0)), (2, .int (nI S)), (0, .ref (a 7)), (1, .int (nI S))]) X.1 X.2.1 dX6_afterTickOfForced_3 rfl hl (by decide) rfl (fun ls hl => ?_)
  have L4 : ∀ (K : Nat) (p : Nat) (x : Nat), N 0 0 - p < K → p ≤ N 0 0 → x < 4096 → x = S ||| ln_oru (ln_tFf N S) p → ∀ ls : Array Slot, lv_has ls 6 [(0, .ref (a 7)), (1, .int (nI S)), (2, .int (nI x)), (3, .int (nI p))] → W prg l env rum sta mid args below meth cod sta.heap [] 0 0 Q0 (F0 mid 4 ls []) := by
    intro K
    induction K with
    | zero => intro p x hm; exact absurd hm (Nat.not_lt_zero _)
    | succ K ih4 =>
      intro p x hm4 hp hxb hx ls hl
      refine lv_iload_n X.1 X.2.1 dX6_afterTickOfForced_4 rfl (lv_at hl 3 rfl) ?_
      refine lv_aload_n X.1 X.2.1 dX6_afterTickOfForced_5 rfl (lv_at hl 0 rfl) ?_
      refine gC_7_0 X hP mF_X6_20 dX6_afterTickOfForced_6 ?_
      refine nC_1_0 X hP (v := nI (N 0 0)) hN.n mF_X6_31 dX6_afterTickOfForced_9 ?_
      refine rn_ge X (by omega) (by omega) (tgt := 71) dX6_afterTickOfForced_12 (by decide) (fun h12 => ?_) (fun h12 => ?_)
      · skip
        refine lv_iload_n X.1 X.2.1 dX6_afterTickOfForced_71 rfl (lv_at hl 2 rfl) ?_
        subst hQ0
        exact ln_retR X hr hlk rfl (by rw [hx, show p = N 0 0 by omega]; rfl) dX6_afterTickOfForced_72
      · skip
        refine lv_aload_n X.1 X.2.1 dX6_afterTickOfForced_15 rfl (lv_at hl 0 rfl) ?_
        refine gC_7_0 X hP mF_X6_20 dX6_afterTickOfForced_16 ?_
        refine nC_1_6 X hP mF_X6_48 dX6_afterTickOfForced_19 ?_
        refine lv_iload_n X.1 X.2.1 dX6_afterTickOfForced_22 rfl (lv_at hl 3 rfl) ?_
        refine lC_5 X hP (by omega) (v := nI (N 3 p)) (hN.bh (by omega)) dX6_afterTickOfForced_23 ?_
        refine lv_iload_n X.1 X.2.1 dX6_afterTickOfForced_24 rfl (lv_at hl 1 rfl) ?_
        refine lv_iconst (v := ((-1))) X.1 X.2.1 dX6_afterTickOfForced_25 (by decide) ?_
        refine lv_ixor X.1 X.2.1 dX6_afterTickOfForced_26 ?_
        refine rn_nt X dX6_afterTickOfForced_27 ?_
        refine lv_istore (lv' := [(4, .int (nI (ln_df (N 3 p) S))), (0, .ref (a 7)), (1, .int (nI S)), (2, .int (nI x)), (3, .int (nI p))]) X.1 X.2.1 dX6_afterTickOfForced_28 hl (by decide) rfl (fun ls hl => ?_)
        refine lv_iload X.1 X.2.1 dX6_afterTickOfForced_30 (lv_at hl 0 rfl) ?_
        refine lv_iload X.1 X.2.1 dX6_afterTickOfForced_32 (lv_at hl 0 rfl) ?_
        refine lv_iconst (v := nI 1) X.1 X.2.1 dX6_afterTickOfForced_34 (by decide) ?_
        refine lv_isub X.1 X.2.1 dX6_afterTickOfForced_35 ?_
        refine rn_dec X dX6_afterTickOfForced_36 ?_
        refine rn_ne0 X (ln_31 (ln_and_lt (ln_df_lt (hW.bh12 _)))) (tgt := 44) dX6_afterTickOfForced_37 (by decide) (fun h37 => ?_) (fun h37 => ?_)
        · skip
          refine lv_iconst (v := nI 0) X.1 X.2.1 dX6_afterTickOfForced_44 (by decide) ?_
          refine lv_istore (lv' := [(5, .int (nI 0)), (4, .int (nI (ln_df (N 3 p) S))), (0, .ref (a 7)), (1, .int (nI S)), (2, .int (nI x)), (3, .int (nI p))]) X.1 X.2.1 dX6_afterTickOfForced_45 hl (by decide) rfl (fun ls hl => ?_)
          refine lv_iload X.1 X.2.1 dX6_afterTickOfForced_47 (lv_at hl 0 rfl) ?_
          refine rn_eq0 X (by decide) (tgt := 65) dX6_afterTickOfForced_49 (by decide) (fun _ => ?_) (fun q => absurd (q) (by decide))
          refine lv_iinc (v := nI (p + 1)) (lv' := [(3, .int (nI (p + 1))), (5, .int (nI 0)), (4, .int (nI (ln_df (N 3 p) S))), (0, .ref (a 7)), (1, .int (nI S)), (2, .int (nI x))]) X.1 X.2.1 dX6_afterTickOfForced_65 hl (k := 5) rfl rn_inc (by decide) rfl (fun ls hl => ?_)
          refine lv_goto (tgt := 4) X.1 X.2.1 dX6_afterTickOfForced_68 (by decide) ?_
          exact ih4 (p + 1) _ (by omega) (by omega) (by first | exact hxb | exact ln_or12 hxb (ln_df12 (hW.bh12 _))) (by first | exact ln_or0 hx (ln_tFf_a h57) | exact ln_or0 hx (ln_tFf_b h37) | exact ln_or1 hx (ln_tFf_c h57 h37)) ls (lv_sub hl [3, 4, 5, 0] rfl)
        · skip
          refine lv_iconst (v := nI 1) X.1 X.2.1 dX6_afterTickOfForced_40 (by decide) ?_
          refine lv_goto (tgt := 45) X.1 X.2.1 dX6_afterTickOfForced_41 (by decide) ?_
          refine lv_istore (lv' := [(5, .int (nI 1)), (4, .int (nI (ln_df (N 3 p) S))), (0, .ref (a 7)), (1, .int (nI S)), (2, .int (nI x)), (3, .int (nI p))]) X.1 X.2.1 dX6_afterTickOfForced_45 hl (by decide) rfl (fun ls hl => ?_)
          refine lv_iload X.1 X.2.1 dX6_afterTickOfForced_47 (lv_at hl 0 rfl) ?_
          refine rn_eq0 X (by decide) (tgt := 65) dX6_afterTickOfForced_49 (by decide) (fun q => absurd q (by decide)) (fun _ => ?_)
          refine lv_iload_n X.1 X.2.1 dX6_afterTickOfForced_52 rfl (lv_at hl 3 rfl) ?_
          refine lv_iload_n X.1 X.2.1 dX6_afterTickOfForced_53 rfl (lv_at hl 5 rfl) ?_
          refine ln_nR X (c_X9_hasPost l D g 0 S p (ln_31 hS) (by omega) (Nat.le_refl _)) ln_nil mM_X6_37 Y_X9_hasPost rfl (by omega) hl.1 rfl (Nat.le_of_ble_eq_true rfl) dX6_afterTickOfForced_54 ⟨Nat.zero_le _, Nat.zero_le _⟩ (fun r54 hr54 => ?_)
          subst hr54
          refine rn_eqB X (tgt := 65) dX6_afterTickOfForced_57 (by decide) (fun h57 => ?_) (fun h57 => ?_)
          · skip
            refine lv_iinc (v := nI (p + 1)) (lv' := [(3, .int (nI (p + 1))), (5, .int (nI 1)), (4, .int (nI (ln_df (N 3 p) S))), (0, .ref (a 7)), (1, .int (nI S)), (2, .int (nI x))]) X.1 X.2.1 dX6_afterTickOfForced_65 hl (k := 5) rfl rn_inc (by decide) rfl (fun ls hl => ?_)
            refine lv_goto (tgt := 4) X.1 X.2.1 dX6_afterTickOfForced_68 (by decide) ?_
            exact ih4 (p + 1) _ (by omega) (by omega) (by first | exact hxb | exact ln_or12 hxb (ln_df12 (hW.bh12 _))) (by first | exact ln_or0 hx (ln_tFf_a h57) | exact ln_or0 hx (ln_tFf_b h37) | exact ln_or1 hx (ln_tFf_c h57 h37)) ls (lv_sub hl [3, 4, 5, 0] rfl)
          · skip
            refine lv_iload_n X.1 X.2.1 dX6_afterTickOfForced_60 rfl (lv_at hl 4 rfl) ?_
            refine lv_iload X.1 X.2.1 dX6_afterTickOfForced_61 (lv_at hl 1 rfl) ?_
            refine rn_or X dX6_afterTickOfForced_63 ?_
            refine lv_istore_n (lv' := [(2, .int (nI (x ||| (ln_df (N 3 p) S)))), (5, .int (nI 1)), (4, .int (nI (ln_df (N 3 p) S))), (0, .ref (a 7)), (1, .int (nI S)), (3, .int (nI p))]) X.1 X.2.1 dX6_afterTickOfForced_64 rfl hl (by decide) rfl (fun ls hl => ?_)
            refine lv_iinc (v := nI (p + 1)) (lv' := [(3, .int (nI (p + 1))), (2, .int (nI (x ||| (ln_df (N 3 p) S)))), (5, .int (nI 1)), (4, .int (nI (ln_df (N 3 p) S))), (0, .ref (a 7)), (1, .int (nI S))]) X.1 X.2.1 dX6_afterTickOfForced_65 hl (k := 5) rfl rn_inc (by decide) rfl (fun ls hl => ?_)
            refine lv_goto (tgt := 4) X.1 X.2.1 dX6_afterTickOfForced_68 (by decide) ?_
            exact ih4 (p + 1) _ (by omega) (by omega) (by first | exact hxb | exact ln_or12 hxb (ln_df12 (hW.bh12 _))) (by first | exact ln_or0 hx (ln_tFf_a h57) | exact ln_or0 hx (ln_tFf_b h37) | exact ln_or1 hx (ln_tFf_c h57 h37)) ls (lv_sub hl [4, 5, 1, 0] rfl)
  exact L4 _ 0 S (Nat.lt_succ_self _) (Nat.zero_le _) hS (by rw [show ln_oru (ln_tFf N S) 0 = 0 from rfl, Nat.or_zero]) ls (lv_sub hl [2, 3, 1, 0] rfl)
set_option maxHeartbeats 4000000 in
set_option maxRecDepth 100000 in
theorem c_X6_afterTick (l : Launch) (D : va_G) (g : Nat → ClassId) (a : Nat → Nat) (σ : ln_S) (d : Nat) (N : ln_N) (hW : ln_wf N) (hN : ln_nC N σ) (r S : Nat) (hr3 : r < 3) (hS : S < 4096) (hd : 2 ≤ d) : ln_R l D g (CW a g σ) yX6_afterTick (.code yX6_afterTick cX6_afterTick 3 (some .int)) d [.ref (a 7), .int (nI r), .int (nI S)] (fun z => z = nI (ln_tp N r S)) := by
  have hN12 := hW.n12
  have hp12 := hW.p12
  refine ln_ofR (by decide +kernel) (Nat.le_of_ble_eq_true rfl) (fun prg env rum sta mid args below meth cod ls hr hlk X hP hl => ?_)
  have hl : lv_has ls 3 [(0, .ref (a 7)), (1, .int (nI r)), (2, .int (nI S))] := hl
  generalize hQ0 : (MQ below (vp_Si (fun z => z = nI (ln_tp N r S))) args sta 0 0 (fun _ => False)) = Q0
  refine lv_iload_n X.1 X.2.1 dX6_afterTick_0 rfl (lv_at hl 1 rfl) ?_
  refine rn_ne0 X (by omega) (tgt := 12) dX6_afterTick_1 (by decide) (fun h1 => ?_) (fun h1 => ?_)
  · skip
    refine lv_aload_n X.1 X.2.1 dX6_afterTick_12 rfl (lv_at hl 0 rfl) ?_
    refine lv_iload_n X.1 X.2.1 dX6_afterTick_13 rfl (lv_at hl 2 rfl) ?_
    refine ln_vR X (c_X6_afterTickOfForced l D g a σ 1 N hW hN S hS (Nat.le_refl _)) hP 7 rfl rfl mM_X6_28 Y_X6_afterTickOfForced rfl (by omega) hl.1 rfl (Nat.le_of_ble_eq_true rfl) dX6_afterTick_14 ⟨Nat.zero_le _, Nat.zero_le _⟩ (fun r14 hr14 => ?_)
    subst hr14
    subst hQ0
    exact ln_retR X hr hlk rfl (by unfold ln_tp; first | rw [if_neg h1] | rw [if_pos h1]) dX6_afterTick_17
  · skip
    refine lv_aload_n X.1 X.2.1 dX6_afterTick_4 rfl (lv_at hl 0 rfl) ?_
    refine lv_iload_n X.1 X.2.1 dX6_afterTick_5 rfl (lv_at hl 2 rfl) ?_
    refine ln_vR X (c_X6_afterTickOfBars l D g a σ 1 N hW hN S hS (Nat.le_refl _)) hP 7 rfl rfl mM_X6_24 Y_X6_afterTickOfBars rfl (by omega) hl.1 rfl (Nat.le_of_ble_eq_true rfl) dX6_afterTick_6 ⟨Nat.zero_le _, Nat.zero_le _⟩ (fun r6 hr6 => ?_)
    subst hr6
    refine lv_goto (tgt := 17) X.1 X.2.1 dX6_afterTick_9 (by decide) ?_
    subst hQ0
    exact ln_retR X hr hlk rfl (by unfold ln_tp; first | rw [if_neg h1] | rw [if_pos h1]) dX6_afterTick_17
set_option maxHeartbeats 4000000 in
set_option maxRecDepth 100000 in
theorem c_X10_tick (l : Launch) (D : va_G) (g : Nat → ClassId) (a : Nat → Nat) (σ : ln_S) (d : Nat) (N : ln_N) (hW : ln_wf N) (hN : ln_nM N σ) (r S t : Nat) (hr3 : r < 3) (hS : S < 4096) (ht : t < 4096) (hd : 2 ≤ d) : ln_R l D g (MW a g σ) yX10_tick (.code yX10_tick cX10_tick 8 (some .int)) d [.ref (a 0), .int (nI r), .int (nI S), .int (nI t)] (fun z => z = nI (ln_tk N r t S)) := by
  have hN12 := hW.n12
  have hp12 := hW.p12
  have hwl := fun p q => ln_wt_le hW S p q
  refine ln_ofR (by decide +kernel) (Nat.le_of_ble_eq_true rfl) (fun prg env rum sta mid args below meth cod ls hr hlk X hP hl => ?_)
  have hl : lv_has ls 8 [(0, .ref (a 0)), (1, .int (nI r)), (2, .int (nI S)), (3, .int (nI t))] := hl
  generalize hQ0 : (MQ below (vp_Si (fun z => z = nI (ln_tk N r t S))) args sta 0 0 (fun _ => False)) = Q0
  refine lv_iload_n X.1 X.2.1 dX10_tick_0 rfl (lv_at hl 1 rfl) ?_
  refine lv_iconst (v := nI 2) X.1 X.2.1 dX10_tick_1 (by decide) ?_
  refine rn_ne X (by omega) (by decide) (tgt := 18) dX10_tick_2 (by decide) (fun h2 => ?_) (fun h2 => ?_)
  · skip
    refine lv_iload_n X.1 X.2.1 dX10_tick_18 rfl (lv_at hl 2 rfl) ?_
    refine lv_istore (lv' := [(4, .int (nI S)), (0, .ref (a 0)), (1, .int (nI r)), (2, .int (nI S)), (3, .int (nI t))]) X.1 X.2.1 dX10_tick_19 hl (by decide) rfl (fun ls hl => ?_)
    refine lv_iload_n X.1 X.2.1 dX10_tick_21 rfl (lv_at hl 2 rfl) ?_
    refine rn_eq0 X (by omega) (tgt := 90) dX10_tick_22 (by decide) (fun h22 => ?_) (fun h22 => ?_)
    · skip
      refine lv_iconst (v := nI 0) X.1 X.2.1 dX10_tick_90 (by decide) ?_
      refine lv_istore (lv' := [(5, .int (nI 0)), (4, .int (nI S)), (0, .ref (a 0)), (1, .int (nI r)), (2, .int (nI S)), (3, .int (nI t))]) X.1 X.2.1 dX10_tick_91 hl (by decide) rfl (fun ls hl => ?_)
      have L93 : ∀ (K : Nat) (p : Nat) (x : Nat), N 0 0 - p < K → p ≤ N 0 0 → x < 4096 → x = S ||| ln_oru (ln_tBf N S) p → ∀ ls : Array Slot, lv_has ls 8 [(0, .ref (a 0)), (2, .int (nI S)), (4, .int (nI x)), (5, .int (nI p))] → W prg l env rum sta mid args below meth cod sta.heap [] 0 0 Q0 (F0 mid 93 ls []) := by
        intro K
        induction K with
        | zero => intro p x hm; exact absurd hm (Nat.not_lt_zero _)
        | succ K ih93 =>
          intro p x hm93 hp hxb hx ls hl
          refine lv_iload X.1 X.2.1 dX10_tick_93 (lv_at hl 3 rfl) ?_
          refine lv_aload_n X.1 X.2.1 dX10_tick_95 rfl (lv_at hl 0 rfl) ?_
          refine gM_0_0 X hP (v := nI (N 0 0)) hN.n mF_X10_48 dX10_tick_96 ?_
          refine rn_ge X (by omega) (by omega) (tgt := 193) dX10_tick_99 (by decide) (fun h99 => ?_) (fun h99 => ?_)
          · skip
            refine lv_iload X.1 X.2.1 dX10_tick_193 (lv_at hl 2 rfl) ?_
            subst hQ0
            exact ln_retR X hr hlk rfl (by unfold ln_tk ln_tp; rw [if_neg (by omega), if_pos h22, hx, show p = N 0 0 by omega]; rfl) dX10_tick_195
          · skip
            refine lv_iload_n X.1 X.2.1 dX10_tick_102 rfl (lv_at hl 1 rfl) ?_
            refine lv_iload X.1 X.2.1 dX10_tick_103 (lv_at hl 3 rfl) ?_
            refine ln_sR X (c_X10_has l D g 0 S p (ln_31 hS) (by omega) (Nat.le_refl _)) ln_nil mM_X10_70 Y_X10_has rfl (by omega) hl.1 rfl (Nat.le_of_ble_eq_true rfl) dX10_tick_105 ⟨Nat.zero_le _, Nat.zero_le _⟩ (fun r105 hr105 => ?_)
            subst hr105
            refine rn_eqB X (tgt := 114) dX10_tick_108 (by decide) (fun h108 => ?_) (fun h108 => ?_)
            · skip
              refine lv_iconst (v := nI 0) X.1 X.2.1 dX10_tick_114 (by decide) ?_
              refine lv_istore (lv' := [(6, .int (nI 0)), (0, .ref (a 0)), (2, .int (nI S)), (4, .int (nI x)), (5, .int (nI p))]) X.1 X.2.1 dX10_tick_115 hl (by decide) rfl (fun ls hl => ?_)
              refine lv_iconst (v := nI 0) X.1 X.2.1 dX10_tick_117 (by decide) ?_
              refine lv_istore (lv' := [(7, .int (nI 0)), (6, .int (nI 0)), (0, .ref (a 0)), (2, .int (nI S)), (4, .int (nI x)), (5, .int (nI p))]) X.1 X.2.1 dX10_tick_118 hl (by decide) rfl (fun ls hl => ?_)
              have L120 : ∀ (K : Nat) (q : Nat) (y : Nat), N 0 0 - q < K → q ≤ N 0 0 → y = ln_wt N S p q → ∀ ls : Array Slot, lv_has ls 8 [(0, .ref (a 0)), (2, .int (nI S)), (4, .int (nI x)), (5, .int (nI p)), (6, .int (nI y)), (7, .int (nI q))] → W prg l env rum sta mid args below meth cod sta.heap [] 0 0 Q0 (F0 mid 120 ls []) := by
                intro K
                induction K with
                | zero => intro q y hm; exact absurd hm (Nat.not_lt_zero _)
                | succ K ih120 =>
                  intro q y hm120 hq hy ls hl
                  refine lv_iload X.1 X.2.1 dX10_tick_120 (lv_at hl 5 rfl) ?_
                  refine lv_aload_n X.1 X.2.1 dX10_tick_122 rfl (lv_at hl 0 rfl) ?_
                  refine gM_0_0 X hP (v := nI (N 0 0)) hN.n mF_X10_48 dX10_tick_123 ?_
                  refine rn_ge X (by omega) (by omega) (tgt := 166) dX10_tick_126 (by decide) (fun h126 => ?_) (fun h126 => ?_)
                  · skip
                    have hy2 : y = ln_wt N S p (N 0 0) := by rw [hy, show q = N 0 0 by omega]
                    refine lv_iload X.1 X.2.1 dX10_tick_166 (lv_at hl 4 rfl) ?_
                    refine lv_aload_n X.1 X.2.1 dX10_tick_168 rfl (lv_at hl 0 rfl) ?_
                    refine gM_0_2 X hP mF_X10_13 dX10_tick_169 ?_
                    refine lv_iload X.1 X.2.1 dX10_tick_172 (lv_at hl 3 rfl) ?_
                    refine lM_2 X hP (by omega) (v := nI (N 1 p)) (hN.b (by omega)) dX10_tick_174 ?_
                    refine rn_lt X (by have := hwl p (N 0 0); omega) (ln_31 (hW.b12 _)) (tgt := 187) dX10_tick_175 (by decide) (fun h175 => ?_) (fun h175 => ?_)
                    · skip
                      refine lv_iinc (v := nI (p + 1)) (lv' := [(5, .int (nI (p + 1))), (0, .ref (a 0)), (2, .int (nI S)), (4, .int (nI x)), (6, .int (nI y)), (7, .int (nI q))]) X.1 X.2.1 dX10_tick_187 hl (k := 3) rfl rn_inc (by decide) rfl (fun ls hl => ?_)
                      refine lv_goto (tgt := 93) X.1 X.2.1 dX10_tick_190 (by decide) ?_
                      exact ih93 (p + 1) _ (by omega) (by omega) (by first | exact hxb | exact ln_or12 hxb (ln_p12 (by omega))) (by first | exact ln_or0 hx (ln_tBf_a h108) | exact ln_or0 hx (ln_tBf_b (hy2 ▸ h175)) | exact ln_or1 hx (ln_tBf_c h108 (hy2 ▸ h175))) ls (lv_sub hl [1, 2, 3, 0] rfl)
                    · skip
                      refine lv_iload X.1 X.2.1 dX10_tick_178 (lv_at hl 2 rfl) ?_
                      refine lv_iconst (v := nI 1) X.1 X.2.1 dX10_tick_180 (by decide) ?_
                      refine lv_iload X.1 X.2.1 dX10_tick_181 (lv_at hl 3 rfl) ?_
                      refine rn_shl X (by omega) dX10_tick_183 ?_
                      refine rn_or X dX10_tick_184 ?_
                      refine lv_istore (lv' := [(4, .int (nI (x ||| (2 ^ p)))), (0, .ref (a 0)), (2, .int (nI S)), (5, .int (nI p)), (6, .int (nI y)), (7, .int (nI q))]) X.1 X.2.1 dX10_tick_185 hl (by decide) rfl (fun ls hl => ?_)
                      refine lv_iinc (v := nI (p + 1)) (lv' := [(5, .int (nI (p + 1))), (4, .int (nI (x ||| (2 ^ p)))), (0, .ref (a 0)), (2, .int (nI S)), (6, .int (nI y)), (7, .int (nI q))]) X.1 X.2.1 dX10_tick_187 hl (k := 3) rfl rn_inc (by decide) rfl (fun ls hl => ?_)
                      refine lv_goto (tgt := 93) X.1 X.2.1 dX10_tick_190 (by decide) ?_
                      exact ih93 (p + 1) _ (by omega) (by omega) (by first | exact hxb | exact ln_or12 hxb (ln_p12 (by omega))) (by first | exact ln_or0 hx (ln_tBf_a h108) | exact ln_or0 hx (ln_tBf_b (hy2 ▸ h175)) | exact ln_or1 hx (ln_tBf_c h108 (hy2 ▸ h175))) ls (lv_sub hl [2, 3, 1, 0] rfl)
                  · skip
                    refine lv_iload X.1 X.2.1 dX10_tick_129 (lv_at hl 4 rfl) ?_
                    refine lv_iload_n X.1 X.2.1 dX10_tick_131 rfl (lv_at hl 1 rfl) ?_
                    refine lv_iload X.1 X.2.1 dX10_tick_132 (lv_at hl 5 rfl) ?_
                    refine ln_sR X (c_X10_has l D g 0 S q (ln_31 hS) (by omega) (Nat.le_refl _)) ln_nil mM_X10_70 Y_X10_has rfl (by omega) hl.1 rfl (Nat.le_of_ble_eq_true rfl) dX10_tick_134 ⟨Nat.zero_le _, Nat.zero_le _⟩ (fun r134 hr134 => ?_)
                    subst hr134
                    refine rn_eqB X (tgt := 156) dX10_tick_137 (by decide) (fun h137 => ?_) (fun h137 => ?_)
                    · skip
                      refine lv_iconst (v := nI 0) X.1 X.2.1 dX10_tick_156 (by decide) ?_
                      refine rn_add X dX10_tick_157 ?_
                      refine lv_istore (lv' := [(6, .int (nI (y + 0))), (0, .ref (a 0)), (2, .int (nI S)), (4, .int (nI x)), (5, .int (nI p)), (7, .int (nI q))]) X.1 X.2.1 dX10_tick_158 hl (by decide) rfl (fun ls hl => ?_)
                      refine lv_iinc (v := nI (q + 1)) (lv' := [(7, .int (nI (q + 1))), (6, .int (nI (y + 0))), (0, .ref (a 0)), (2, .int (nI S)), (4, .int (nI x)), (5, .int (nI p))]) X.1 X.2.1 dX10_tick_160 hl (k := 5) rfl rn_inc (by decide) rfl (fun ls hl => ?_)
                      refine lv_goto (tgt := 120) X.1 X.2.1 dX10_tick_163 (by decide) ?_
                      exact ih120 (q + 1) _ (by omega) (by omega) (by rw [hy]; first | rw [ln_wt_t h137] | rw [ln_wt_f h137, Nat.add_zero]) ls (lv_sub hl [2, 3, 4, 5, 1, 0] rfl)
                    · skip
                      refine lv_aload_n X.1 X.2.1 dX10_tick_140 rfl (lv_at hl 0 rfl) ?_
                      refine gM_0_1 X hP mF_X10_7 dX10_tick_141 ?_
                      refine lv_bipush (v := nI 12) X.1 X.2.1 dX10_tick_144 (by decide) ?_
                      refine lv_iload X.1 X.2.1 dX10_tick_146 (lv_at hl 5 rfl) ?_
                      refine rn_mul X dX10_tick_148 ?_
                      refine lv_iload X.1 X.2.1 dX10_tick_149 (lv_at hl 3 rfl) ?_
                      refine rn_add X dX10_tick_151 ?_
                      refine lM_1 X hP (by omega) (v := nI (N (5 + q) p)) (hN.w (by omega) (by omega)) dX10_tick_152 ?_
                      refine lv_goto (tgt := 157) X.1 X.2.1 dX10_tick_153 (by decide) ?_
                      refine rn_add X dX10_tick_157 ?_
                      refine lv_istore (lv' := [(6, .int (nI (y + (N (5 + q) p)))), (0, .ref (a 0)), (2, .int (nI S)), (4, .int (nI x)), (5, .int (nI p)), (7, .int (nI q))]) X.1 X.2.1 dX10_tick_158 hl (by decide) rfl (fun ls hl => ?_)
                      refine lv_iinc (v := nI (q + 1)) (lv' := [(7, .int (nI (q + 1))), (6, .int (nI (y + (N (5 + q) p)))), (0, .ref (a 0)), (2, .int (nI S)), (4, .int (nI x)), (5, .int (nI p))]) X.1 X.2.1 dX10_tick_160 hl (k := 5) rfl rn_inc (by decide) rfl (fun ls hl => ?_)
                      refine lv_goto (tgt := 120) X.1 X.2.1 dX10_tick_163 (by decide) ?_
                      exact ih120 (q + 1) _ (by omega) (by omega) (by rw [hy]; first | rw [ln_wt_t h137] | rw [ln_wt_f h137, Nat.add_zero]) ls (lv_sub hl [2, 3, 4, 5, 1, 0] rfl)
              exact L120 _ 0 0 (Nat.lt_succ_self _) (Nat.zero_le _) rfl ls (lv_sub hl [2, 3, 4, 5, 1, 0] rfl)
            · skip
              refine lv_goto (tgt := 187) X.1 X.2.1 dX10_tick_111 (by decide) ?_
              refine lv_iinc (v := nI (p + 1)) (lv' := [(5, .int (nI (p + 1))), (0, .ref (a 0)), (2, .int (nI S)), (4, .int (nI x))]) X.1 X.2.1 dX10_tick_187 hl (k := 3) rfl rn_inc (by decide) rfl (fun ls hl => ?_)
              refine lv_goto (tgt := 93) X.1 X.2.1 dX10_tick_190 (by decide) ?_
              exact ih93 (p + 1) _ (by omega) (by omega) (by first | exact hxb | exact ln_or12 hxb (ln_p12 (by omega))) (by first | exact ln_or0 hx (ln_tBf_a h108) | exact ln_or0 hx (ln_tBf_b (hy2 ▸ h175)) | exact ln_or1 hx (ln_tBf_c h108 (hy2 ▸ h175))) ls (lv_sub hl [1, 2, 3, 0] rfl)
      exact L93 _ 0 S (Nat.lt_succ_self _) (Nat.zero_le _) hS (by rw [show ln_oru (ln_tBf N S) 0 = 0 from rfl, Nat.or_zero]) ls (lv_sub hl [2, 4, 1, 0] rfl)
    · skip
      refine lv_iconst (v := nI 0) X.1 X.2.1 dX10_tick_25 (by decide) ?_
      refine lv_istore (lv' := [(5, .int (nI 0)), (4, .int (nI S)), (0, .ref (a 0)), (1, .int (nI r)), (2, .int (nI S)), (3, .int (nI t))]) X.1 X.2.1 dX10_tick_26 hl (by decide) rfl (fun ls hl => ?_)
      have L28 : ∀ (K : Nat) (q : Nat) (x : Nat), N 0 0 - q < K → q ≤ N 0 0 → x < 4096 → x = S ||| ln_oru (ln_tFf N S) q → ∀ ls : Array Slot, lv_has ls 8 [(0, .ref (a 0)), (2, .int (nI S)), (4, .int (nI x)), (5, .int (nI q))] → W prg l env rum sta mid args below meth cod sta.heap [] 0 0 Q0 (F0 mid 28 ls []) := by
        intro K
        induction K with
        | zero => intro q x hm; exact absurd hm (Nat.not_lt_zero _)
        | succ K ih28 =>
          intro q x hm28 hp hxb hx ls hl
          refine lv_iload X.1 X.2.1 dX10_tick_28 (lv_at hl 3 rfl) ?_
          refine lv_aload_n X.1 X.2.1 dX10_tick_30 rfl (lv_at hl 0 rfl) ?_
          refine gM_0_0 X hP (v := nI (N 0 0)) hN.n mF_X10_48 dX10_tick_31 ?_
          refine rn_ge X (by omega) (by omega) (tgt := 87) dX10_tick_34 (by decide) (fun h34 => ?_) (fun h34 => ?_)
          · skip
            refine lv_iload X.1 X.2.1 dX10_tick_87 (lv_at hl 2 rfl) ?_
            subst hQ0
            exact ln_retR X hr hlk rfl (by unfold ln_tk ln_tp; rw [if_neg (by omega), if_neg h22, hx, show q = N 0 0 by omega]; rfl) dX10_tick_89
          · skip
            refine lv_aload_n X.1 X.2.1 dX10_tick_37 rfl (lv_at hl 0 rfl) ?_
            refine gM_0_4 X hP mF_X10_19 dX10_tick_38 ?_
            refine lv_iload X.1 X.2.1 dX10_tick_41 (lv_at hl 3 rfl) ?_
            refine lM_4 X hP (by omega) (v := nI (N 3 q)) (hN.bh (by omega)) dX10_tick_43 ?_
            refine lv_iload_n X.1 X.2.1 dX10_tick_44 rfl (lv_at hl 1 rfl) ?_
            refine lv_iconst (v := ((-1))) X.1 X.2.1 dX10_tick_45 (by decide) ?_
            refine lv_ixor X.1 X.2.1 dX10_tick_46 ?_
            refine rn_nt X dX10_tick_47 ?_
            refine lv_istore (lv' := [(6, .int (nI (ln_df (N 3 q) S))), (0, .ref (a 0)), (2, .int (nI S)), (4, .int (nI x)), (5, .int (nI q))]) X.1 X.2.1 dX10_tick_48 hl (by decide) rfl (fun ls hl => ?_)
            refine lv_iload_n X.1 X.2.1 dX10_tick_50 rfl (lv_at hl 2 rfl) ?_
            refine lv_iload X.1 X.2.1 dX10_tick_51 (lv_at hl 4 rfl) ?_
            refine ln_sR X (c_X10_has l D g 0 S q (ln_31 hS) (by omega) (Nat.le_refl _)) ln_nil mM_X10_70 Y_X10_has rfl (by omega) hl.1 rfl (Nat.le_of_ble_eq_true rfl) dX10_tick_53 ⟨Nat.zero_le _, Nat.zero_le _⟩ (fun r53 hr53 => ?_)
            subst hr53
            refine rn_eqB X (tgt := 81) dX10_tick_56 (by decide) (fun h56 => ?_) (fun h56 => ?_)
            · skip
              refine lv_iinc (v := nI (q + 1)) (lv' := [(5, .int (nI (q + 1))), (6, .int (nI (ln_df (N 3 q) S))), (0, .ref (a 0)), (2, .int (nI S)), (4, .int (nI x))]) X.1 X.2.1 dX10_tick_81 hl (k := 4) rfl rn_inc (by decide) rfl (fun ls hl => ?_)
              refine lv_goto (tgt := 28) X.1 X.2.1 dX10_tick_84 (by decide) ?_
              exact ih28 (q + 1) _ (by omega) (by omega) (by first | exact hxb | exact ln_or12 hxb (ln_df12 (hW.bh12 _))) (by first | exact ln_or0 hx (ln_tFf_a h56) | exact ln_or0 hx (ln_tFf_d h61) | exact ln_or0 hx (ln_tFf_b h71) | exact ln_or1 hx (ln_tFf_c h56 h71)) ls (lv_sub hl [2, 3, 4, 0] rfl)
            · skip
              refine lv_iload X.1 X.2.1 dX10_tick_59 (lv_at hl 0 rfl) ?_
              refine rn_eq0 X (ln_31 (ln_df_lt (hW.bh12 _))) (tgt := 81) dX10_tick_61 (by decide) (fun h61 => ?_) (fun h61 => ?_)
              · skip
                refine lv_iinc (v := nI (q + 1)) (lv' := [(5, .int (nI (q + 1))), (6, .int (nI (ln_df (N 3 q) S))), (0, .ref (a 0)), (2, .int (nI S)), (4, .int (nI x))]) X.1 X.2.1 dX10_tick_81 hl (k := 4) rfl rn_inc (by decide) rfl (fun ls hl => ?_)
                refine lv_goto (tgt := 28) X.1 X.2.1 dX10_tick_84 (by decide) ?_
                exact ih28 (q + 1) _ (by omega) (by omega) (by first | exact hxb | exact ln_or12 hxb (ln_df12 (hW.bh12 _))) (by first | exact ln_or0 hx (ln_tFf_a h56) | exact ln_or0 hx (ln_tFf_d h61) | exact ln_or0 hx (ln_tFf_b h71) | exact ln_or1 hx (ln_tFf_c h56 h71)) ls (lv_sub hl [2, 3, 4, 0] rfl)
              · skip
                refine lv_iload X.1 X.2.1 dX10_tick_64 (lv_at hl 0 rfl) ?_
                refine lv_iload X.1 X.2.1 dX10_tick_66 (lv_at hl 0 rfl) ?_
                refine lv_iconst (v := nI 1) X.1 X.2.1 dX10_tick_68 (by decide) ?_
                refine lv_isub X.1 X.2.1 dX10_tick_69 ?_
                refine rn_dec X dX10_tick_70 ?_
                refine rn_ne0 X (ln_31 (ln_and_lt (ln_df_lt (hW.bh12 _)))) (tgt := 81) dX10_tick_71 (by decide) (fun h71 => ?_) (fun h71 => ?_)
                · skip
                  refine lv_iinc (v := nI (q + 1)) (lv' := [(5, .int (nI (q + 1))), (6, .int (nI (ln_df (N 3 q) S))), (0, .ref (a 0)), (2, .int (nI S)), (4, .int (nI x))]) X.1 X.2.1 dX10_tick_81 hl (k := 4) rfl rn_inc (by decide) rfl (fun ls hl => ?_)
                  refine lv_goto (tgt := 28) X.1 X.2.1 dX10_tick_84 (by decide) ?_
                  exact ih28 (q + 1) _ (by omega) (by omega) (by first | exact hxb | exact ln_or12 hxb (ln_df12 (hW.bh12 _))) (by first | exact ln_or0 hx (ln_tFf_a h56) | exact ln_or0 hx (ln_tFf_d h61) | exact ln_or0 hx (ln_tFf_b h71) | exact ln_or1 hx (ln_tFf_c h56 h71)) ls (lv_sub hl [2, 3, 4, 0] rfl)
                · skip
                  refine lv_iload X.1 X.2.1 dX10_tick_74 (lv_at hl 3 rfl) ?_
                  refine lv_iload X.1 X.2.1 dX10_tick_76 (lv_at hl 0 rfl) ?_
                  refine rn_or X dX10_tick_78 ?_
                  refine lv_istore (lv' := [(4, .int (nI (x ||| (ln_df (N 3 q) S)))), (6, .int (nI (ln_df (N 3 q) S))), (0, .ref (a 0)), (2, .int (nI S)), (5, .int (nI q))]) X.1 X.2.1 dX10_tick_79 hl (by decide) rfl (fun ls hl => ?_)
                  refine lv_iinc (v := nI (q + 1)) (lv' := [(5, .int (nI (q + 1))), (4, .int (nI (x ||| (ln_df (N 3 q) S)))), (6, .int (nI (ln_df (N 3 q) S))), (0, .ref (a 0)), (2, .int (nI S))]) X.1 X.2.1 dX10_tick_81 hl (k := 4) rfl rn_inc (by decide) rfl (fun ls hl => ?_)
                  refine lv_goto (tgt := 28) X.1 X.2.1 dX10_tick_84 (by decide) ?_
                  exact ih28 (q + 1) _ (by omega) (by omega) (by first | exact hxb | exact ln_or12 hxb (ln_df12 (hW.bh12 _))) (by first | exact ln_or0 hx (ln_tFf_a h56) | exact ln_or0 hx (ln_tFf_d h61) | exact ln_or0 hx (ln_tFf_b h71) | exact ln_or1 hx (ln_tFf_c h56 h71)) ls (lv_sub hl [3, 4, 1, 0] rfl)
      exact L28 _ 0 S (Nat.lt_succ_self _) (Nat.zero_le _) hS (by rw [show ln_oru (ln_tFf N S) 0 = 0 from rfl, Nat.or_zero]) ls (lv_sub hl [2, 4, 1, 0] rfl)
  · skip
    refine lv_iload_n X.1 X.2.1 dX10_tick_5 rfl (lv_at hl 3 rfl) ?_
    refine lv_iconst (v := nI 1) X.1 X.2.1 dX10_tick_6 (by decide) ?_
    refine rn_ne X (by omega) (by decide) (tgt := 18) dX10_tick_7 (by decide) (fun h7 => ?_) (fun h7 => ?_)
    · skip
      refine lv_iload_n X.1 X.2.1 dX10_tick_18 rfl (lv_at hl 2 rfl) ?_
      refine lv_istore (lv' := [(4, .int (nI S)), (0, .ref (a 0)), (1, .int (nI r)), (2, .int (nI S)), (3, .int (nI t))]) X.1 X.2.1 dX10_tick_19 hl (by decide) rfl (fun ls hl => ?_)
      refine lv_iload_n X.1 X.2.1 dX10_tick_21 rfl (lv_at hl 2 rfl) ?_
      refine rn_eq0 X (by omega) (tgt := 90) dX10_tick_22 (by decide) (fun h22 => ?_) (fun h22 => ?_)
      · skip
        refine lv_iconst (v := nI 0) X.1 X.2.1 dX10_tick_90 (by decide) ?_
        refine lv_istore (lv' := [(5, .int (nI 0)), (4, .int (nI S)), (0, .ref (a 0)), (1, .int (nI r)), (2, .int (nI S)), (3, .int (nI t))]) X.1 X.2.1 dX10_tick_91 hl (by decide) rfl (fun ls hl => ?_)
        have L93 : ∀ (K : Nat) (p : Nat) (x : Nat), N 0 0 - p < K → p ≤ N 0 0 → x < 4096 → x = S ||| ln_oru (ln_tBf N S) p → ∀ ls : Array Slot, lv_has ls 8 [(0, .ref (a 0)), (2, .int (nI S)), (4, .int (nI x)), (5, .int (nI p))] → W prg l env rum sta mid args below meth cod sta.heap [] 0 0 Q0 (F0 mid 93 ls []) := by
          intro K
          induction K with
          | zero => intro p x hm; exact absurd hm (Nat.not_lt_zero _)
          | succ K ih93 =>
            intro p x hm93 hp hxb hx ls hl
            refine lv_iload X.1 X.2.1 dX10_tick_93 (lv_at hl 3 rfl) ?_
            refine lv_aload_n X.1 X.2.1 dX10_tick_95 rfl (lv_at hl 0 rfl) ?_
            refine gM_0_0 X hP (v := nI (N 0 0)) hN.n mF_X10_48 dX10_tick_96 ?_
            refine rn_ge X (by omega) (by omega) (tgt := 193) dX10_tick_99 (by decide) (fun h99 => ?_) (fun h99 => ?_)
            · skip
              refine lv_iload X.1 X.2.1 dX10_tick_193 (lv_at hl 2 rfl) ?_
              subst hQ0
              exact ln_retR X hr hlk rfl (by unfold ln_tk ln_tp; rw [if_neg (by omega), if_pos h22, hx, show p = N 0 0 by omega]; rfl) dX10_tick_195
            · skip
              refine lv_iload_n X.1 X.2.1 dX10_tick_102 rfl (lv_at hl 1 rfl) ?_
              refine lv_iload X.1 X.2.1 dX10_tick_103 (lv_at hl 3 rfl) ?_
              refine ln_sR X (c_X10_has l D g 0 S p (ln_31 hS) (by omega) (Nat.le_refl _)) ln_nil mM_X10_70 Y_X10_has rfl (by omega) hl.1 rfl (Nat.le_of_ble_eq_true rfl) dX10_tick_105 ⟨Nat.zero_le _, Nat.zero_le _⟩ (fun r105 hr105 => ?_)
              subst hr105
              refine rn_eqB X (tgt := 114) dX10_tick_108 (by decide) (fun h108 => ?_) (fun h108 => ?_)
              · skip
                refine lv_iconst (v := nI 0) X.1 X.2.1 dX10_tick_114 (by decide) ?_
                refine lv_istore (lv' := [(6, .int (nI 0)), (0, .ref (a 0)), (2, .int (nI S)), (4, .int (nI x)), (5, .int (nI p))]) X.1 X.2.1 dX10_tick_115 hl (by decide) rfl (fun ls hl => ?_)
                refine lv_iconst (v := nI 0) X.1 X.2.1 dX10_tick_117 (by decide) ?_
                refine lv_istore (lv' := [(7, .int (nI 0)), (6, .int (nI 0)), (0, .ref (a 0)), (2, .int (nI S)), (4, .int (nI x)), (5, .int (nI p))]) X.1 X.2.1 dX10_tick_118 hl (by decide) rfl (fun ls hl => ?_)
                have L120 : ∀ (K : Nat) (q : Nat) (y : Nat), N 0 0 - q < K → q ≤ N 0 0 → y = ln_wt N S p q → ∀ ls : Array Slot, lv_has ls 8 [(0, .ref (a 0)), (2, .int (nI S)), (4, .int (nI x)), (5, .int (nI p)), (6, .int (nI y)), (7, .int (nI q))] → W prg l env rum sta mid args below meth cod sta.heap [] 0 0 Q0 (F0 mid 120 ls []) := by
                  intro K
                  induction K with
                  | zero => intro q y hm; exact absurd hm (Nat.not_lt_zero _)
                  | succ K ih120 =>
                    intro q y hm120 hq hy ls hl
                    refine lv_iload X.1 X.2.1 dX10_tick_120 (lv_at hl 5 rfl) ?_
                    refine lv_aload_n X.1 X.2.1 dX10_tick_122 rfl (lv_at hl 0 rfl) ?_
                    refine gM_0_0 X hP (v := nI (N 0 0)) hN.n mF_X10_48 dX10_tick_123 ?_
                    refine rn_ge X (by omega) (by omega) (tgt := 166) dX10_tick_126 (by decide) (fun h126 => ?_) (fun h126 => ?_)
                    · skip
                      have hy2 : y = ln_wt N S p (N 0 0) := by rw [hy, show q = N 0 0 by omega]
                      refine lv_iload X.1 X.2.1 dX10_tick_166 (lv_at hl 4 rfl) ?_
                      refine lv_aload_n X.1 X.2.1 dX10_tick_168 rfl (lv_at hl 0 rfl) ?_
                      refine gM_0_2 X hP mF_X10_13 dX10_tick_169 ?_
                      refine lv_iload X.1 X.2.1 dX10_tick_172 (lv_at hl 3 rfl) ?_
                      refine lM_2 X hP (by omega) (v := nI (N 1 p)) (hN.b (by omega)) dX10_tick_174 ?_
                      refine rn_lt X (by have := hwl p (N 0 0); omega) (ln_31 (hW.b12 _)) (tgt := 187) dX10_tick_175 (by decide) (fun h175 => ?_) (fun h175 => ?_)
                      · skip
                        refine lv_iinc (v := nI (p + 1)) (lv' := [(5, .int (nI (p + 1))), (0, .ref (a 0)), (2, .int (nI S)), (4, .int (nI x)), (6, .int (nI y)), (7, .int (nI q))]) X.1 X.2.1 dX10_tick_187 hl (k := 3) rfl rn_inc (by decide) rfl (fun ls hl => ?_)
                        refine lv_goto (tgt := 93) X.1 X.2.1 dX10_tick_190 (by decide) ?_
                        exact ih93 (p + 1) _ (by omega) (by omega) (by first | exact hxb | exact ln_or12 hxb (ln_p12 (by omega))) (by first | exact ln_or0 hx (ln_tBf_a h108) | exact ln_or0 hx (ln_tBf_b (hy2 ▸ h175)) | exact ln_or1 hx (ln_tBf_c h108 (hy2 ▸ h175))) ls (lv_sub hl [1, 2, 3, 0] rfl)
                      · skip
                        refine lv_iload X.1 X.2.1 dX10_tick_178 (lv_at hl 2 rfl) ?_
                        refine lv_iconst (v := nI 1) X.1 X.2.1 dX10_tick_180 (by decide) ?_
                        refine lv_iload X.1 X.2.1 dX10_tick_181 (lv_at hl 3 rfl) ?_
                        refine rn_shl X (by omega) dX10_tick_183 ?_
                        refine rn_or X dX10_tick_184 ?_
                        refine lv_istore (lv' := [(4, .int (nI (x ||| (2 ^ p)))), (0, .ref (a 0)), (2, .int (nI S)), (5, .int (nI p)), (6, .int (nI y)), (7, .int (nI q))]) X.1 X.2.1 dX10_tick_185 hl (by decide) rfl (fun ls hl => ?_)
                        refine lv_iinc (v := nI (p + 1)) (lv' := [(5, .int (nI (p + 1))), (4, .int (nI (x ||| (2 ^ p)))), (0, .ref (a 0)), (2, .int (nI S)), (6, .int (nI y)), (7, .int (nI q))]) X.1 X.2.1 dX10_tick_187 hl (k := 3) rfl rn_inc (by decide) rfl (fun ls hl => ?_)
                        refine lv_goto (tgt := 93) X.1 X.2.1 dX10_tick_190 (by decide) ?_
                        exact ih93 (p + 1) _ (by omega) (by omega) (by first | exact hxb | exact ln_or12 hxb (ln_p12 (by omega))) (by first | exact ln_or0 hx (ln_tBf_a h108) | exact ln_or0 hx (ln_tBf_b (hy2 ▸ h175)) | exact ln_or1 hx (ln_tBf_c h108 (hy2 ▸ h175))) ls (lv_sub hl [2, 3, 1, 0] rfl)
                    · skip
                      refine lv_iload X.1 X.2.1 dX10_tick_129 (lv_at hl 4 rfl) ?_
                      refine lv_iload_n X.1 X.2.1 dX10_tick_131 rfl (lv_at hl 1 rfl) ?_
                      refine lv_iload X.1 X.2.1 dX10_tick_132 (lv_at hl 5 rfl) ?_
                      refine ln_sR X (c_X10_has l D g 0 S q (ln_31 hS) (by omega) (Nat.le_refl _)) ln_nil mM_X10_70 Y_X10_has rfl (by omega) hl.1 rfl (Nat.le_of_ble_eq_true rfl) dX10_tick_134 ⟨Nat.zero_le _, Nat.zero_le _⟩ (fun r134 hr134 => ?_)
                      subst hr134
                      refine rn_eqB X (tgt := 156) dX10_tick_137 (by decide) (fun h137 => ?_) (fun h137 => ?_)
                      · skip
                        refine lv_iconst (v := nI 0) X.1 X.2.1 dX10_tick_156 (by decide) ?_
                        refine rn_add X dX10_tick_157 ?_
                        refine lv_istore (lv' := [(6, .int (nI (y + 0))), (0, .ref (a 0)), (2, .int (nI S)), (4, .int (nI x)), (5, .int (nI p)), (7, .int (nI q))]) X.1 X.2.1 dX10_tick_158 hl (by decide) rfl (fun ls hl => ?_)
                        refine lv_iinc (v := nI (q + 1)) (lv' := [(7, .int (nI (q + 1))), (6, .int (nI (y + 0))), (0, .ref (a 0)), (2, .int (nI S)), (4, .int (nI x)), (5, .int (nI p))]) X.1 X.2.1 dX10_tick_160 hl (k := 5) rfl rn_inc (by decide) rfl (fun ls hl => ?_)
                        refine lv_goto (tgt := 120) X.1 X.2.1 dX10_tick_163 (by decide) ?_
                        exact ih120 (q + 1) _ (by omega) (by omega) (by rw [hy]; first | rw [ln_wt_t h137] | rw [ln_wt_f h137, Nat.add_zero]) ls (lv_sub hl [2, 3, 4, 5, 1, 0] rfl)
                      · skip
                        refine lv_aload_n X.1 X.2.1 dX10_tick_140 rfl (lv_at hl 0 rfl) ?_
                        refine gM_0_1 X hP mF_X10_7 dX10_tick_141 ?_
                        refine lv_bipush (v := nI 12) X.1 X.2.1 dX10_tick_144 (by decide) ?_
                        refine lv_iload X.1 X.2.1 dX10_tick_146 (lv_at hl 5 rfl) ?_
                        refine rn_mul X dX10_tick_148 ?_
                        refine lv_iload X.1 X.2.1 dX10_tick_149 (lv_at hl 3 rfl) ?_
                        refine rn_add X dX10_tick_151 ?_
                        refine lM_1 X hP (by omega) (v := nI (N (5 + q) p)) (hN.w (by omega) (by omega)) dX10_tick_152 ?_
                        refine lv_goto (tgt := 157) X.1 X.2.1 dX10_tick_153 (by decide) ?_
                        refine rn_add X dX10_tick_157 ?_
                        refine lv_istore (lv' := [(6, .int (nI (y + (N (5 + q) p)))), (0, .ref (a 0)), (2, .int (nI S)), (4, .int (nI x)), (5, .int (nI p)), (7, .int (nI q))]) X.1 X.2.1 dX10_tick_158 hl (by decide) rfl (fun ls hl => ?_)
                        refine lv_iinc (v := nI (q + 1)) (lv' := [(7, .int (nI (q + 1))), (6, .int (nI (y + (N (5 + q) p)))), (0, .ref (a 0)), (2, .int (nI S)), (4, .int (nI x)), (5, .int (nI p))]) X.1 X.2.1 dX10_tick_160 hl (k := 5) rfl rn_inc (by decide) rfl (fun ls hl => ?_)
                        refine lv_goto (tgt := 120) X.1 X.2.1 dX10_tick_163 (by decide) ?_
                        exact ih120 (q + 1) _ (by omega) (by omega) (by rw [hy]; first | rw [ln_wt_t h137] | rw [ln_wt_f h137, Nat.add_zero]) ls (lv_sub hl [2, 3, 4, 5, 1, 0] rfl)
                exact L120 _ 0 0 (Nat.lt_succ_self _) (Nat.zero_le _) rfl ls (lv_sub hl [2, 3, 4, 5, 1, 0] rfl)
              · skip
                refine lv_goto (tgt := 187) X.1 X.2.1 dX10_tick_111 (by decide) ?_
                refine lv_iinc (v := nI (p + 1)) (lv' := [(5, .int (nI (p + 1))), (0, .ref (a 0)), (2, .int (nI S)), (4, .int (nI x))]) X.1 X.2.1 dX10_tick_187 hl (k := 3) rfl rn_inc (by decide) rfl (fun ls hl => ?_)
                refine lv_goto (tgt := 93) X.1 X.2.1 dX10_tick_190 (by decide) ?_
                exact ih93 (p + 1) _ (by omega) (by omega) (by first | exact hxb | exact ln_or12 hxb (ln_p12 (by omega))) (by first | exact ln_or0 hx (ln_tBf_a h108) | exact ln_or0 hx (ln_tBf_b (hy2 ▸ h175)) | exact ln_or1 hx (ln_tBf_c h108 (hy2 ▸ h175))) ls (lv_sub hl [1, 2, 3, 0] rfl)
        exact L93 _ 0 S (Nat.lt_succ_self _) (Nat.zero_le _) hS (by rw [show ln_oru (ln_tBf N S) 0 = 0 from rfl, Nat.or_zero]) ls (lv_sub hl [2, 4, 1, 0] rfl)
      · skip
        refine lv_iconst (v := nI 0) X.1 X.2.1 dX10_tick_25 (by decide) ?_
        refine lv_istore (lv' := [(5, .int (nI 0)), (4, .int (nI S)), (0, .ref (a 0)), (1, .int (nI r)), (2, .int (nI S)), (3, .int (nI t))]) X.1 X.2.1 dX10_tick_26 hl (by decide) rfl (fun ls hl => ?_)
        have L28 : ∀ (K : Nat) (q : Nat) (x : Nat), N 0 0 - q < K → q ≤ N 0 0 → x < 4096 → x = S ||| ln_oru (ln_tFf N S) q → ∀ ls : Array Slot, lv_has ls 8 [(0, .ref (a 0)), (2, .int (nI S)), (4, .int (nI x)), (5, .int (nI q))] → W prg l env rum sta mid args below meth cod sta.heap [] 0 0 Q0 (F0 mid 28 ls []) := by
          intro K
          induction K with
          | zero => intro q x hm; exact absurd hm (Nat.not_lt_zero _)
          | succ K ih28 =>
            intro q x hm28 hp hxb hx ls hl
            refine lv_iload X.1 X.2.1 dX10_tick_28 (lv_at hl 3 rfl) ?_
            refine lv_aload_n X.1 X.2.1 dX10_tick_30 rfl (lv_at hl 0 rfl) ?_
            refine gM_0_0 X hP (v := nI (N 0 0)) hN.n mF_X10_48 dX10_tick_31 ?_
            refine rn_ge X (by omega) (by omega) (tgt := 87) dX10_tick_34 (by decide) (fun h34 => ?_) (fun h34 => ?_)
            · skip
              refine lv_iload X.1 X.2.1 dX10_tick_87 (lv_at hl 2 rfl) ?_
              subst hQ0
              exact ln_retR X hr hlk rfl (by unfold ln_tk ln_tp; rw [if_neg (by omega), if_neg h22, hx, show q = N 0 0 by omega]; rfl) dX10_tick_89
            · skip
              refine lv_aload_n X.1 X.2.1 dX10_tick_37 rfl (lv_at hl 0 rfl) ?_
              refine gM_0_4 X hP mF_X10_19 dX10_tick_38 ?_
              refine lv_iload X.1 X.2.1 dX10_tick_41 (lv_at hl 3 rfl) ?_
              refine lM_4 X hP (by omega) (v := nI (N 3 q)) (hN.bh (by omega)) dX10_tick_43 ?_
              refine lv_iload_n X.1 X.2.1 dX10_tick_44 rfl (lv_at hl 1 rfl) ?_
              refine lv_iconst (v := ((-1))) X.1 X.2.1 dX10_tick_45 (by decide) ?_
              refine lv_ixor X.1 X.2.1 dX10_tick_46 ?_
              refine rn_nt X dX10_tick_47 ?_
              refine lv_istore (lv' := [(6, .int (nI (ln_df (N 3 q) S))), (0, .ref (a 0)), (2, .int (nI S)), (4, .int (nI x)), (5, .int (nI q))]) X.1 X.2.1 dX10_tick_48 hl (by decide) rfl (fun ls hl => ?_)
              refine lv_iload_n X.1 X.2.1 dX10_tick_50 rfl (lv_at hl 2 rfl) ?_
              refine lv_iload X.1 X.2.1 dX10_tick_51 (lv_at hl 4 rfl) ?_
              refine ln_sR X (c_X10_has l D g 0 S q (ln_31 hS) (by omega) (Nat.le_refl _)) ln_nil mM_X10_70 Y_X10_has rfl (by omega) hl.1 rfl (Nat.le_of_ble_eq_true rfl) dX10_tick_53 ⟨Nat.zero_le _, Nat.zero_le _⟩ (fun r53 hr53 => ?_)
              subst hr53
              refine rn_eqB X (tgt := 81) dX10_tick_56 (by decide) (fun h56 => ?_) (fun h56 => ?_)
              · skip
                refine lv_iinc (v := nI (q + 1)) (lv' := [(5, .int (nI (q + 1))), (6, .int (nI (ln_df (N 3 q) S))), (0, .ref (a 0)), (2, .int (nI S)), (4, .int (nI x))]) X.1 X.2.1 dX10_tick_81 hl (k := 4) rfl rn_inc (by decide) rfl (fun ls hl => ?_)
                refine lv_goto (tgt := 28) X.1 X.2.1 dX10_tick_84 (by decide) ?_
                exact ih28 (q + 1) _ (by omega) (by omega) (by first | exact hxb | exact ln_or12 hxb (ln_df12 (hW.bh12 _))) (by first | exact ln_or0 hx (ln_tFf_a h56) | exact ln_or0 hx (ln_tFf_d h61) | exact ln_or0 hx (ln_tFf_b h71) | exact ln_or1 hx (ln_tFf_c h56 h71)) ls (lv_sub hl [2, 3, 4, 0] rfl)
              · skip
                refine lv_iload X.1 X.2.1 dX10_tick_59 (lv_at hl 0 rfl) ?_
                refine rn_eq0 X (ln_31 (ln_df_lt (hW.bh12 _))) (tgt := 81) dX10_tick_61 (by decide) (fun h61 => ?_) (fun h61 => ?_)
                · skip
                  refine lv_iinc (v := nI (q + 1)) (lv' := [(5, .int (nI (q + 1))), (6, .int (nI (ln_df (N 3 q) S))), (0, .ref (a 0)), (2, .int (nI S)), (4, .int (nI x))]) X.1 X.2.1 dX10_tick_81 hl (k := 4) rfl rn_inc (by decide) rfl (fun ls hl => ?_)
                  refine lv_goto (tgt := 28) X.1 X.2.1 dX10_tick_84 (by decide) ?_
                  exact ih28 (q + 1) _ (by omega) (by omega) (by first | exact hxb | exact ln_or12 hxb (ln_df12 (hW.bh12 _))) (by first | exact ln_or0 hx (ln_tFf_a h56) | exact ln_or0 hx (ln_tFf_d h61) | exact ln_or0 hx (ln_tFf_b h71) | exact ln_or1 hx (ln_tFf_c h56 h71)) ls (lv_sub hl [2, 3, 4, 0] rfl)
                · skip
                  refine lv_iload X.1 X.2.1 dX10_tick_64 (lv_at hl 0 rfl) ?_
                  refine lv_iload X.1 X.2.1 dX10_tick_66 (lv_at hl 0 rfl) ?_
                  refine lv_iconst (v := nI 1) X.1 X.2.1 dX10_tick_68 (by decide) ?_
                  refine lv_isub X.1 X.2.1 dX10_tick_69 ?_
                  refine rn_dec X dX10_tick_70 ?_
                  refine rn_ne0 X (ln_31 (ln_and_lt (ln_df_lt (hW.bh12 _)))) (tgt := 81) dX10_tick_71 (by decide) (fun h71 => ?_) (fun h71 => ?_)
                  · skip
                    refine lv_iinc (v := nI (q + 1)) (lv' := [(5, .int (nI (q + 1))), (6, .int (nI (ln_df (N 3 q) S))), (0, .ref (a 0)), (2, .int (nI S)), (4, .int (nI x))]) X.1 X.2.1 dX10_tick_81 hl (k := 4) rfl rn_inc (by decide) rfl (fun ls hl => ?_)
                    refine lv_goto (tgt := 28) X.1 X.2.1 dX10_tick_84 (by decide) ?_
                    exact ih28 (q + 1) _ (by omega) (by omega) (by first | exact hxb | exact ln_or12 hxb (ln_df12 (hW.bh12 _))) (by first | exact ln_or0 hx (ln_tFf_a h56) | exact ln_or0 hx (ln_tFf_d h61) | exact ln_or0 hx (ln_tFf_b h71) | exact ln_or1 hx (ln_tFf_c h56 h71)) ls (lv_sub hl [2, 3, 4, 0] rfl)
                  · skip
                    refine lv_iload X.1 X.2.1 dX10_tick_74 (lv_at hl 3 rfl) ?_
                    refine lv_iload X.1 X.2.1 dX10_tick_76 (lv_at hl 0 rfl) ?_
                    refine rn_or X dX10_tick_78 ?_
                    refine lv_istore (lv' := [(4, .int (nI (x ||| (ln_df (N 3 q) S)))), (6, .int (nI (ln_df (N 3 q) S))), (0, .ref (a 0)), (2, .int (nI S)), (5, .int (nI q))]) X.1 X.2.1 dX10_tick_79 hl (by decide) rfl (fun ls hl => ?_)
                    refine lv_iinc (v := nI (q + 1)) (lv' := [(5, .int (nI (q + 1))), (4, .int (nI (x ||| (ln_df (N 3 q) S)))), (6, .int (nI (ln_df (N 3 q) S))), (0, .ref (a 0)), (2, .int (nI S))]) X.1 X.2.1 dX10_tick_81 hl (k := 4) rfl rn_inc (by decide) rfl (fun ls hl => ?_)
                    refine lv_goto (tgt := 28) X.1 X.2.1 dX10_tick_84 (by decide) ?_
                    exact ih28 (q + 1) _ (by omega) (by omega) (by first | exact hxb | exact ln_or12 hxb (ln_df12 (hW.bh12 _))) (by first | exact ln_or0 hx (ln_tFf_a h56) | exact ln_or0 hx (ln_tFf_d h61) | exact ln_or0 hx (ln_tFf_b h71) | exact ln_or1 hx (ln_tFf_c h56 h71)) ls (lv_sub hl [3, 4, 1, 0] rfl)
        exact L28 _ 0 S (Nat.lt_succ_self _) (Nat.zero_le _) hS (by rw [show ln_oru (ln_tFf N S) 0 = 0 from rfl, Nat.or_zero]) ls (lv_sub hl [2, 4, 1, 0] rfl)
    · skip
      refine lv_iload_n X.1 X.2.1 dX10_tick_10 rfl (lv_at hl 2 rfl) ?_
      refine lv_aload_n X.1 X.2.1 dX10_tick_11 rfl (lv_at hl 0 rfl) ?_
      refine lv_iload_n X.1 X.2.1 dX10_tick_12 rfl (lv_at hl 2 rfl) ?_
      refine ln_vR X (c_X10_allBehind l D g a σ 1 N hW hN S hS (Nat.le_refl _)) hP 0 rfl rfl mM_X10_74 Y_X10_allBehind rfl (by omega) hl.1 rfl (Nat.le_of_ble_eq_true rfl) dX10_tick_13 ⟨Nat.zero_le _, Nat.zero_le _⟩ (fun r13 hr13 => ?_)
      subst hr13
      refine rn_or X dX10_tick_16 ?_
      subst hQ0
      exact ln_retR X hr hlk rfl (by unfold ln_tk; rw [if_pos ⟨h2, h7⟩]; rfl) dX10_tick_17
