/-! nets, as numbers: N 0 0 posts, N 1 bars, N 2 prices, N 3 those behind, N 4 those ahead, N (5 + p) q the weight from p to q -/
abbrev ln_N : Type := Nat → Nat → Nat
def ln_wf (N : ln_N) : Prop := N 0 0 ≤ 12 ∧ ∀ p : Nat, N 1 p ≤ 99 ∧ N 2 p ≤ 1000 ∧ ∀ q : Nat, N (5 + p) q ≤ 9 ∧ (N 3 p).testBit q = decide (0 < N (5 + p) q) ∧ (N 4 q).testBit p = decide (0 < N (5 + p) q) ∧ (0 < N (5 + p) q → p < N 0 0 ∧ q < N 0 0)
theorem ln_bits {a n : Nat} (h : ∀ i, n ≤ i → a.testBit i = false) : a < 2 ^ n := Nat.lt_pow_two_of_testBit a h
theorem ln_wf.n12 {N : ln_N} (h : ln_wf N) : N 0 0 ≤ 12 := h.1
theorem ln_wf.bhn {N : ln_N} (h : ln_wf N) (p : Nat) : N 3 p < 2 ^ N 0 0 := by
  apply ln_bits
  intro i hi
  have h1 := (h.2 p).2.2 i
  rw [h1.2.1]
  apply decide_eq_false
  intro h2
  have := (h1.2.2.2 h2).2
  omega
theorem ln_wf.ahn {N : ln_N} (h : ln_wf N) (p : Nat) : N 4 p < 2 ^ N 0 0 := by
  apply ln_bits
  intro i hi
  have h1 := (h.2 i).2.2 p
  rw [h1.2.2.1]
  apply decide_eq_false
  intro h2
  have := (h1.2.2.2 h2).1
  omega
theorem ln_pn {n : Nat} (h : n ≤ 12) : 2 ^ n ≤ 4096 := Nat.pow_le_pow_right (n := 2) (by decide) h
theorem ln_p12 {n : Nat} (h : n < 12) : 2 ^ n < 4096 := Nat.pow_lt_pow_right (a := 2) (by decide) h
theorem ln_wf.p12 {N : ln_N} (h : ln_wf N) : 2 ^ N 0 0 ≤ 4096 := ln_pn h.1
theorem ln_wf.bh12 {N : ln_N} (h : ln_wf N) (p : Nat) : N 3 p < 4096 := Nat.lt_of_lt_of_le (h.bhn p) h.p12
theorem ln_wf.ah12 {N : ln_N} (h : ln_wf N) (p : Nat) : N 4 p < 4096 := Nat.lt_of_lt_of_le (h.ahn p) h.p12
theorem ln_wf.b12 {N : ln_N} (h : ln_wf N) (p : Nat) : N 1 p < 4096 := by have := (h.2 p).1; omega
theorem ln_wf.pr12 {N : ln_N} (h : ln_wf N) (p : Nat) : N 2 p < 4096 := by have := (h.2 p).2.1; omega
theorem ln_wf.w12 {N : ln_N} (h : ln_wf N) (p q : Nat) : N (5 + p) q < 4096 := by have := ((h.2 p).2.2 q).1; omega
theorem ln_31 {a : Nat} (h : a < 4096) : a < 2 ^ 31 := Nat.lt_of_lt_of_le h (by decide)
theorem ln_and_ltr {a b N : Nat} (hb : b < N) : a &&& b < N := Nat.lt_of_le_of_lt Nat.and_le_right hb
theorem ln_or12 {a b : Nat} (ha : a < 4096) (hb : b < 4096) : a ||| b < 4096 := Nat.or_lt_two_pow (n := 12) ha hb
theorem ln_shr_lt {a b N : Nat} (ha : a < N) : a >>> b < N := Nat.lt_of_le_of_lt (Nat.shiftRight_le a b) ha
def ln_nC (N : ln_N) (σ : ln_S) : Prop := σ 1 0 = nI (N 0 0) ∧ ∀ p, p < 12 → (σ 2 p = nI (N 1 p) ∧ σ 3 p = nI (N 2 p) ∧ σ 5 p = nI (N 3 p) ∧ σ 6 p = nI (N 4 p) ∧ ∀ q, q < 12 → σ (25 + p) q = nI (N (5 + p) q))
theorem ln_nC.n {N : ln_N} {σ : ln_S} (h : ln_nC N σ) : σ 1 0 = nI (N 0 0) := h.1
theorem ln_nC.b {N : ln_N} {σ : ln_S} (h : ln_nC N σ) {p : Nat} (hp : p < 12) : σ 2 p = nI (N 1 p) := (h.2 p hp).1
theorem ln_nC.pr {N : ln_N} {σ : ln_S} (h : ln_nC N σ) {p : Nat} (hp : p < 12) : σ 3 p = nI (N 2 p) := (h.2 p hp).2.1
theorem ln_nC.bh {N : ln_N} {σ : ln_S} (h : ln_nC N σ) {p : Nat} (hp : p < 12) : σ 5 p = nI (N 3 p) := (h.2 p hp).2.2.1
theorem ln_nC.ah {N : ln_N} {σ : ln_S} (h : ln_nC N σ) {p : Nat} (hp : p < 12) : σ 6 p = nI (N 4 p) := (h.2 p hp).2.2.2.1
theorem ln_nC.w {N : ln_N} {σ : ln_S} (h : ln_nC N σ) {p q : Nat} (hp : p < 12) (hq : q < 12) : σ (25 + p) q = nI (N (5 + p) q) := (h.2 p hp).2.2.2.2 q hq
/-- what isn't of the net may change -/
theorem ln_nC.up {N : ln_N} {σ : ln_S} (h : ln_nC N σ) {k : Nat} (hk : 7 ≤ k ∧ k < 25 ∨ 37 ≤ k) (f : Nat → Int32) : ln_nC N (ln_up σ k f) := by
  refine ⟨by rw [ln_up_n _ _ (by omega)]; exact h.1, fun p hp => ?_⟩
  rw [ln_up_n _ _ (by omega), ln_up_n _ _ (by omega), ln_up_n _ _ (by omega), ln_up_n _ _ (by omega), ln_up_n _ _ (by omega)]
  exact h.2 p hp
def ln_nM (N : ln_N) (σ : ln_S) : Prop := σ 0 0 = nI (N 0 0) ∧ ∀ p, p < 12 → (σ 2 p = nI (N 1 p) ∧ σ 3 p = nI (N 2 p) ∧ σ 4 p = nI (N 3 p) ∧ ∀ q, q < 12 → σ 1 (12 * p + q) = nI (N (5 + p) q))
theorem ln_nM.n {N : ln_N} {σ : ln_S} (h : ln_nM N σ) : σ 0 0 = nI (N 0 0) := h.1
theorem ln_nM.b {N : ln_N} {σ : ln_S} (h : ln_nM N σ) {p : Nat} (hp : p < 12) : σ 2 p = nI (N 1 p) := (h.2 p hp).1
theorem ln_nM.pr {N : ln_N} {σ : ln_S} (h : ln_nM N σ) {p : Nat} (hp : p < 12) : σ 3 p = nI (N 2 p) := (h.2 p hp).2.1
theorem ln_nM.bh {N : ln_N} {σ : ln_S} (h : ln_nM N σ) {p : Nat} (hp : p < 12) : σ 4 p = nI (N 3 p) := (h.2 p hp).2.2.1
theorem ln_nM.w {N : ln_N} {σ : ln_S} (h : ln_nM N σ) {p q : Nat} (hp : p < 12) (hq : q < 12) : σ 1 (12 * p + q) = nI (N (5 + p) q) := (h.2 p hp).2.2.2 q hq
theorem ln_nM.up {N : ln_N} {σ : ln_S} (h : ln_nM N σ) {k : Nat} (hk : 5 ≤ k) (f : Nat → Int32) : ln_nM N (ln_up σ k f) := by
  refine ⟨by rw [ln_up_n _ _ (by omega)]; exact h.1, fun p hp => ?_⟩
  rw [ln_up_n _ _ (by omega), ln_up_n _ _ (by omega), ln_up_n _ _ (by omega), ln_up_n _ _ (by omega)]
  exact h.2 p hp
theorem ln_nM.up0 {N : ln_N} {σ : ln_S} (h : ln_nM N σ) {k : Nat} (hk : k ≠ 0) (x : Int32) : ln_nM N (ln_up σ 0 (upd (σ 0) k x)) := by
  refine ⟨by rw [ln_up_s]; unfold upd; rw [if_neg (Ne.symm hk)]; exact h.1, fun p hp => ?_⟩
  rw [ln_up_n _ _ (by omega), ln_up_n _ _ (by omega), ln_up_n _ _ (by omega), ln_up_n _ _ (by omega)]
  exact h.2 p hp
/-- an int in a range from 0 on -/
def ln_inr (x : Int32) (n : Nat) : Bool := decide (0 ≤ x.toInt ∧ x.toInt < n)
theorem ln_inr_t {x : Int32} {n : Nat} (hn : n ≤ 2 ^ 30) (h : ln_inr x n = true) : ∃ p : Nat, p < n ∧ x = nI p := by
  have h1 := of_decide_eq_true h
  refine ⟨x.toInt.toNat, by omega, ?_⟩
  apply Int32.toInt_inj.mp
  rw [nI_toInt (by omega)]
  omega
theorem ln_inr_nI {p n : Nat} (hp : p < 2 ^ 31) : ln_inr (nI p) n = decide (p < n) := by
  unfold ln_inr
  rw [nI_toInt hp]
  apply decide_eq_decide.mpr
  omega
theorem ln_inr_lt {x : Int32} {n : Nat} (h : x < 0) : ln_inr x n = false := by
  apply decide_eq_false
  have h1 := Int32.lt_iff_toInt_lt.mp h
  have h2 : (0 : Int32).toInt = 0 := rfl
  omega
theorem ln_inr_ge {x : Int32} {n : Nat} (hn : n < 2 ^ 31) (h : nI n ≤ x) : ln_inr x n = false := by
  apply decide_eq_false
  have h1 := Int32.le_iff_toInt_le.mp h
  rw [nI_toInt hn] at h1
  omega
theorem ln_inr_in {x : Int32} {n : Nat} (hn : n < 2 ^ 31) (h : ¬ x < 0) (h2 : ¬ nI n ≤ x) : ln_inr x n = true := by
  apply decide_eq_true
  have h1 : ¬ x.toInt < (0 : Int32).toInt := fun q => h (Int32.lt_iff_toInt_lt.mpr q)
  have h3 : (0 : Int32).toInt = 0 := rfl
  have h4 : ¬ (nI n).toInt ≤ x.toInt := fun q => h2 (Int32.le_iff_toInt_le.mpr q)
  rw [nI_toInt hn] at h4
  omega
theorem ln_inr_gt {x : Int32} {n : Nat} (hn : n + 1 < 2 ^ 31) (h : nI n < x) : ln_inr x (n + 1) = false := by
  apply decide_eq_false
  have h1 := Int32.lt_iff_toInt_lt.mp h
  rw [nI_toInt (by omega)] at h1
  omega
theorem ln_inr_in2 {x : Int32} {n : Nat} (hn : n + 1 < 2 ^ 31) (h : ¬ x < 0) (h2 : ¬ nI n < x) : ln_inr x (n + 1) = true := by
  apply decide_eq_true
  have h1 : ¬ x.toInt < (0 : Int32).toInt := fun q => h (Int32.lt_iff_toInt_lt.mpr q)
  have h3 : (0 : Int32).toInt = 0 := rfl
  have h4 : ¬ (nI n).toInt < x.toInt := fun q => h2 (Int32.lt_iff_toInt_lt.mpr q)
  rw [nI_toInt (by omega)] at h4
  omega
theorem ln_pos2 (n : Nat) : 0 < 2 ^ n := Nat.pow_pos (by decide)
theorem ln_sub1 (n : Nat) : 2 ^ n - 1 + 1 = 2 ^ n := Nat.sub_add_cancel (ln_pos2 n)
/-! sums, unions, counts up to a bound -/
def ln_oru (f : Nat → Nat) : Nat → Nat
  | 0 => 0
  | k + 1 => ln_oru f k ||| f k
def ln_sum (f : Nat → Nat) : Nat → Nat
  | 0 => 0
  | k + 1 => ln_sum f k + f k
def ln_ct (f : Nat → Bool) : Nat → Nat
  | 0 => 0
  | k + 1 => ln_ct f k + (if f k then 1 else 0)
def ln_pc (S : Nat) : Nat := ln_ct S.testBit 12
def ln_bhs (N : ln_N) (S k : Nat) : Nat := ln_oru (fun p => if S.testBit p then N 3 p else 0) k
def ln_wb (N : ln_N) (S : Nat) : Nat := S ||| ln_bhs N S (N 0 0)
theorem ln_bhs_t {N : ln_N} {S k : Nat} (h : S.testBit k = true) : ln_bhs N S (k + 1) = ln_bhs N S k ||| N 3 k := by
  show ln_oru _ k ||| (if S.testBit k then N 3 k else 0) = _
  rw [if_pos h]; rfl
theorem ln_bhs_f {N : ln_N} {S k : Nat} (h : S.testBit k = false) : ln_bhs N S (k + 1) = ln_bhs N S k := by
  show ln_oru _ k ||| (if S.testBit k then N 3 k else 0) = _
  rw [if_neg (by rw [h]; decide), Nat.or_zero]; rfl
theorem ln_oru_lt {f : Nat → Nat} {n : Nat} (h : ∀ k, f k < 2 ^ n) : ∀ k, ln_oru f k < 2 ^ n
  | 0 => ln_pos2 n
  | k + 1 => Nat.or_lt_two_pow (ln_oru_lt h k) (h k)
theorem ln_bhs_lt {N : ln_N} (hW : ln_wf N) (S k : Nat) : ln_bhs N S k < 2 ^ N 0 0 := by
  apply ln_oru_lt
  intro p
  show (if S.testBit p then N 3 p else 0) < _
  split
  · exact hW.bhn p
  · exact ln_pos2 _
theorem ln_bhs12 {N : ln_N} (hW : ln_wf N) (S k : Nat) : ln_bhs N S k < 4096 := Nat.lt_of_lt_of_le (ln_bhs_lt hW S k) hW.p12
theorem ln_wb_lt {N : ln_N} (hW : ln_wf N) {S : Nat} (hS : S < 2 ^ N 0 0) : ln_wb N S < 2 ^ N 0 0 := Nat.or_lt_two_pow hS (ln_bhs_lt hW S _)
theorem ln_wb12 {N : ln_N} (hW : ln_wf N) {S : Nat} (hS : S < 4096) : ln_wb N S < 4096 := ln_or12 hS (ln_bhs12 hW S _)
/-- the weights onto p of those that are on, up to k -/
def ln_wt (N : ln_N) (S p k : Nat) : Nat := ln_sum (fun q => if S.testBit q then N (5 + q) p else 0) k
theorem ln_wt_t {N : ln_N} {S p k : Nat} (h : S.testBit k = true) : ln_wt N S p (k + 1) = ln_wt N S p k + N (5 + k) p := by
  show ln_sum _ k + (if S.testBit k then N (5 + k) p else 0) = _
  rw [if_pos h]; rfl
theorem ln_wt_f {N : ln_N} {S p k : Nat} (h : S.testBit k = false) : ln_wt N S p (k + 1) = ln_wt N S p k := by
  show ln_sum _ k + (if S.testBit k then N (5 + k) p else 0) = _
  rw [if_neg (by rw [h]; decide), Nat.add_zero]; rfl
theorem ln_sum_le {f : Nat → Nat} {b : Nat} (h : ∀ k, f k ≤ b) : ∀ k, ln_sum f k ≤ b * k
  | 0 => Nat.zero_le _
  | k + 1 => by
    have h1 := ln_sum_le h k
    have h2 := h k
    show ln_sum f k + f k ≤ b * (k + 1)
    rw [Nat.mul_succ]
    omega
theorem ln_wt_le {N : ln_N} (hW : ln_wf N) (S p k : Nat) : ln_wt N S p k ≤ 9 * k := by
  apply ln_sum_le
  intro q
  show (if S.testBit q then N (5 + q) p else 0) ≤ 9
  have := ((hW.2 q).2.2 p).1
  split <;> omega
def ln_pri (N : ln_N) (S k : Nat) : Nat := ln_sum (fun q => if S.testBit q then N 2 q else 0) k
theorem ln_pri_t {N : ln_N} {S k : Nat} (h : S.testBit k = true) : ln_pri N S (k + 1) = ln_pri N S k + N 2 k := by
  show ln_sum _ k + (if S.testBit k then N 2 k else 0) = _
  rw [if_pos h]; rfl
theorem ln_pri_f {N : ln_N} {S k : Nat} (h : S.testBit k = false) : ln_pri N S (k + 1) = ln_pri N S k := by
  show ln_sum _ k + (if S.testBit k then N 2 k else 0) = _
  rw [if_neg (by rw [h]; decide), Nat.add_zero]; rfl
theorem ln_pri_le {N : ln_N} (hW : ln_wf N) (S k : Nat) : ln_pri N S k ≤ 1000 * k := by
  apply ln_sum_le
  intro q
  show (if S.testBit q then N 2 q else 0) ≤ 1000
  have := (hW.2 q).2.1
  split <;> omega
def ln_bc (x : Int32) : Int32 :=
  let a := x - ((x.toUInt32 >>> ((nI 1).toUInt32 &&& Int32.toUInt32 31)).toInt32 &&& 1431655765)
  let b := (a &&& 858993459) + ((a.toUInt32 >>> ((nI 2).toUInt32 &&& Int32.toUInt32 31)).toInt32 &&& 858993459)
  let c := (b + (b.toUInt32 >>> ((nI 4).toUInt32 &&& Int32.toUInt32 31)).toInt32) &&& 252645135
  let d := c + (c.toUInt32 >>> ((nI 8).toUInt32 &&& Int32.toUInt32 31)).toInt32
  let e := d + (d.toUInt32 >>> ((nI 16).toUInt32 &&& Int32.toUInt32 31)).toInt32
  e &&& nI 63
set_option maxRecDepth 100000 in
theorem ln_bc_all : (List.range 4096).all (fun S => decide (ln_bc (nI S) = nI (ln_pc S))) = true := by decide +kernel
theorem ln_bc_ok {S : Nat} (h : S < 4096) : ln_bc (nI S) = nI (ln_pc S) := of_decide_eq_true (List.all_eq_true.mp ln_bc_all S (List.mem_range.mpr h))
theorem ln_ct_le (f : Nat → Bool) : ∀ k, ln_ct f k ≤ k
  | 0 => Nat.le_refl 0
  | k + 1 => by
    have h := ln_ct_le f k
    show ln_ct f k + (if f k then 1 else 0) ≤ k + 1
    split <;> omega
theorem ln_pc_le (S : Nat) : ln_pc S ≤ 12 := ln_ct_le _ 12
/-- a raw 'in' is the same -/
theorem ln_in_inr {x : Int32} {n : Nat} (hn : n < 2 ^ 30) : decide (0 ≤ x ∧ x ≤ nI n - nI 1) = ln_inr x n := by
  have e : (nI n - nI 1).toInt = (n : Int) - 1 := pk_sub_toInt (by omega) (by decide)
  unfold ln_inr
  apply decide_eq_decide.mpr
  rw [Int32.le_iff_toInt_le, Int32.le_iff_toInt_le, e]
  have h3 : (0 : Int32).toInt = 0 := rfl
  omega
theorem ln_in_inr2 {x : Int32} {n : Nat} (hn : n + 1 < 2 ^ 31) : decide (0 ≤ x ∧ x ≤ nI n) = ln_inr x (n + 1) := by
  unfold ln_inr
  apply decide_eq_decide.mpr
  rw [Int32.le_iff_toInt_le, Int32.le_iff_toInt_le, nI_toInt (by omega)]
  have h3 : (0 : Int32).toInt = 0 := rfl
  omega
