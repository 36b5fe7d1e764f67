/-! what the tables hold, as numbers -/
def ln_dn {α : Type} (F : (Nat → α) → Nat → α) (z : α) : Nat → Nat → α
  | 0, _ => z
  | k + 1, S => F (ln_dn F z k) S
def ln_dv {α : Type} (F : (Nat → α) → Nat → α) (z : α) (M S : Nat) : α := ln_dn F z (M - S) S
theorem ln_dn_st {α : Type} {F : (Nat → α) → Nat → α} {z : α} {M : Nat} (hF : ∀ (f g : Nat → α) (S : Nat), S < M → (∀ T, S < T → T < M → f T = g T) → F f S = F g S) : ∀ (k j S : Nat), S < M → M - S ≤ k → M - S ≤ j → ln_dn F z k S = ln_dn F z j S
  | 0, j, S, h1, h2, h3 => by omega
  | k + 1, 0, S, h1, h2, h3 => by omega
  | k + 1, j + 1, S, h1, h2, h3 => hF _ _ S h1 (fun T hT hM => ln_dn_st hF k j T hM (by omega) (by omega))
theorem ln_dv_eq {α : Type} {F : (Nat → α) → Nat → α} {z : α} {M : Nat} (hF : ∀ (f g : Nat → α) (S : Nat), S < M → (∀ T, S < T → T < M → f T = g T) → F f S = F g S) {S : Nat} (hS : S < M) : ln_dv F z M S = F (ln_dv F z M) S := by
  unfold ln_dv
  obtain ⟨k, hk⟩ : ∃ k, M - S = k + 1 := ⟨M - S - 1, by omega⟩
  rw [hk]
  show F (ln_dn F z k) S = _
  exact hF _ _ S hS (fun T hT hM => ln_dn_st hF k (M - T) T hM (by omega) (Nat.le_refl _))
theorem ln_sb_le {a b : Nat} (h : ln_sb a b) : a ≤ b := Nat.le_of_testBit h
theorem ln_sb_lt {a b : Nat} (h : ln_sb a b) (hne : a ≠ b) : a < b := Nat.lt_of_le_of_ne (ln_sb_le h) hne
theorem ln_sb_put {a : Nat} {p : Nat} (h : a.testBit p = false) : a < a ||| 2 ^ p := ln_sb_lt (ln_sb_or _ _) (fun q => by
  have h1 : (a ||| 2 ^ p).testBit p = true := by rw [Nat.testBit_or, Nat.testBit_two_pow_self, Bool.or_true]
  rw [← q, h] at h1
  exact absurd h1 (by decide))
theorem ln_sb_tr {a b c : Nat} (h : ln_sb a b) (h2 : ln_sb b c) : ln_sb a c := fun i q => h2 i (h i q)
theorem ln_sb_rf (a : Nat) : ln_sb a a := fun _ h => h
theorem ln_sb_st (N : ln_N) (r S : Nat) : ∀ t, ln_sb S (ln_st N r S t)
  | 0 => ln_sb_rf S
  | t + 1 => ln_sb_tr (ln_sb_st N r S t) (ln_sb_tk N r (t + 1) _)
theorem ln_sb_end (N : ln_N) (r S : Nat) : ln_sb S (ln_end N r S) := ln_sb_st N r S 13
theorem ln_end_lt {N : ln_N} (hW : ln_wf N) (r : Nat) {S : Nat} (hS : S < 2 ^ N 0 0) : ln_end N r S < 2 ^ N 0 0 := ln_st_lt hW r hS 13
theorem ln_end12 {N : ln_N} (hW : ln_wf N) (r : Nat) {S : Nat} (hS : S < 2 ^ N 0 0) : ln_end N r S < 4096 := ln_n12 hW (ln_end_lt hW r hS)
def ln_al (N : ln_N) : Nat := 2 ^ N 0 0 - 1
def ln_go (N : ln_N) (r S : Nat) : Bool := decide (ln_end N r S = 2 ^ N 0 0 - 1)
/-- the least of g over those below k that c takes; a million without one -/
def ln_mn (g : Nat → Nat) (c : Nat → Bool) : Nat → Nat
  | 0 => 1000000
  | k + 1 => if c k = true ∧ g k < ln_mn g c k then g k else ln_mn g c k
def ln_mx (g : Nat → Nat) (c : Nat → Bool) : Nat → Nat
  | 0 => 0
  | k + 1 => if c k = true ∧ ln_mx g c k < g k then g k else ln_mx g c k
def ln_btF (N : ln_N) (f : Nat → Nat) (S : Nat) : Nat := if S = 2 ^ N 0 0 - 1 then 0 else if ln_wb N S = 2 ^ N 0 0 - 1 then 1 else 1 + ln_mn (fun p => f (ln_wb N S ||| 2 ^ p)) (fun p => !(ln_wb N S).testBit p) (N 0 0)
def ln_bt (N : ln_N) (S : Nat) : Nat := ln_dv (ln_btF N) 0 4096 S
def ln_wnf (N : ln_N) (r : Nat) (f : Nat → Bool) (S : Nat) : Nat → Bool := fun p => !S.testBit p && !f (ln_end N r (S ||| 2 ^ p))
def ln_wnF (N : ln_N) (r : Nat) (f : Nat → Bool) (S : Nat) : Bool := decide (ln_fs (ln_wnf N r f S) (N 0 0) < N 0 0)
def ln_wn (N : ln_N) (r S : Nat) : Bool := ln_dv (ln_wnF N r) false (2 ^ N 0 0) S
def ln_nx (N : ln_N) (b w : Nat) : Nat := b ||| ln_df (ln_bhs N b (N 0 0)) w
def ln_bw (N : ln_N) (f : Nat → Nat → Nat) (b w : Nat) : Nat := if ln_nx N b w = b then N 0 0 - ln_pc b else f (ln_nx N b w) w
def ln_svF (N : ln_N) (f : Nat → Nat → Nat) (b : Nat) : Nat → Nat := fun w => if b ||| w = 2 ^ N 0 0 - 1 then N 0 0 - ln_pc b else ln_mx (fun p => ln_bw N f b (w ||| 2 ^ p)) (fun p => !(b ||| w).testBit p) (N 0 0)
def ln_sv (N : ln_N) (b w : Nat) : Nat := ln_dv (ln_svF N) (fun _ => 0) 4096 b w
def ln_ft (N : ln_N) (r S : Nat) : Bool := decide (S ≠ 0 ∧ ln_tp N r (ln_df (2 ^ N 0 0 - 1) S) = ln_df (2 ^ N 0 0 - 1) S)
def ln_lf (N : ln_N) (r S : Nat) : Bool := decide (ln_ft N r S = true ∧ ∀ P, P < S → P ≠ 0 → P &&& S = P → ln_ft N r P = false)
/-- k forts apart within S -/
def ln_pk (N : ln_N) (r : Nat) : Nat → Nat → Prop
  | 0, _ => True
  | k + 1, S => ∃ F, ln_ft N r F = true ∧ F &&& S = F ∧ ln_pk N r k (ln_df S F)
def ln_isA (N : ln_N) (r S v : Nat) : Prop := ln_pk N r v S ∧ ¬ ln_pk N r (v + 1) S
def ln_an (N : ln_N) (h : Nat → Bool) (S p : Nat) : Nat → Bool := fun q => (S.testBit q && decide (0 < N (5 + q) p)) && h (ln_df S (2 ^ q) ||| 2 ^ p)
def ln_aa (N : ln_N) (h : Nat → Bool) (S : Nat) : Bool := decide (∀ p, p < N 0 0 → S.testBit p = false → ln_fs (ln_an N h S p) (N 0 0) < N 0 0)
def ln_gs (N : ln_N) (h : Nat → Bool) : Nat → Nat → Bool
  | 0 => h
  | S + 1 => fun T => if T = S then ln_gs N h S S && ln_aa N (ln_gs N h S) S else ln_gs N h S T
def ln_gr (N : ln_N) : Nat → Nat → Bool
  | 0 => fun _ => true
  | k + 1 => ln_gs N (ln_gr N k) (2 ^ N 0 0)
def ln_hd (N : ln_N) : Nat → Bool := ln_gr N 4097
/-- a table with a version: e was its version when it was filled, w is the net's now -/
def ln_vt (x : Int32) (w : Nat) (P : Prop) : Prop := ∃ e, x = nI e ∧ e ≤ w ∧ (e = w → P)
def ln_ver (rv bv r : Nat) : Nat := if r = 0 then rv + bv else rv
def ln_vs (σ : ln_S) (rv bv : Nat) : Prop := σ 1 1 = nI rv ∧ σ 1 2 = nI bv ∧ 1 ≤ rv ∧ rv + bv < 1000000
theorem ln_ver_lt {σ : ln_S} {rv bv : Nat} (h : ln_vs σ rv bv) (r : Nat) : ln_ver rv bv r < 1000000 := by
  have := h.2.2.2
  unfold ln_ver; split <;> omega
def ln_eT (N : ln_N) (σ : ln_S) (r : Nat) : Prop := ∀ S, S < 2 ^ N 0 0 → σ (37 + r) S = nI (ln_end N r S)
def ln_eK (N : ln_N) (σ : ln_S) (rv bv : Nat) : Prop := ∀ r, r < 3 → ln_vt (σ 9 r) (ln_ver rv bv r) (ln_eT N σ r)
def ln_aK (N : ln_N) (σ : ln_S) (rv bv : Nat) : Prop := ∀ r, r < 2 → ln_vt (σ 16 r) (ln_ver rv bv r) (∃ z, z ≤ 12 ∧ σ 15 r = nI z ∧ ln_isA N r (2 ^ N 0 0 - 1) z)
def ln_tT (N : ln_N) (σ : ln_S) : Prop := ∀ S, S < 2 ^ N 0 0 → σ 18 S = nI (ln_bt N S)
def ln_tK (N : ln_N) (σ : ln_S) (rv : Nat) : Prop := ln_vt (σ 17 0) rv (ln_tT N σ)
def ln_hT (N : ln_N) (σ : ln_S) : Prop := ∀ S, S < 2 ^ N 0 0 → σ 21 S = ln_b (ln_hd N S)
def ln_hK (N : ln_N) (σ : ln_S) (rv : Nat) : Prop := ln_vt (σ 20 0) rv (ln_hT N σ)
def ln_wT (N : ln_N) (σ : ln_S) (r : Nat) : Prop := ∀ S, S < 2 ^ N 0 0 → σ (40 + r) S = ln_b (ln_wn N r S)
def ln_wK (N : ln_N) (σ : ln_S) (rv bv : Nat) : Prop := ∀ r, r < 3 → ln_vt (σ 24 r) (ln_ver rv bv r) (ln_wT N σ r)
/-- the class's state fits a net; v bounds its versions -/
def ln_CI (N : ln_N) (v : Nat) (σ : ln_S) : Prop := ln_wf N ∧ ln_nC N σ ∧ ∃ rv bv, ln_vs σ rv bv ∧ rv + bv ≤ v ∧ ln_eK N σ rv bv ∧ ln_aK N σ rv bv ∧ ln_tK N σ rv ∧ ln_hK N σ rv ∧ ln_wK N σ rv bv
def ln_mT (N : ln_N) (σ : ln_S) (k : Nat) : Prop :=
  if k < 3 then ∀ S, S < 2 ^ N 0 0 → σ 6 (4096 * k + S) = nI (ln_end N k S)
  else if k < 6 then ∀ S, S < 2 ^ N 0 0 → σ 12 (4096 * (k - 3) + S) = ln_b (ln_wn N (k - 3) S)
  else if k < 8 then ∀ S, S < 2 ^ N 0 0 → σ 7 (4096 * (k - 6) + S) = ln_b (ln_lf N (k - 6) S)
  else if k = 8 then ∀ S, S < 2 ^ N 0 0 → σ 9 S = nI (ln_bt N S)
  else if k = 9 then ∀ b w, b < 2 ^ N 0 0 → w < 2 ^ N 0 0 → b &&& w = 0 → σ 10 (1024 * b + w) = nI (ln_sv N b w)
  else ∀ S, S < 2 ^ N 0 0 → σ 11 S = ln_b (ln_hd N S)
theorem ln_mT_e {N : ln_N} {σ : ln_S} {r : Nat} (hr : r < 3) : ln_mT N σ r = (∀ S, S < 2 ^ N 0 0 → σ 6 (4096 * r + S) = nI (ln_end N r S)) := if_pos hr
theorem ln_mT_w {N : ln_N} {σ : ln_S} {r : Nat} (hr : r < 3) : ln_mT N σ (3 + r) = (∀ S, S < 2 ^ N 0 0 → σ 12 (4096 * r + S) = ln_b (ln_wn N r S)) := by
  unfold ln_mT; rw [if_neg (by omega), if_pos (by omega), Nat.add_sub_cancel_left]
theorem ln_mT_f {N : ln_N} {σ : ln_S} {r : Nat} (hr : r < 2) : ln_mT N σ (6 + r) = (∀ S, S < 2 ^ N 0 0 → σ 7 (4096 * r + S) = ln_b (ln_lf N r S)) := by
  unfold ln_mT; rw [if_neg (by omega), if_neg (by omega), if_pos (by omega), Nat.add_sub_cancel_left]
theorem ln_mT_b {N : ln_N} {σ : ln_S} : ln_mT N σ 8 = (∀ S, S < 2 ^ N 0 0 → σ 9 S = nI (ln_bt N S)) := rfl
theorem ln_mT_s {N : ln_N} {σ : ln_S} : ln_mT N σ 9 = (∀ b w, b < 2 ^ N 0 0 → w < 2 ^ N 0 0 → b &&& w = 0 → σ 10 (1024 * b + w) = nI (ln_sv N b w)) := rfl
theorem ln_mT_h {N : ln_N} {σ : ln_S} : ln_mT N σ 10 = (∀ S, S < 2 ^ N 0 0 → σ 11 S = ln_b (ln_hd N S)) := rfl
/-- the model's known tables are right, but for the one that is being filled -/
def ln_MK (N : ln_N) (σ : ln_S) (E : Nat) : Prop := ∃ K, σ 0 1 = nI K ∧ K < 2048 ∧ ∀ k, k ≠ E → K.testBit k = true → ln_mT N σ k
def ln_MI (N : ln_N) (σ : ln_S) : Prop := ln_wf N ∧ ln_nM N σ ∧ ln_MK N σ 99
/-- a table hangs on its own cells alone -/
theorem ln_mT.of {N : ln_N} {σ τ : ln_S} {k : Nat} (h : ln_mT N σ k) (ho : ∀ c, (k < 3 ∧ c = 6) ∨ (3 ≤ k ∧ k < 6 ∧ c = 12) ∨ (6 ≤ k ∧ k < 8 ∧ c = 7) ∨ (k = 8 ∧ c = 9) ∨ (k = 9 ∧ c = 10) ∨ (10 ≤ k ∧ c = 11) → τ c = σ c) : ln_mT N τ k := by
  unfold ln_mT at h ⊢
  split
  · rename_i h1; rw [if_pos h1] at h; rw [ho 6 (by omega)]; exact h
  · rename_i h1
    rw [if_neg h1] at h
    split
    · rename_i h2; rw [if_pos h2] at h; rw [ho 12 (by omega)]; exact h
    · rename_i h2
      rw [if_neg h2] at h
      split
      · rename_i h3; rw [if_pos h3] at h; rw [ho 7 (by omega)]; exact h
      · rename_i h3
        rw [if_neg h3] at h
        split
        · rename_i h4; rw [if_pos h4] at h; rw [ho 9 (by omega)]; exact h
        · rename_i h4
          rw [if_neg h4] at h
          split
          · rename_i h5; rw [if_pos h5] at h; rw [ho 10 (by omega)]; exact h
          · rename_i h5; rw [if_neg h5] at h; rw [ho 11 (by omega)]; exact h
/-- the course of a rule, begun a tick later -/
theorem ln_st_sh {N : ln_N} {r : Nat} (hr : r ≠ 2) (S : Nat) : ∀ t, ln_st N r S (t + 1) = ln_st N r (ln_tp N r S) t
  | 0 => by
    show ln_tk N r 1 S = ln_tp N r S
    unfold ln_tk; rw [if_neg (by omega)]
  | t + 1 => by
    show ln_tk N r (t + 1 + 1) (ln_st N r S (t + 1)) = ln_tk N r (t + 1) (ln_st N r (ln_tp N r S) t)
    rw [ln_st_sh hr S t]
    unfold ln_tk; rw [if_neg (by omega), if_neg (by omega)]
theorem ln_end_step {N : ln_N} (hW : ln_wf N) {r : Nat} (hr : r ≠ 2) {S : Nat} (hS : S < 2 ^ N 0 0) : ln_end N r S = ln_end N r (ln_tp N r S) := by
  have h1 : ln_end N r S = ln_st N r (ln_tp N r S) 12 := ln_st_sh hr S 12
  have h2 : ln_end N r (ln_tp N r S) = ln_st N r (ln_tp N r S) 12 := ln_st_fix hW (ln_tp_lt hW r hS) 12 (Nat.le_refl 12)
  rw [h1, h2]
theorem ln_end_fix {N : ln_N} {r : Nat} (hr : r ≠ 2) {S : Nat} (h : ln_tp N r S = S) : ln_end N r S = S := by
  have key : ∀ t, ln_st N r S t = S := by
    intro t
    induction t with
    | zero => rfl
    | succ t ih =>
      show ln_tk N r (t + 1) (ln_st N r S t) = S
      rw [ih]; unfold ln_tk; rw [if_neg (by omega)]; exact h
  exact key 13
theorem ln_st_seen {N : ln_N} (S : Nat) : ∀ t, ln_st N 2 S (t + 1) = ln_st N 1 (ln_wb N S) t
  | 0 => rfl
  | t + 1 => by
    show ln_tk N 2 (t + 1 + 1) (ln_st N 2 S (t + 1)) = ln_tk N 1 (t + 1) (ln_st N 1 (ln_wb N S) t)
    rw [ln_st_seen S t]
    unfold ln_tk ln_tp
    rw [if_neg (show ¬ (2 = 2 ∧ t + 1 + 1 = 1) by omega), if_neg (show ¬ (1 = 2 ∧ t + 1 = 1) by omega), if_neg (by decide), if_neg (by decide)]
theorem ln_end_seen {N : ln_N} (hW : ln_wf N) {S : Nat} (hS : S < 2 ^ N 0 0) : ln_end N 2 S = ln_end N 1 (ln_wb N S) := by
  have h1 : ln_end N 2 S = ln_st N 1 (ln_wb N S) 12 := ln_st_seen S 12
  have h2 : ln_end N 1 (ln_wb N S) = ln_st N 1 (ln_wb N S) 12 := ln_st_fix hW (ln_wb_lt hW hS) 12 (Nat.le_refl 12)
  rw [h1, h2]
theorem ln_sb_tp (N : ln_N) (r S : Nat) : ln_sb S (ln_tp N r S) := by unfold ln_tp; split <;> exact ln_sb_or _ _
theorem ln_m1p (n : Nat) : nI (2 ^ n - 1) = nI (2 ^ n) - 1 := (pk_sub (ln_pos2 n)).symm
theorem rn_inn {k : Nat} : nI k + Int32.ofInt (-1) = nI k - 1 := by rw [Int32.sub_eq_add_neg]; rfl
theorem ln_m1_0 : nI 0 - 1 = -1 := by decide
theorem ln_m1_cases (k : Nat) : (k = 0 ∧ nI k - 1 = -1) ∨ ∃ j, k = j + 1 ∧ nI k - 1 = nI j := by
  cases k with
  | zero => exact Or.inl ⟨rfl, ln_m1_0⟩
  | succ j => exact Or.inr ⟨j, rfl, nI_pred j⟩
