/-! forts -/
theorem ln_sb_and {P S : Nat} : P &&& S = P ↔ ln_sb P S := by
  constructor
  · intro h i hi
    rw [← h, Nat.testBit_and, Bool.and_eq_true] at hi
    exact hi.2
  · intro h
    apply Nat.eq_of_testBit_eq
    intro i
    rw [Nat.testBit_and]
    cases hp : P.testBit i with
    | false => rfl
    | true => rw [h i hp]; rfl
theorem ln_sb_eq {a b : Nat} (h : ln_sb a b) (h2 : ln_sb b a) : a = b := Nat.le_antisymm (ln_sb_le h) (ln_sb_le h2)
theorem ln_sb_df (a b : Nat) : ln_sb (ln_df a b) a := fun i h => by rw [ln_df_bit, Bool.and_eq_true] at h; exact h.1
theorem ln_df_t {a b i : Nat} (h1 : a.testBit i = true) (h2 : b.testBit i = false) : (ln_df a b).testBit i = true := by rw [ln_df_bit, h1, h2]; rfl
theorem ln_df_n {a b i : Nat} (h : (ln_df a b).testBit i = true) : b.testBit i = false := by
  rw [ln_df_bit, Bool.and_eq_true] at h
  cases hb : b.testBit i with
  | false => rfl
  | true => rw [hb] at h; exact absurd h.2 (by decide)
theorem ln_df_mono {a b c : Nat} (h : ln_sb a b) : ln_sb (ln_df a c) (ln_df b c) := fun i hi => ln_df_t (h i (ln_sb_df _ _ i hi)) (ln_df_n hi)
theorem ln_df_anti {a b c : Nat} (h : ln_sb b c) : ln_sb (ln_df a c) (ln_df a b) := fun i hi => ln_df_t (ln_sb_df _ _ i hi) (by
  cases hb : b.testBit i with
  | false => rfl
  | true => exact absurd (h i hb) (by rw [ln_df_n hi]; decide))
theorem ln_df_df {A S : Nat} (h : ln_sb S A) : ln_df A (ln_df A S) = S := by
  apply Nat.eq_of_testBit_eq
  intro i
  rw [ln_df_bit, ln_df_bit]
  cases hs : S.testBit i with
  | true => rw [h i hs]; rfl
  | false => cases A.testBit i <;> rfl
theorem ln_wt_mono {N : ln_N} {S T : Nat} (h : ln_sb S T) (p k : Nat) : ln_wt N S p k ≤ ln_wt N T p k := by
  apply ln_sum_mono
  intro q
  show (if S.testBit q then N (5 + q) p else 0) ≤ (if T.testBit q then N (5 + q) p else 0)
  cases hs : S.testBit q with
  | false => simp
  | true => rw [h q hs]; simp
set_option maxRecDepth 100000 in
theorem ln_one_all : (List.range 4096).all (fun x => (x &&& (x - 1) != 0) || (List.range 12).all (fun i => !x.testBit i || x == 2 ^ i)) = true := by decide +kernel
theorem ln_one {x i : Nat} (hx : x < 4096) (h : x &&& (x - 1) = 0) (hi : x.testBit i = true) : x = 2 ^ i := by
  have hi12 : i < 12 := by
    refine Classical.byContradiction (fun q => ?_)
    rw [Nat.testBit_lt_two_pow (Nat.lt_of_lt_of_le hx (Nat.pow_le_pow_right (n := 2) (by decide) (show 12 ≤ i by omega)))] at hi
    exact absurd hi (by decide)
  have h1 := List.all_eq_true.mp ln_one_all x (List.mem_range.mpr hx)
  rw [h] at h1
  have h2 := List.all_eq_true.mp (by simpa using h1 : (List.range 12).all (fun i => !x.testBit i || x == 2 ^ i) = true) i (List.mem_range.mpr hi12)
  rw [hi] at h2
  simpa using h2
theorem ln_pow_dec (i : Nat) : (2 : Nat) ^ i &&& (2 ^ i - 1) = 0 := by
  apply Nat.eq_of_testBit_eq
  intro j
  rw [Nat.testBit_and, Nat.testBit_two_pow, ln_all_bit, Nat.zero_testBit]
  by_cases h : i = j
  · subst h; simp
  · rw [decide_eq_false h]; rfl
theorem ln_tB_mono {N : ln_N} {S T : Nat} (h : ln_sb S T) : ln_sb (ln_tB N S) (ln_tB N T) := by
  intro i hi
  unfold ln_tB at hi ⊢
  rw [Nat.testBit_or, Bool.or_eq_true] at hi ⊢
  rcases hi with hi | hi
  · exact Or.inl (h i hi)
  · obtain ⟨p, hp, hb⟩ := (ln_oru_bit _ _ _).mp hi
    unfold ln_tBf at hb
    split at hb
    · rename_i hc
      rw [Nat.testBit_two_pow] at hb
      have e : p = i := of_decide_eq_true hb
      subst e
      cases ht : T.testBit p with
      | true => exact Or.inl rfl
      | false =>
        refine Or.inr ((ln_oru_bit _ _ _).mpr ⟨p, hp, ?_⟩)
        rw [ln_tBf_c ht (Nat.le_trans hc.2 (ln_wt_mono h p _)), Nat.testBit_two_pow_self]
    · rw [Nat.zero_testBit] at hb; exact absurd hb (by decide)
theorem ln_tF_mono {N : ln_N} (hW : ln_wf N) {S T : Nat} (h : ln_sb S T) : ln_sb (ln_tF N S) (ln_tF N T) := by
  intro i hi
  unfold ln_tF at hi ⊢
  rw [Nat.testBit_or, Bool.or_eq_true] at hi ⊢
  rcases hi with hi | hi
  · exact Or.inl (h i hi)
  · obtain ⟨q, hq, hb⟩ := (ln_oru_bit _ _ _).mp hi
    unfold ln_tFf at hb
    split at hb
    · rename_i hc
      cases ht : T.testBit i with
      | true => exact Or.inl rfl
      | false =>
        refine Or.inr ((ln_oru_bit _ _ _).mpr ⟨q, hq, ?_⟩)
        have h1 : ln_off N S q = 2 ^ i := ln_one (ln_df12 (hW.bh12 q)) hc.2 hb
        have h2 : ln_off N T q = 2 ^ i := by
          apply ln_sb_eq
          · rw [← h1]; exact ln_df_anti h
          · intro j hj
            rw [Nat.testBit_two_pow] at hj
            have e : i = j := of_decide_eq_true hj
            subst e
            exact ln_df_t (ln_sb_df _ _ i hb) ht
        rw [ln_tFf_c (h q hc.1) (by rw [h2]; exact ln_pow_dec i), h2, Nat.testBit_two_pow_self]
    · rw [Nat.zero_testBit] at hb; exact absurd hb (by decide)
theorem ln_tp_mono {N : ln_N} (hW : ln_wf N) (r : Nat) {S T : Nat} (h : ln_sb S T) : ln_sb (ln_tp N r S) (ln_tp N r T) := by
  unfold ln_tp; split
  · exact ln_tB_mono h
  · exact ln_tF_mono hW h
theorem ln_end_cl {N : ln_N} (hW : ln_wf N) {r : Nat} (hr : r ≠ 2) {S : Nat} (hS : S < 2 ^ N 0 0) : ln_tp N r (ln_end N r S) = ln_end N r S := by
  have h := ln_st_fix hW hS (r := r) 13 (by decide)
  have h2 : ln_tk N r 14 (ln_st N r S 13) = ln_st N r S 13 := h
  unfold ln_tk at h2
  rw [if_neg (by omega)] at h2
  exact h2
theorem ln_end_min {N : ln_N} (hW : ln_wf N) {r : Nat} (hr : r ≠ 2) {S Y : Nat} (h : ln_sb S Y) (hY : ln_tp N r Y = Y) : ln_sb (ln_end N r S) Y := by
  have key : ∀ t, ln_sb (ln_st N r S t) Y := by
    intro t
    induction t with
    | zero => exact h
    | succ t ih =>
      show ln_sb (ln_tk N r (t + 1) (ln_st N r S t)) Y
      unfold ln_tk; rw [if_neg (by omega), ← hY]
      exact ln_tp_mono hW r ih
  exact key 13
/-- the union of the forts within S -/
def ln_fw (N : ln_N) (r S : Nat) : Nat := ln_df (2 ^ N 0 0 - 1) (ln_end N r (ln_df (2 ^ N 0 0 - 1) S))
theorem ln_dfa_lt (n S : Nat) : ln_df (2 ^ n - 1) S < 2 ^ n := ln_df_lt (ln_all_lt n)
theorem ln_ft_cl {N : ln_N} {r S : Nat} (h : ln_ft N r S = true) : S ≠ 0 ∧ ln_tp N r (ln_df (2 ^ N 0 0 - 1) S) = ln_df (2 ^ N 0 0 - 1) S := of_decide_eq_true h
theorem ln_fw_lt {N : ln_N} {r S : Nat} : ln_fw N r S < 2 ^ N 0 0 := ln_dfa_lt _ _
theorem ln_fw_sb {N : ln_N} {r S : Nat} (hS : S < 2 ^ N 0 0) : ln_sb (ln_fw N r S) S := by
  have h := ln_df_anti (a := 2 ^ N 0 0 - 1) (ln_sb_end N r (ln_df (2 ^ N 0 0 - 1) S))
  rw [ln_df_df (ln_sb_all hS)] at h
  exact h
theorem ln_fw_big {N : ln_N} (hW : ln_wf N) {r G S : Nat} (hr : r ≠ 2) (hS : S < 2 ^ N 0 0) (hG : ln_ft N r G = true) (h : ln_sb G S) : ln_sb G (ln_fw N r S) := by
  have h1 := ln_end_min hW hr (S := ln_df (2 ^ N 0 0 - 1) S) (Y := ln_df (2 ^ N 0 0 - 1) G) (ln_df_anti h) (ln_ft_cl hG).2
  have h2 := ln_df_anti (a := 2 ^ N 0 0 - 1) h1
  rw [ln_df_df (ln_sb_tr h (ln_sb_all hS))] at h2
  exact h2
theorem ln_fw_ft {N : ln_N} (hW : ln_wf N) {r S : Nat} (hr : r ≠ 2) (h0 : ln_fw N r S ≠ 0) : ln_ft N r (ln_fw N r S) = true := by
  apply decide_eq_true
  refine ⟨h0, ?_⟩
  have he := ln_end_lt hW r (ln_dfa_lt (N 0 0) S)
  unfold ln_fw
  rw [ln_df_df (ln_sb_all he)]
  exact ln_end_cl hW hr (ln_dfa_lt _ _)
theorem ln_fw_eq {N : ln_N} (hW : ln_wf N) {r S : Nat} (hr : r ≠ 2) (hS : S < 2 ^ N 0 0) (h0 : S ≠ 0) : ln_fw N r S = S ↔ ln_ft N r S = true := by
  constructor
  · intro h
    have := ln_fw_ft hW hr (S := S) (by rw [h]; exact h0)
    rw [h] at this
    exact this
  · intro h
    exact ln_sb_eq (ln_fw_sb hS) (ln_fw_big hW hr hS h (ln_sb_rf S))
theorem ln_sb_exists {P S : Nat} (h : ln_sb P S) (hne : P ≠ S) : ∃ p, S.testBit p = true ∧ P.testBit p = false := by
  refine Classical.byContradiction (fun hn => hne (ln_sb_eq h (fun i hi => ?_)))
  cases hp : P.testBit i with
  | true => rfl
  | false => exact absurd ⟨i, hi, hp⟩ hn
theorem ln_bit_n {n S p : Nat} (hS : S < 2 ^ n) (h : S.testBit p = true) : p < n := by
  refine Classical.byContradiction (fun q => ?_)
  rw [Nat.testBit_lt_two_pow (Nat.lt_of_lt_of_le hS (Nat.pow_le_pow_right (n := 2) (by decide) (show n ≤ p by omega)))] at h
  exact absurd h (by decide)
theorem ln_df_p {S p i : Nat} : (ln_df S (2 ^ p)).testBit i = (S.testBit i && !decide (p = i)) := by rw [ln_df_bit, Nat.testBit_two_pow]
theorem ln_sb_dfp {P S p : Nat} (h : ln_sb P S) (hp : P.testBit p = false) : ln_sb P (ln_df S (2 ^ p)) := fun i hi => by
  rw [ln_df_p, h i hi]
  by_cases e : p = i
  · subst e; rw [hp] at hi; exact absurd hi (by decide)
  · rw [decide_eq_false e]; rfl
theorem ln_dfp_ne {S p : Nat} (h : S.testBit p = true) {G : Nat} (hG : ln_sb G (ln_df S (2 ^ p))) : G ≠ S := fun e => by
  subst e
  have := hG p h
  rw [ln_df_p, decide_eq_true rfl] at this
  simp at this
/-- least, as the class asks it -/
theorem ln_lf_iff {N : ln_N} (hW : ln_wf N) {r S : Nat} (hr : r ≠ 2) (hS : S < 2 ^ N 0 0) (h0 : S ≠ 0) : ln_lf N r S = true ↔ (ln_fw N r S = S ∧ ∀ p, p < N 0 0 → S.testBit p = true → ln_fw N r (ln_df S (2 ^ p)) = 0) := by
  unfold ln_lf
  rw [decide_eq_true_iff]
  constructor
  · rintro ⟨h1, h2⟩
    refine ⟨(ln_fw_eq hW hr hS h0).mpr h1, fun p _ hb => ?_⟩
    refine Classical.byContradiction (fun hn => ?_)
    have h3 := ln_fw_ft hW hr hn
    have h4 := ln_fw_sb (N := N) (r := r) (S := ln_df S (2 ^ p)) (ln_df_lt hS)
    have h5 : ln_sb (ln_fw N r (ln_df S (2 ^ p))) S := ln_sb_tr h4 (ln_sb_df _ _)
    have h6 := h2 _ (ln_sb_lt h5 (ln_dfp_ne hb h4)) hn (ln_sb_and.mpr h5)
    rw [h3] at h6
    exact absurd h6 (by decide)
  · rintro ⟨h1, h2⟩
    refine ⟨(ln_fw_eq hW hr hS h0).mp h1, fun P hP hP0 hs => ?_⟩
    cases hf : ln_ft N r P with
    | false => rfl
    | true =>
      have hsb := ln_sb_and.mp hs
      obtain ⟨p, hp1, hp2⟩ := ln_sb_exists hsb (by omega)
      have h3 := ln_fw_big hW hr (ln_df_lt hS) hf (ln_sb_dfp hsb hp2)
      rw [h2 p (ln_bit_n hS hp1) hp1] at h3
      have := ln_sb_le h3
      omega
/-- the parts of a set, downwards -/
theorem ln_part_dn : ∀ (set part Q : Nat), part &&& set = part → 0 < part → Q &&& set = Q → Q < part → Q ≤ (part - 1) &&& set := by
  intro set
  induction set using Nat.strongRecOn with
  | ind set ih =>
    intro part Q hp h0 hq hlt
    have e1 : (part &&& set) / 2 = part / 2 &&& set / 2 := Nat.and_div_two
    have e2 : (Q &&& set) / 2 = Q / 2 &&& set / 2 := Nat.and_div_two
    have e3 : ((part - 1) &&& set) / 2 = (part - 1) / 2 &&& set / 2 := Nat.and_div_two
    have b1 : (part &&& set).testBit 0 = (part.testBit 0 && set.testBit 0) := Nat.testBit_and ..
    have b2 : (Q &&& set).testBit 0 = (Q.testBit 0 && set.testBit 0) := Nat.testBit_and ..
    have b3 : ((part - 1) &&& set).testBit 0 = ((part - 1).testBit 0 && set.testBit 0) := Nat.testBit_and ..
    rw [hp] at e1 b1
    rw [hq] at e2 b2
    simp only [Nat.testBit_zero] at b1 b2 b3
    have hs0 : set ≠ 0 := fun q => by subst q; rw [Nat.and_zero] at hp; omega
    rcases Nat.mod_two_eq_zero_or_one part with hm | hm
    · have h1 : (part - 1) / 2 = part / 2 - 1 := by omega
      have h2 : (part - 1) % 2 = 1 := by omega
      have h3 := ih (set / 2) (by omega) (part / 2) (Q / 2) e1.symm (by omega) e2.symm (by omega)
      rw [← h1, ← e3] at h3
      have hb : Q % 2 ≤ ((part - 1) &&& set) % 2 := by
        rcases Nat.mod_two_eq_zero_or_one Q with q | q
        · omega
        · have hs : set % 2 = 1 := by
            rcases Nat.mod_two_eq_zero_or_one set with z | z
            · rw [q, z] at b2; simp at b2
            · exact z
          rw [h2, hs] at b3
          have b4 : ((part - 1) &&& set) % 2 = 1 := of_decide_eq_true (b3.trans (by decide))
          omega
      omega
    · have h1 : (part - 1) / 2 = part / 2 := by omega
      rw [h1, ← e1] at e3
      omega
theorem ln_part_sb (part set : Nat) : ln_sb ((part - 1) &&& set) set := fun i h => by rw [Nat.testBit_and, Bool.and_eq_true] at h; exact h.2
theorem ln_part_lt {part : Nat} (set : Nat) (h : 0 < part) : (part - 1) &&& set < part := Nat.lt_of_le_of_lt Nat.and_le_left (by omega)
/-! forts apart -/
theorem ln_pk_mono {N : ln_N} {r : Nat} : ∀ {k S T : Nat}, ln_sb S T → ln_pk N r k S → ln_pk N r k T
  | 0, _, _, _, _ => trivial
  | k + 1, S, T, h, ⟨F, h1, h2, h3⟩ => ⟨F, h1, ln_sb_and.mpr (ln_sb_tr (ln_sb_and.mp h2) h), ln_pk_mono (ln_df_mono h) h3⟩
theorem ln_pk_less {N : ln_N} {r k S : Nat} (h : ln_pk N r (k + 1) S) : ln_pk N r k S := by
  obtain ⟨F, h1, h2, h3⟩ := h
  exact ln_pk_mono (ln_sb_df _ _) h3
theorem ln_pk_le {N : ln_N} {r S : Nat} : ∀ {k j : Nat}, j ≤ k → ln_pk N r k S → ln_pk N r j S
  | 0, j, h, _ => by rw [show j = 0 by omega]; trivial
  | k + 1, j, h, hp => by
    by_cases e : j = k + 1
    · rw [e]; exact hp
    · exact ln_pk_le (show j ≤ k by omega) (ln_pk_less hp)
theorem ln_isA_le {N : ln_N} {r S v k : Nat} (h : ln_isA N r S v) (hk : ln_pk N r k S) : k ≤ v := by
  refine Classical.byContradiction (fun q => h.2 (ln_pk_le (show v + 1 ≤ k by omega) hk))
theorem ln_isA_one {N : ln_N} {r S v w : Nat} (h : ln_isA N r S v) (h2 : ln_isA N r S w) : v = w := Nat.le_antisymm (ln_isA_le h2 h.1) (ln_isA_le h h2.1)
theorem ln_df_comm (a b c : Nat) : ln_df (ln_df a b) c = ln_df (ln_df a c) b := by
  apply Nat.eq_of_testBit_eq
  intro i
  rw [ln_df_bit, ln_df_bit, ln_df_bit, ln_df_bit]
  cases a.testBit i <;> cases b.testBit i <;> cases c.testBit i <;> rfl
theorem ln_df_apart {F S G : Nat} (h : ln_sb F S) (hd : ∀ i, G.testBit i = true → F.testBit i = false) : ln_sb F (ln_df S G) := fun i hi => ln_df_t (h i hi) (by
  cases hg : G.testBit i with
  | false => rfl
  | true => rw [hd i hg] at hi; exact absurd hi (by decide))
theorem ln_pk_low {N : ln_N} {r : Nat} : ∀ {k S l : Nat}, S.testBit l = true → ln_pk N r (k + 1) S → ln_pk N r (k + 1) (ln_df S (2 ^ l)) ∨ ∃ F, ln_ft N r F = true ∧ F.testBit l = true ∧ F &&& S = F ∧ ln_pk N r k (ln_df S F) := by
  intro k
  induction k with
  | zero =>
    rintro S l hl ⟨F, h1, h2, h3⟩
    cases hF : F.testBit l with
    | true => exact Or.inr ⟨F, h1, hF, h2, h3⟩
    | false => exact Or.inl ⟨F, h1, ln_sb_and.mpr (ln_sb_dfp (ln_sb_and.mp h2) hF), trivial⟩
  | succ k ih =>
    rintro S l hl ⟨F, h1, h2, h3⟩
    cases hF : F.testBit l with
    | true => exact Or.inr ⟨F, h1, hF, h2, h3⟩
    | false =>
      rcases ih (ln_df_t hl hF) h3 with h4 | ⟨G, g1, g2, g3, g4⟩
      · refine Or.inl ⟨F, h1, ln_sb_and.mpr (ln_sb_dfp (ln_sb_and.mp h2) hF), ?_⟩
        rw [ln_df_comm]; exact h4
      · have g5 := ln_sb_and.mp g3
        refine Or.inr ⟨G, g1, g2, ln_sb_and.mpr (ln_sb_tr g5 (ln_sb_df _ _)), F, h1, ln_sb_and.mpr (ln_df_apart (ln_sb_and.mp h2) (fun i hi => ln_df_n (g5 i hi))), ?_⟩
        rw [ln_df_comm]; exact g4
theorem ln_pk_0 {N : ln_N} {r k : Nat} (h : ln_pk N r k 0) : k = 0 := by
  cases k with
  | zero => rfl
  | succ k =>
    obtain ⟨F, h1, h2, -⟩ := h
    rw [Nat.and_zero] at h2
    exact absurd h2.symm (ln_ft_cl h1).1
theorem ln_isA_0 (N : ln_N) (r : Nat) : ln_isA N r 0 0 := ⟨trivial, fun h => absurd (ln_pk_0 h) (by decide)⟩
/-- a fort has a least one within it -/
theorem ln_lf_in {N : ln_N} {r : Nat} (F : Nat) : ln_ft N r F = true → ∃ L, ln_lf N r L = true ∧ ln_sb L F := by
  induction F using Nat.strongRecOn with
  | ind F ih =>
    intro hF
    by_cases h : ∀ P, P < F → P ≠ 0 → P &&& F = P → ln_ft N r P = false
    · exact ⟨F, decide_eq_true ⟨hF, h⟩, ln_sb_rf F⟩
    · obtain ⟨P, hP⟩ := Classical.not_forall.mp h
      obtain ⟨h1, hP⟩ := Classical.not_imp.mp hP
      obtain ⟨h2, hP⟩ := Classical.not_imp.mp hP
      obtain ⟨h3, hP⟩ := Classical.not_imp.mp hP
      have h4 : ln_ft N r P = true := by cases hq : ln_ft N r P with | true => rfl | false => exact absurd hq hP
      obtain ⟨L, l1, l2⟩ := ih P h1 h4
      exact ⟨L, l1, ln_sb_tr l2 (ln_sb_and.mp h3)⟩
theorem ln_lf_ft {N : ln_N} {r S : Nat} (h : ln_lf N r S = true) : ln_ft N r S = true := (of_decide_eq_true h).1
/-- the model's step: by the lowest post -/
theorem ln_isA_model {N : ln_N} {r S l n v0 : Nat} (hl : S.testBit l = true) (h0 : ln_isA N r (ln_df S (2 ^ l)) v0) (hn0 : v0 ≤ n) (hpk : ln_pk N r n S) (hall : ∀ L v, ln_lf N r L = true → L.testBit l = true → ln_sb L S → ln_isA N r (ln_df S L) v → 1 + v ≤ n) (hex : ∀ L, ln_sb L S → L ≠ 0 → ∃ v, ln_isA N r (ln_df S L) v) : ln_isA N r S n := by
  refine ⟨hpk, fun h => ?_⟩
  have hno : ¬ ln_pk N r (n + 1) (ln_df S (2 ^ l)) := fun q => by have := ln_isA_le h0 q; omega
  rcases ln_pk_low hl h with q | ⟨F, f1, f2, f3, f4⟩
  · exact hno q
  · obtain ⟨L, l1, l2⟩ := ln_lf_in F f1
    have hFS := ln_sb_and.mp f3
    cases hL : L.testBit l with
    | true =>
      obtain ⟨v, hv⟩ := hex L (ln_sb_tr l2 hFS) (ln_ft_cl (ln_lf_ft l1)).1
      have h1 := hall L v l1 hL (ln_sb_tr l2 hFS) hv
      have h2 := ln_isA_le hv (ln_pk_mono (ln_df_anti l2) f4)
      omega
    | false =>
      refine hno ⟨L, ln_lf_ft l1, ln_sb_and.mpr (ln_sb_dfp (ln_sb_tr l2 hFS) hL), ln_pk_mono (fun i hi => ?_) f4⟩
      refine ln_df_t ?_ ?_
      · rw [ln_df_p, ln_sb_df _ _ i hi]
        by_cases e : l = i
        · subst e; rw [ln_df_n hi] at f2; exact absurd f2 (by decide)
        · rw [decide_eq_false e]; rfl
      · cases hq : L.testBit i with
        | false => rfl
        | true => have := l2 i hq; rw [ln_df_n hi] at this; exact absurd this (by decide)
/-- the class's step: a set that is a fort -/
theorem ln_isA_class {N : ln_N} {r S l n v0 : Nat} (hl : S.testBit l = true) (hS : ln_ft N r S = true) (h0 : ln_isA N r (ln_df S (2 ^ l)) v0) (hn0 : v0 ≤ n) (hn1 : 1 ≤ n) (hpk : ln_pk N r n S) (hall : ∀ F v, ln_ft N r F = true → F.testBit l = true → ln_sb F S → ln_df S F ≠ 0 → ln_isA N r (ln_df S F) v → 1 + v ≤ n) (hex : ∀ F, ln_sb F S → F ≠ 0 → ∃ v, ln_isA N r (ln_df S F) v) : ln_isA N r S n := by
  refine ⟨hpk, fun h => ?_⟩
  rcases ln_pk_low hl h with q | ⟨F, f1, f2, f3, f4⟩
  · have := ln_isA_le h0 q; omega
  · have hFS := ln_sb_and.mp f3
    by_cases hz : ln_df S F = 0
    · rw [hz] at f4
      have := ln_pk_0 f4
      omega
    · obtain ⟨v, hv⟩ := hex F hFS (ln_ft_cl f1).1
      have h1 := hall F v f1 f2 hFS hz hv
      have h2 := ln_isA_le hv f4
      omega
theorem ln_fw_mono {N : ln_N} (hW : ln_wf N) {r S T : Nat} (hr : r ≠ 2) (hT : T < 2 ^ N 0 0) (hS : S < 2 ^ N 0 0) (h : ln_sb S T) : ln_sb (ln_fw N r S) (ln_fw N r T) := by
  by_cases h0 : ln_fw N r S = 0
  · rw [h0]; intro i hi; rw [Nat.zero_testBit] at hi; exact absurd hi (by decide)
  · exact ln_fw_big hW hr hT (ln_fw_ft hW hr h0) (ln_sb_tr (ln_fw_sb hS) h)
theorem ln_pk_fw {N : ln_N} (hW : ln_wf N) {r : Nat} (hr : r ≠ 2) : ∀ {k S : Nat}, S < 2 ^ N 0 0 → ln_pk N r k S → ln_pk N r k (ln_fw N r S)
  | 0, _, _, _ => trivial
  | k + 1, S, hS, ⟨F, h1, h2, h3⟩ => by
    refine ⟨F, h1, ln_sb_and.mpr (ln_fw_big hW hr hS h1 (ln_sb_and.mp h2)), ?_⟩
    refine ln_pk_mono (fun i hi => ?_) (ln_pk_fw hW hr (ln_df_lt hS) h3)
    have a := ln_fw_sb (ln_df_lt hS) i hi
    exact ln_df_t (ln_fw_mono hW hr hS (ln_df_lt hS) (ln_sb_df _ _) i hi) (ln_df_n a)
theorem ln_isA_fw {N : ln_N} (hW : ln_wf N) {r S v : Nat} (hr : r ≠ 2) (hS : S < 2 ^ N 0 0) (h : ln_isA N r (ln_fw N r S) v) : ln_isA N r S v :=
  ⟨ln_pk_mono (ln_fw_sb hS) h.1, fun q => h.2 (ln_pk_fw hW hr hS q)⟩
theorem ln_isA_12 {N : ln_N} : ∀ {k S r : Nat}, S < 4096 → ln_pk N r k S → k ≤ ln_pc S
  | 0, _, _, _, _ => Nat.zero_le _
  | k + 1, S, r, hS, ⟨F, h1, h2, h3⟩ => by
    have a := ln_isA_12 (ln_df_lt hS) h3
    have hF := ln_sb_and.mp h2
    have b : ln_pc (ln_df S F) < ln_pc S := ln_pc_lt (ln_sb_df _ _) hS (fun q => by
      have : F = 0 := by
        apply Nat.eq_of_testBit_eq
        intro i
        rw [Nat.zero_testBit]
        cases hf : F.testBit i with
        | false => rfl
        | true =>
          have c := hF i hf
          rw [← q] at c
          rw [ln_df_n c] at hf
          exact absurd hf (by decide)
      exact (ln_ft_cl h1).1 this)
    omega
