def ln_nPo (N : ln_N) : ln_N := fun i j => if i = 0 then (if j = 0 then N 0 0 + 1 else N 0 j) else if (i = 1 ∨ i = 2) ∧ j = N 0 0 then 1 else N i j
def ln_nRd (N : ln_N) (p q k : Nat) : ln_N := fun i j => if i = 5 + p ∧ j = q then k else if i = 3 ∧ j = p then (if k = 0 then ln_df (N 3 p) (2 ^ q) else N 3 p ||| 2 ^ q) else if i = 4 ∧ j = q then (if k = 0 then ln_df (N 4 q) (2 ^ p) else N 4 q ||| 2 ^ p) else N i j
def ln_nSt (N : ln_N) (c p k : Nat) : ln_N := fun i j => if i = c ∧ j = p then k else N i j
theorem ln_nSt_s {N : ln_N} {c p k : Nat} : ln_nSt N c p k c p = k := if_pos ⟨rfl, rfl⟩
theorem ln_nSt_i {N : ln_N} {c p k i : Nat} (h : i ≠ c) : ln_nSt N c p k i = N i := funext (fun j => if_neg (fun q => h q.1))
theorem ln_nSt_j {N : ln_N} {c p k i j : Nat} (h : j ≠ p) : ln_nSt N c p k i j = N i j := if_neg (fun q => h q.2)
theorem ln_nSt_sim {N : ln_N} {c p k : Nat} (h : c = 1 ∨ c = 2) : ln_sim N (ln_nSt N c p k) := ⟨(ln_nSt_i (by omega)).symm, (ln_nSt_i (by omega)).symm, (ln_nSt_i (by omega)).symm, fun p => (ln_nSt_i (by omega)).symm⟩
theorem ln_nSt_wf1 {N : ln_N} (hW : ln_wf N) {p k : Nat} (hk : k ≤ 99) : ln_wf (ln_nSt N 1 p k) := by
  refine ⟨by rw [ln_nSt_i (by omega)]; exact hW.1, fun q => ⟨?_, by rw [ln_nSt_i (by omega)]; exact (hW.2 q).2.1, fun j => ?_⟩⟩
  · by_cases e : q = p
    · subst e; rw [ln_nSt_s]; exact hk
    · rw [ln_nSt_j e]; exact (hW.2 q).1
  · rw [ln_nSt_i (by omega), ln_nSt_i (by omega), ln_nSt_i (by omega), ln_nSt_i (by omega)]; exact (hW.2 q).2.2 j
theorem ln_nSt_wf2 {N : ln_N} (hW : ln_wf N) {p k : Nat} (hk : k ≤ 1000) : ln_wf (ln_nSt N 2 p k) := by
  refine ⟨by rw [ln_nSt_i (by omega)]; exact hW.1, fun q => ⟨by rw [ln_nSt_i (by omega)]; exact (hW.2 q).1, ?_, fun j => ?_⟩⟩
  · by_cases e : q = p
    · subst e; rw [ln_nSt_s]; exact hk
    · rw [ln_nSt_j e]; exact (hW.2 q).2.1
  · rw [ln_nSt_i (by omega), ln_nSt_i (by omega), ln_nSt_i (by omega), ln_nSt_i (by omega)]; exact (hW.2 q).2.2 j
theorem ln_upd_nSt {N : ln_N} {f : Nat → Int32} {c p k j : Nat} (h : f j = nI (N c j)) : upd f p (nI k) j = nI (ln_nSt N c p k c j) := by
  by_cases e : j = p
  · subst e; rw [ln_upd_s, ln_nSt_s]
  · rw [ln_upd_n e, ln_nSt_j e]; exact h
theorem ln_nC_1 {N : ln_N} {σ τ : ln_S} {p k : Nat} (h : ln_nC N σ) (h1 : τ 1 0 = σ 1 0) (h2 : τ 2 = upd (σ 2) p (nI k)) (ho : ∀ c, c = 3 ∨ c = 5 ∨ c = 6 ∨ (25 ≤ c ∧ c < 37) → τ c = σ c) : ln_nC (ln_nSt N 1 p k) τ := by
  refine ⟨by rw [ln_nSt_i (by omega), h1]; exact h.n, fun q hq => ⟨by rw [h2]; exact ln_upd_nSt (h.b hq), ?_, ?_, ?_, fun j hj => ?_⟩⟩
  · rw [ho 3 (by omega), ln_nSt_i (by omega)]; exact h.pr hq
  · rw [ho 5 (by omega), ln_nSt_i (by omega)]; exact h.bh hq
  · rw [ho 6 (by omega), ln_nSt_i (by omega)]; exact h.ah hq
  · rw [ho _ (by omega), ln_nSt_i (by omega)]; exact h.w hq hj
theorem ln_nC_2 {N : ln_N} {σ τ : ln_S} {p k : Nat} (h : ln_nC N σ) (h1 : τ 1 0 = σ 1 0) (h2 : τ 3 = upd (σ 3) p (nI k)) (ho : ∀ c, c = 2 ∨ c = 5 ∨ c = 6 ∨ (25 ≤ c ∧ c < 37) → τ c = σ c) : ln_nC (ln_nSt N 2 p k) τ := by
  refine ⟨by rw [ln_nSt_i (by omega), h1]; exact h.n, fun q hq => ⟨?_, by rw [h2]; exact ln_upd_nSt (h.pr hq), ?_, ?_, fun j hj => ?_⟩⟩
  · rw [ho 2 (by omega), ln_nSt_i (by omega)]; exact h.b hq
  · rw [ho 5 (by omega), ln_nSt_i (by omega)]; exact h.bh hq
  · rw [ho 6 (by omega), ln_nSt_i (by omega)]; exact h.ah hq
  · rw [ho _ (by omega), ln_nSt_i (by omega)]; exact h.w hq hj
theorem ln_nM_1 {N : ln_N} {σ τ : ln_S} {p k : Nat} (h : ln_nM N σ) (h1 : τ 0 0 = σ 0 0) (h2 : τ 2 = upd (σ 2) p (nI k)) (ho : ∀ c, c = 1 ∨ c = 3 ∨ c = 4 → τ c = σ c) : ln_nM (ln_nSt N 1 p k) τ := by
  refine ⟨by rw [ln_nSt_i (by omega), h1]; exact h.n, fun q hq => ⟨by rw [h2]; exact ln_upd_nSt (h.b hq), ?_, ?_, fun j hj => ?_⟩⟩
  · rw [ho 3 (by omega), ln_nSt_i (by omega)]; exact h.pr hq
  · rw [ho 4 (by omega), ln_nSt_i (by omega)]; exact h.bh hq
  · rw [ho 1 (by omega), ln_nSt_i (by omega)]; exact h.w hq hj
theorem ln_nM_2 {N : ln_N} {σ τ : ln_S} {p k : Nat} (h : ln_nM N σ) (h1 : τ 0 0 = σ 0 0) (h2 : τ 3 = upd (σ 3) p (nI k)) (ho : ∀ c, c = 1 ∨ c = 2 ∨ c = 4 → τ c = σ c) : ln_nM (ln_nSt N 2 p k) τ := by
  refine ⟨by rw [ln_nSt_i (by omega), h1]; exact h.n, fun q hq => ⟨?_, by rw [h2]; exact ln_upd_nSt (h.pr hq), ?_, fun j hj => ?_⟩⟩
  · rw [ho 2 (by omega), ln_nSt_i (by omega)]; exact h.b hq
  · rw [ho 4 (by omega), ln_nSt_i (by omega)]; exact h.bh hq
  · rw [ho 1 (by omega), ln_nSt_i (by omega)]; exact h.w hq hj
/-! a post more -/
theorem ln_nPo_n (N : ln_N) : ln_nPo N 0 0 = N 0 0 + 1 := rfl
theorem ln_nPo_i {N : ln_N} {i : Nat} (h : 3 ≤ i) : ln_nPo N i = N i := funext (fun j => by unfold ln_nPo; rw [if_neg (by omega), if_neg (by omega)])
theorem ln_nPo_s {N : ln_N} {i : Nat} (h : i = 1 ∨ i = 2) : ln_nPo N i (N 0 0) = 1 := by unfold ln_nPo; rw [if_neg (by omega), if_pos ⟨h, rfl⟩]
theorem ln_nPo_j {N : ln_N} {i j : Nat} (h : i ≠ 0) (hj : j ≠ N 0 0) : ln_nPo N i j = N i j := by unfold ln_nPo; rw [if_neg h, if_neg (fun q => hj q.2)]
theorem ln_nPo_wf {N : ln_N} (hW : ln_wf N) (hn : N 0 0 < 12) : ln_wf (ln_nPo N) := by
  refine ⟨hn, fun q => ⟨?_, ?_, fun j => ?_⟩⟩
  · by_cases e : q = N 0 0
    · subst e; rw [ln_nPo_s (by omega)]; decide
    · rw [ln_nPo_j (by omega) e]; exact (hW.2 q).1
  · by_cases e : q = N 0 0
    · subst e; rw [ln_nPo_s (by omega)]; decide
    · rw [ln_nPo_j (by omega) e]; exact (hW.2 q).2.1
  · rw [ln_nPo_i (by omega), ln_nPo_i (by omega), ln_nPo_i (by omega), ln_nPo_n]
    obtain ⟨h1, h2, h3, h4⟩ := (hW.2 q).2.2 j
    exact ⟨h1, h2, h3, fun z => by have := h4 z; omega⟩
theorem ln_upd_nPo {N : ln_N} {f : Nat → Int32} {i j : Nat} (hi : i = 1 ∨ i = 2) (h : f j = nI (N i j)) : upd f (N 0 0) (nI 1) j = nI (ln_nPo N i j) := by
  by_cases e : j = N 0 0
  · subst e; rw [ln_upd_s, ln_nPo_s hi]
  · rw [ln_upd_n e, ln_nPo_j (by omega) e]; exact h
theorem ln_nC_po {N : ln_N} {σ τ : ln_S} (h : ln_nC N σ) (h1 : τ 1 0 = nI (N 0 0 + 1)) (h2 : τ 2 = upd (σ 2) (N 0 0) (nI 1)) (h3 : τ 3 = upd (σ 3) (N 0 0) (nI 1)) (ho : ∀ c, c = 5 ∨ c = 6 ∨ (25 ≤ c ∧ c < 37) → τ c = σ c) : ln_nC (ln_nPo N) τ := by
  refine ⟨h1, fun q hq => ⟨by rw [h2]; exact ln_upd_nPo (by omega) (h.b hq), by rw [h3]; exact ln_upd_nPo (by omega) (h.pr hq), ?_, ?_, fun j hj => ?_⟩⟩
  · rw [ho 5 (by omega), ln_nPo_i (by omega)]; exact h.bh hq
  · rw [ho 6 (by omega), ln_nPo_i (by omega)]; exact h.ah hq
  · rw [ho _ (by omega), ln_nPo_i (by omega)]; exact h.w hq hj
theorem ln_bh0 {N : ln_N} (hW : ln_wf N) : N 3 (N 0 0) = 0 := Nat.eq_of_testBit_eq (fun i => by
  have h1 := (hW.2 (N 0 0)).2.2 i
  rw [h1.2.1, Nat.zero_testBit]
  apply decide_eq_false
  intro h2
  have := (h1.2.2.2 h2).1
  omega)
theorem ln_nM_po {N : ln_N} (hW : ln_wf N) {σ τ : ln_S} (h : ln_nM N σ) (h1 : τ 0 0 = nI (N 0 0 + 1)) (h2 : τ 2 = upd (σ 2) (N 0 0) (nI 1)) (h3 : τ 3 = upd (σ 3) (N 0 0) (nI 1)) (h4 : τ 4 = upd (σ 4) (N 0 0) (nI 0)) (h5 : τ 1 = σ 1) : ln_nM (ln_nPo N) τ := by
  refine ⟨h1, fun q hq => ⟨by rw [h2]; exact ln_upd_nPo (by omega) (h.b hq), by rw [h3]; exact ln_upd_nPo (by omega) (h.pr hq), ?_, fun j hj => ?_⟩⟩
  · rw [h4, ln_nPo_i (by omega)]
    by_cases e : q = N 0 0
    · subst e; rw [ln_upd_s, ln_bh0 hW]
    · rw [ln_upd_n e]; exact h.bh hq
  · rw [h5, ln_nPo_i (by omega)]; exact h.w hq hj
/-! a road -/
theorem ln_nRd_lo {N : ln_N} {p q k i : Nat} (h : i < 3) : ln_nRd N p q k i = N i := funext (fun j => by unfold ln_nRd; rw [if_neg (by omega), if_neg (by omega), if_neg (by omega)])
theorem ln_nRd_w {N : ln_N} {p q k : Nat} : ln_nRd N p q k (5 + p) q = k := if_pos ⟨rfl, rfl⟩
theorem ln_nRd_w2 {N : ln_N} {p q k a b : Nat} (h : ¬ (a = p ∧ b = q)) : ln_nRd N p q k (5 + a) b = N (5 + a) b := by unfold ln_nRd; rw [if_neg (by omega), if_neg (by omega), if_neg (by omega)]
theorem ln_nRd_3 {N : ln_N} {p q k : Nat} : ln_nRd N p q k 3 p = if k = 0 then ln_df (N 3 p) (2 ^ q) else N 3 p ||| 2 ^ q := by unfold ln_nRd; rw [if_neg (by omega), if_pos ⟨rfl, rfl⟩]
theorem ln_nRd_3n {N : ln_N} {p q k a : Nat} (h : a ≠ p) : ln_nRd N p q k 3 a = N 3 a := by unfold ln_nRd; rw [if_neg (by omega), if_neg (by omega), if_neg (by omega)]
theorem ln_nRd_4 {N : ln_N} {p q k : Nat} : ln_nRd N p q k 4 q = if k = 0 then ln_df (N 4 q) (2 ^ p) else N 4 q ||| 2 ^ p := by unfold ln_nRd; rw [if_neg (by omega), if_neg (by omega), if_pos ⟨rfl, rfl⟩]
theorem ln_nRd_4n {N : ln_N} {p q k b : Nat} (h : b ≠ q) : ln_nRd N p q k 4 b = N 4 b := by unfold ln_nRd; rw [if_neg (by omega), if_neg (by omega), if_neg (by omega)]
theorem ln_setbit {x q k i : Nat} : (if k = 0 then ln_df x (2 ^ q) else x ||| 2 ^ q).testBit i = if i = q then decide (0 < k) else x.testBit i := by
  by_cases e : k = 0
  · rw [if_pos e, ln_df_bit, Nat.testBit_two_pow]
    by_cases e2 : i = q
    · subst e2; rw [if_pos rfl, decide_eq_true rfl, decide_eq_false (by omega), Bool.not_true, Bool.and_false]
    · rw [if_neg e2, decide_eq_false (Ne.symm e2), Bool.not_false, Bool.and_true]
  · rw [if_neg e, ln_or_bit]
    by_cases e2 : i = q
    · subst e2; rw [if_pos rfl, decide_eq_true rfl, decide_eq_true (by omega), Bool.or_true]
    · rw [if_neg e2, decide_eq_false (Ne.symm e2), Bool.or_false]
theorem ln_nRd_wf {N : ln_N} (hW : ln_wf N) {p q k : Nat} (hp : p < N 0 0) (hq : q < N 0 0) (hk : k ≤ 9) : ln_wf (ln_nRd N p q k) := by
  refine ⟨by rw [ln_nRd_lo (by omega)]; exact hW.1, fun a => ⟨by rw [ln_nRd_lo (by omega)]; exact (hW.2 a).1, by rw [ln_nRd_lo (by omega)]; exact (hW.2 a).2.1, fun b => ?_⟩⟩
  obtain ⟨h1, h2, h3, h4⟩ := (hW.2 a).2.2 b
  rw [ln_nRd_lo (i := 0) (by omega)]
  by_cases e : a = p ∧ b = q
  · obtain ⟨rfl, rfl⟩ := e
    rw [ln_nRd_w, ln_nRd_3, ln_nRd_4, ln_setbit, ln_setbit, if_pos rfl, if_pos rfl]
    exact ⟨hk, rfl, rfl, fun _ => ⟨hp, hq⟩⟩
  · rw [ln_nRd_w2 e]
    refine ⟨h1, ?_, ?_, h4⟩
    · by_cases e1 : a = p
      · subst e1; rw [ln_nRd_3, ln_setbit, if_neg (fun z => e ⟨rfl, z⟩)]; exact h2
      · rw [ln_nRd_3n e1]; exact h2
    · by_cases e1 : b = q
      · subst e1; rw [ln_nRd_4, ln_setbit, if_neg (fun z => e ⟨z, rfl⟩)]; exact h3
      · rw [ln_nRd_4n e1]; exact h3
theorem ln_nC_rd {N : ln_N} {σ τ : ln_S} {p q k : Nat} (h : ln_nC N σ) (h1 : τ 1 0 = σ 1 0) (h2 : τ 2 = σ 2) (h3 : τ 3 = σ 3) (h5 : τ 5 = upd (σ 5) p (nI (ln_nRd N p q k 3 p))) (h6 : τ 6 = upd (σ 6) q (nI (ln_nRd N p q k 4 q))) (hw : τ (25 + p) = upd (σ (25 + p)) q (nI k)) (ho : ∀ c, 25 ≤ c → c < 37 → c ≠ 25 + p → τ c = σ c) : ln_nC (ln_nRd N p q k) τ := by
  refine ⟨by rw [ln_nRd_lo (by omega), h1]; exact h.n, fun a ha => ⟨by rw [ln_nRd_lo (by omega), h2]; exact h.b ha, by rw [ln_nRd_lo (by omega), h3]; exact h.pr ha, ?_, ?_, fun b hb => ?_⟩⟩
  · rw [h5]
    by_cases e : a = p
    · subst e; rw [ln_upd_s]
    · rw [ln_upd_n e, ln_nRd_3n e]; exact h.bh ha
  · rw [h6]
    by_cases e : a = q
    · subst e; rw [ln_upd_s]
    · rw [ln_upd_n e, ln_nRd_4n e]; exact h.ah ha
  · by_cases e : a = p
    · subst e
      rw [hw]
      by_cases e2 : b = q
      · subst e2; rw [ln_upd_s, ln_nRd_w]
      · rw [ln_upd_n e2, ln_nRd_w2 (fun z => e2 z.2)]; exact h.w ha hb
    · rw [ho _ (by omega) (by omega) (by omega), ln_nRd_w2 (fun z => e z.1)]; exact h.w ha hb
theorem ln_nM_rd {N : ln_N} {σ τ : ln_S} {p q k : Nat} (hp : p < 12) (hq : q < 12) (h : ln_nM N σ) (h1 : τ 0 0 = σ 0 0) (h2 : τ 2 = σ 2) (h3 : τ 3 = σ 3) (h5 : τ 4 = upd (σ 4) p (nI (ln_nRd N p q k 3 p))) (hw : τ 1 = upd (σ 1) (12 * p + q) (nI k)) : ln_nM (ln_nRd N p q k) τ := by
  refine ⟨by rw [ln_nRd_lo (by omega), h1]; exact h.n, fun a ha => ⟨by rw [ln_nRd_lo (by omega), h2]; exact h.b ha, by rw [ln_nRd_lo (by omega), h3]; exact h.pr ha, ?_, fun b hb => ?_⟩⟩
  · rw [h5]
    by_cases e : a = p
    · subst e; rw [ln_upd_s]
    · rw [ln_upd_n e, ln_nRd_3n e]; exact h.bh ha
  · rw [hw]
    by_cases e : a = p ∧ b = q
    · obtain ⟨rfl, rfl⟩ := e; rw [ln_upd_s, ln_nRd_w]
    · rw [ln_upd_n (by omega), ln_nRd_w2 e]; exact h.w ha hb
theorem ln_MK_0 {N : ln_N} {τ : ln_S} {E : Nat} (h : τ 0 1 = nI 0) : ln_MK N τ E := ⟨0, h, by decide, fun k _ hb => by rw [Nat.zero_testBit] at hb; exact absurd hb (by decide)⟩
/-! what the writers answer -/
def ln_oPo (N M : ln_N) (z : Int32) : Prop := (N 0 0 = 12 ∧ z = -2 ∧ M = N) ∨ (N 0 0 < 12 ∧ z = nI (N 0 0) ∧ M = ln_nPo N)
def ln_oRd (N : ln_N) (x y w : Int32) (M : ln_N) (z : Int32) : Prop := ((ln_inr x (N 0 0) = false ∨ ln_inr y (N 0 0) = false ∨ x = y ∨ ln_inr w 10 = false) ∧ z = -2 ∧ M = N) ∨ ∃ p q k, p < N 0 0 ∧ q < N 0 0 ∧ p ≠ q ∧ k < 10 ∧ x = nI p ∧ y = nI q ∧ w = nI k ∧ z = nI (N (5 + p) q) ∧ M = ln_nRd N p q k
def ln_oSt (c b : Nat) (N : ln_N) (x y : Int32) (M : ln_N) (z : Int32) : Prop := ((ln_inr x (N 0 0) = false ∨ ln_inr y b = false) ∧ z = -2 ∧ M = N) ∨ ∃ p k, p < N 0 0 ∧ k < b ∧ x = nI p ∧ y = nI k ∧ z = nI (N c p) ∧ M = ln_nSt N c p k
theorem ln_oPo_one {N M L : ln_N} {z w : Int32} (h : ln_oPo N M z) (h2 : ln_oPo N L w) : z = w ∧ M = L := by
  rcases h with ⟨a1, a2, a3⟩ | ⟨a1, a2, a3⟩ <;> rcases h2 with ⟨b1, b2, b3⟩ | ⟨b1, b2, b3⟩
  · exact ⟨a2.trans b2.symm, a3.trans b3.symm⟩
  · omega
  · omega
  · exact ⟨a2.trans b2.symm, a3.trans b3.symm⟩
theorem ln_oRd_one {N M L : ln_N} (hW : ln_wf N) {x y w z u : Int32} (h : ln_oRd N x y w M z) (h2 : ln_oRd N x y w L u) : z = u ∧ M = L := by
  have hn := hW.n12
  have key : ∀ {p q k : Nat}, p < N 0 0 → q < N 0 0 → p ≠ q → k < 10 → x = nI p → y = nI q → w = nI k → (ln_inr x (N 0 0) = false ∨ ln_inr y (N 0 0) = false ∨ x = y ∨ ln_inr w 10 = false) → False := by
    intro p q k hp hq hpq hk hx hy hw hz
    rcases hz with c | c | c | c
    · exact ln_r_in hp (by omega) hx c
    · exact ln_r_in hq (by omega) hy c
    · exact hpq (ln_s_one (M := 12) (by omega) (by omega) (by omega) hx (c.trans hy))
    · exact ln_r_in hk (by omega) hw c
  rcases h with ⟨a1, a2, a3⟩ | ⟨p, q, k, hp, hq, hpq, hk, hx, hy, hw, hz, hM⟩ <;> rcases h2 with ⟨b1, b2, b3⟩ | ⟨p2, q2, k2, hp2, hq2, hpq2, hk2, hx2, hy2, hw2, hz2, hM2⟩
  · exact ⟨a2.trans b2.symm, a3.trans b3.symm⟩
  · exact (key hp2 hq2 hpq2 hk2 hx2 hy2 hw2 a1).elim
  · exact (key hp hq hpq hk hx hy hw b1).elim
  · have e1 := ln_s_one (by omega) hp hp2 hx hx2
    have e2 := ln_s_one (by omega) hq hq2 hy hy2
    have e3 := ln_s_one (by omega) hk hk2 hw hw2
    subst e1 e2 e3
    exact ⟨hz.trans hz2.symm, hM.trans hM2.symm⟩
theorem ln_oSt_one {c b : Nat} (hb : b ≤ 4096) {N M L : ln_N} (hW : ln_wf N) {x y z u : Int32} (h : ln_oSt c b N x y M z) (h2 : ln_oSt c b N x y L u) : z = u ∧ M = L := by
  have hn := hW.n12
  rcases h with ⟨a1, a2, a3⟩ | ⟨p, k, hp, hk, hx, hy, hz, hM⟩ <;> rcases h2 with ⟨b1, b2, b3⟩ | ⟨p2, k2, hp2, hk2, hx2, hy2, hz2, hM2⟩
  · exact ⟨a2.trans b2.symm, a3.trans b3.symm⟩
  · rcases a1 with c | c
    · exact (ln_r_in hp2 (by omega) hx2 c).elim
    · exact (ln_r_in hk2 (by omega) hy2 c).elim
  · rcases b1 with c | c
    · exact (ln_r_in hp (by omega) hx c).elim
    · exact (ln_r_in hk (by omega) hy c).elim
  · have e1 := ln_s_one (by omega) hp hp2 hx hx2
    have e2 := ln_s_one (by omega) hk hk2 hy hy2
    subst e1 e2
    exact ⟨hz.trans hz2.symm, hM.trans hM2.symm⟩
set_option maxHeartbeats 4000000 in
set_option maxRecDepth 100000 in
theorem c_X4_addPost (l : Launch) (D : va_G) (g : Nat → ClassId) (a : Nat → Nat) (σ : ln_S) (d : Nat) (N : ln_N) (hW : ln_wf N) (hN : ln_nC N σ) (rv bv : Nat) (hV : ln_vs σ rv bv) (hn : N 0 0 < 12) (hd : 0 ≤ d) : ln_U l D g (CW a g) yX4_addPost (.code yX4_addPost cX4_addPost 2 (some .int)) d [.ref (a 1)] σ (fun z τ => z = nI (N 0 0) ∧ ln_nC (ln_nPo N) τ ∧ τ 1 1 = nI (rv + 1) ∧ τ 1 2 = σ 1 2 ∧ ∀ c, (7 ≤ c ∧ c < 25) ∨ 37 ≤ c → τ c = σ c) := by
  have hN12 := hW.n12
  have hp12 := hW.p12
  refine ln_ofU (by decide +kernel) (Nat.le_of_ble_eq_true rfl) (fun prg env rum sta mid args below meth cod ls A hr hlk X hA hP hDw hSw hl => ?_)
  have hl : lv_has ls 2 [(0, .ref (a 1))] := hl
  generalize hQ0 : (MQ below (va_Qi (fun z τ => z = nI (N 0 0) ∧ ln_nC (ln_nPo N) τ ∧ τ 1 1 = nI (rv + 1) ∧ τ 1 2 = σ 1 2 ∧ ∀ c, (7 ≤ c ∧ c < 25) ∨ 37 ≤ c → τ c = σ c) (fun τ t => va_P D ln_cl (CW a g τ) t.heap) A) args sta 0 0 A) = Q0
  obtain ⟨H, hH⟩ : ∃ H, H = sta.heap := ⟨_, rfl⟩
  obtain ⟨locs, hlo⟩ : ∃ x : List Loc, x = [] := ⟨_, rfl⟩
  rw [← hH] at hP
  have hSw : va_S A sta.heap H locs := by rw [hH, hlo]; exact hSw
  have goal : W prg l env rum sta mid args below meth cod H locs 0 0 Q0 (F0 mid 0 ls []) := ?_
  · rw [hH, hlo] at goal; exact goal
  clear hlo
  refine lv_aload_n X.1 X.2.1 dX4_addPost_0 rfl (lv_at hl 0 rfl) ?_
  refine gC_1_0 X hP (v := nI (N 0 0)) hN.n mF_X4_33 dX4_addPost_1 ?_
  refine lv_istore_n (lv' := [(1, .int (nI (N 0 0))), (0, .ref (a 1))]) X.1 X.2.1 dX4_addPost_4 rfl hl (by decide) rfl (fun ls hl => ?_)
  refine lv_aload_n X.1 X.2.1 dX4_addPost_5 rfl (lv_at hl 1 rfl) ?_
  refine gC_1_3 X hP mF_X4_15 dX4_addPost_6 ?_
  refine lv_iload_n X.1 X.2.1 dX4_addPost_9 rfl (lv_at hl 0 rfl) ?_
  refine lv_iconst (v := nI 1) X.1 X.2.1 dX4_addPost_10 (by decide) ?_
  refine sC_2 X hP hDw hSw (by omega) dX4_addPost_11 (fun H locs hP hDw hSw => ?_)
  refine lv_aload_n X.1 X.2.1 dX4_addPost_12 rfl (lv_at hl 1 rfl) ?_
  refine gC_1_4 X hP mF_X4_19 dX4_addPost_13 ?_
  refine lv_iload_n X.1 X.2.1 dX4_addPost_16 rfl (lv_at hl 0 rfl) ?_
  refine lv_iconst (v := nI 1) X.1 X.2.1 dX4_addPost_17 (by decide) ?_
  refine sC_3 X hP hDw hSw (by omega) dX4_addPost_18 (fun H locs hP hDw hSw => ?_)
  refine lv_aload_n X.1 X.2.1 dX4_addPost_19 rfl (lv_at hl 1 rfl) ?_
  refine lv_dup X.1 X.2.1 dX4_addPost_20 rfl ?_
  refine gC_1_0 X hP (v := nI (N 0 0)) hN.n mF_X4_33 dX4_addPost_21 ?_
  refine lv_iconst (v := nI 1) X.1 X.2.1 dX4_addPost_24 (by decide) ?_
  refine rn_add X dX4_addPost_25 ?_
  refine pC_1_0 X hP hDw hSw mF_X4_33 dX4_addPost_26 (fun H locs hP hDw hSw => ?_)
  refine lv_aload_n X.1 X.2.1 dX4_addPost_29 rfl (lv_at hl 1 rfl) ?_
  refine lv_dup X.1 X.2.1 dX4_addPost_30 rfl ?_
  refine gC_1_1 X hP (v := nI rv) hV.1 mF_X4_9 dX4_addPost_31 ?_
  refine lv_iconst (v := nI 1) X.1 X.2.1 dX4_addPost_34 (by decide) ?_
  refine rn_add X dX4_addPost_35 ?_
  refine pC_1_1 X hP hDw hSw mF_X4_9 dX4_addPost_36 (fun H locs hP hDw hSw => ?_)
  refine lv_iload_n X.1 X.2.1 dX4_addPost_39 rfl (lv_at hl 0 rfl) ?_
  subst hQ0
  exact ln_retU X hr hlk hP hSw rfl ⟨rfl, ln_nC_po hN rfl rfl rfl (fun c hc => by rw [ln_up_n _ _ (by omega), ln_up_n _ _ (by omega), ln_up_n _ _ (by omega), ln_up_n _ _ (by omega)]), rfl, rfl, fun c hc => by rw [ln_up_n _ _ (by omega), ln_up_n _ _ (by omega), ln_up_n _ _ (by omega), ln_up_n _ _ (by omega)]⟩ dX4_addPost_40
set_option maxHeartbeats 4000000 in
set_option maxRecDepth 100000 in
theorem c_X4_setBar (l : Launch) (D : va_G) (g : Nat → ClassId) (a : Nat → Nat) (σ : ln_S) (d : Nat) (N : ln_N) (hW : ln_wf N) (hN : ln_nC N σ) (rv bv : Nat) (hV : ln_vs σ rv bv) (p k : Nat) (hp : p < N 0 0) (hd : 0 ≤ d) : ln_U l D g (CW a g) yX4_setBar (.code yX4_setBar cX4_setBar 4 (some .int)) d [.ref (a 1), .int (nI p), .int (nI k)] σ (fun z τ => z = nI (N 1 p) ∧ ln_nC (ln_nSt N 1 p k) τ ∧ τ 1 1 = σ 1 1 ∧ τ 1 2 = nI (bv + 1) ∧ ∀ c, (7 ≤ c ∧ c < 25) ∨ 37 ≤ c → τ c = σ c) := by
  have hN12 := hW.n12
  have hp12 := hW.p12
  refine ln_ofU (by decide +kernel) (Nat.le_of_ble_eq_true rfl) (fun prg env rum sta mid args below meth cod ls A hr hlk X hA hP hDw hSw hl => ?_)
  have hl : lv_has ls 4 [(0, .ref (a 1)), (1, .int (nI p)), (2, .int (nI k))] := hl
  generalize hQ0 : (MQ below (va_Qi (fun z τ => z = nI (N 1 p) ∧ ln_nC (ln_nSt N 1 p k) τ ∧ τ 1 1 = σ 1 1 ∧ τ 1 2 = nI (bv + 1) ∧ ∀ c, (7 ≤ c ∧ c < 25) ∨ 37 ≤ c → τ c = σ c) (fun τ t => va_P D ln_cl (CW a g τ) t.heap) A) args sta 0 0 A) = Q0
  obtain ⟨H, hH⟩ : ∃ H, H = sta.heap := ⟨_, rfl⟩
  obtain ⟨locs, hlo⟩ : ∃ x : List Loc, x = [] := ⟨_, rfl⟩
  rw [← hH] at hP
  have hSw : va_S A sta.heap H locs := by rw [hH, hlo]; exact hSw
  have goal : W prg l env rum sta mid args below meth cod H locs 0 0 Q0 (F0 mid 0 ls []) := ?_
  · rw [hH, hlo] at goal; exact goal
  clear hlo
  refine lv_aload_n X.1 X.2.1 dX4_setBar_0 rfl (lv_at hl 0 rfl) ?_
  refine gC_1_3 X hP mF_X4_15 dX4_setBar_1 ?_
  refine lv_iload_n X.1 X.2.1 dX4_setBar_4 rfl (lv_at hl 1 rfl) ?_
  refine lC_2 X hP (by omega) (v := nI (N 1 p)) (hN.b (by omega)) dX4_setBar_5 ?_
  refine lv_istore_n (lv' := [(3, .int (nI (N 1 p))), (0, .ref (a 1)), (1, .int (nI p)), (2, .int (nI k))]) X.1 X.2.1 dX4_setBar_6 rfl hl (by decide) rfl (fun ls hl => ?_)
  refine lv_aload_n X.1 X.2.1 dX4_setBar_7 rfl (lv_at hl 1 rfl) ?_
  refine gC_1_3 X hP mF_X4_15 dX4_setBar_8 ?_
  refine lv_iload_n X.1 X.2.1 dX4_setBar_11 rfl (lv_at hl 2 rfl) ?_
  refine lv_iload_n X.1 X.2.1 dX4_setBar_12 rfl (lv_at hl 3 rfl) ?_
  refine sC_2 X hP hDw hSw (by omega) dX4_setBar_13 (fun H locs hP hDw hSw => ?_)
  refine lv_aload_n X.1 X.2.1 dX4_setBar_14 rfl (lv_at hl 1 rfl) ?_
  refine lv_dup X.1 X.2.1 dX4_setBar_15 rfl ?_
  refine gC_1_2 X hP (v := nI bv) hV.2.1 mF_X4_40 dX4_setBar_16 ?_
  refine lv_iconst (v := nI 1) X.1 X.2.1 dX4_setBar_19 (by decide) ?_
  refine rn_add X dX4_setBar_20 ?_
  refine pC_1_2 X hP hDw hSw mF_X4_40 dX4_setBar_21 (fun H locs hP hDw hSw => ?_)
  refine lv_iload_n X.1 X.2.1 dX4_setBar_24 rfl (lv_at hl 0 rfl) ?_
  subst hQ0
  exact ln_retU X hr hlk hP hSw rfl ⟨rfl, ln_nC_1 hN rfl rfl (fun c hc => by rw [ln_up_n _ _ (by omega), ln_up_n _ _ (by omega)]), rfl, rfl, fun c hc => by rw [ln_up_n _ _ (by omega), ln_up_n _ _ (by omega)]⟩ dX4_setBar_25
set_option maxHeartbeats 4000000 in
set_option maxRecDepth 100000 in
theorem c_X4_setPrice (l : Launch) (D : va_G) (g : Nat → ClassId) (a : Nat → Nat) (σ : ln_S) (d : Nat) (N : ln_N) (hW : ln_wf N) (hN : ln_nC N σ) (p k : Nat) (hp : p < N 0 0) (hd : 0 ≤ d) : ln_U l D g (CW a g) yX4_setPrice (.code yX4_setPrice cX4_setPrice 4 (some .int)) d [.ref (a 1), .int (nI p), .int (nI k)] σ (fun z τ => z = nI (N 2 p) ∧ ln_nC (ln_nSt N 2 p k) τ ∧ τ 1 = σ 1 ∧ ∀ c, (7 ≤ c ∧ c < 25) ∨ 37 ≤ c → τ c = σ c) := by
  have hN12 := hW.n12
  have hp12 := hW.p12
  refine ln_ofU (by decide +kernel) (Nat.le_of_ble_eq_true rfl) (fun prg env rum sta mid args below meth cod ls A hr hlk X hA hP hDw hSw hl => ?_)
  have hl : lv_has ls 4 [(0, .ref (a 1)), (1, .int (nI p)), (2, .int (nI k))] := hl
  generalize hQ0 : (MQ below (va_Qi (fun z τ => z = nI (N 2 p) ∧ ln_nC (ln_nSt N 2 p k) τ ∧ τ 1 = σ 1 ∧ ∀ c, (7 ≤ c ∧ c < 25) ∨ 37 ≤ c → τ c = σ c) (fun τ t => va_P D ln_cl (CW a g τ) t.heap) A) args sta 0 0 A) = Q0
  obtain ⟨H, hH⟩ : ∃ H, H = sta.heap := ⟨_, rfl⟩
  obtain ⟨locs, hlo⟩ : ∃ x : List Loc, x = [] := ⟨_, rfl⟩
  rw [← hH] at hP
  have hSw : va_S A sta.heap H locs := by rw [hH, hlo]; exact hSw
  have goal : W prg l env rum sta mid args below meth cod H locs 0 0 Q0 (F0 mid 0 ls []) := ?_
  · rw [hH, hlo] at goal; exact goal
  clear hlo
  refine lv_aload_n X.1 X.2.1 dX4_setPrice_0 rfl (lv_at hl 0 rfl) ?_
  refine gC_1_4 X hP mF_X4_19 dX4_setPrice_1 ?_
  refine lv_iload_n X.1 X.2.1 dX4_setPrice_4 rfl (lv_at hl 1 rfl) ?_
  refine lC_3 X hP (by omega) (v := nI (N 2 p)) (hN.pr (by omega)) dX4_setPrice_5 ?_
  refine lv_istore_n (lv' := [(3, .int (nI (N 2 p))), (0, .ref (a 1)), (1, .int (nI p)), (2, .int (nI k))]) X.1 X.2.1 dX4_setPrice_6 rfl hl (by decide) rfl (fun ls hl => ?_)
  refine lv_aload_n X.1 X.2.1 dX4_setPrice_7 rfl (lv_at hl 1 rfl) ?_
  refine gC_1_4 X hP mF_X4_19 dX4_setPrice_8 ?_
  refine lv_iload_n X.1 X.2.1 dX4_setPrice_11 rfl (lv_at hl 2 rfl) ?_
  refine lv_iload_n X.1 X.2.1 dX4_setPrice_12 rfl (lv_at hl 3 rfl) ?_
  refine sC_3 X hP hDw hSw (by omega) dX4_setPrice_13 (fun H locs hP hDw hSw => ?_)
  refine lv_iload_n X.1 X.2.1 dX4_setPrice_14 rfl (lv_at hl 0 rfl) ?_
  subst hQ0
  exact ln_retU X hr hlk hP hSw rfl ⟨rfl, ln_nC_2 hN rfl rfl (fun c hc => by rw [ln_up_n _ _ (by omega)]), rfl, fun c hc => by rw [ln_up_n _ _ (by omega)]⟩ dX4_setPrice_15
set_option maxHeartbeats 4000000 in
set_option maxRecDepth 100000 in
theorem c_X4_setWeight (l : Launch) (D : va_G) (g : Nat → ClassId) (a : Nat → Nat) (σ : ln_S) (d : Nat) (N : ln_N) (hW : ln_wf N) (hN : ln_nC N σ) (rv bv : Nat) (hV : ln_vs σ rv bv) (p q k : Nat) (hp : p < N 0 0) (hq : q < N 0 0) (hk : k ≤ 9) (hd : 0 ≤ d) : ln_U l D g (CW a g) yX4_setWeight (.code yX4_setWeight cX4_setWeight 5 (some .int)) d [.ref (a 1), .int (nI p), .int (nI q), .int (nI k)] σ (fun z τ => z = nI (N (5 + p) q) ∧ ln_nC (ln_nRd N p q k) τ ∧ τ 1 1 = nI (rv + 1) ∧ τ 1 2 = σ 1 2 ∧ ∀ c, (7 ≤ c ∧ c < 25) ∨ 37 ≤ c → τ c = σ c) := by
  have hN12 := hW.n12
  have hp12 := hW.p12
  refine ln_ofU (by decide +kernel) (Nat.le_of_ble_eq_true rfl) (fun prg env rum sta mid args below meth cod ls A hr hlk X hA hP hDw hSw hl => ?_)
  have hl : lv_has ls 5 [(0, .ref (a 1)), (1, .int (nI p)), (2, .int (nI q)), (3, .int (nI k))] := hl
  generalize hQ0 : (MQ below (va_Qi (fun z τ => z = nI (N (5 + p) q) ∧ ln_nC (ln_nRd N p q k) τ ∧ τ 1 1 = nI (rv + 1) ∧ τ 1 2 = σ 1 2 ∧ ∀ c, (7 ≤ c ∧ c < 25) ∨ 37 ≤ c → τ c = σ c) (fun τ t => va_P D ln_cl (CW a g τ) t.heap) A) args sta 0 0 A) = Q0
  obtain ⟨H, hH⟩ : ∃ H, H = sta.heap := ⟨_, rfl⟩
  obtain ⟨locs, hlo⟩ : ∃ x : List Loc, x = [] := ⟨_, rfl⟩
  rw [← hH] at hP
  have hSw : va_S A sta.heap H locs := by rw [hH, hlo]; exact hSw
  have goal : W prg l env rum sta mid args below meth cod H locs 0 0 Q0 (F0 mid 0 ls []) := ?_
  · rw [hH, hlo] at goal; exact goal
  clear hlo
  refine lv_aload_n X.1 X.2.1 dX4_setWeight_0 rfl (lv_at hl 0 rfl) ?_
  refine gC_1_5 X hP mF_X4_24 dX4_setWeight_1 ?_
  refine lv_iload_n X.1 X.2.1 dX4_setWeight_4 rfl (lv_at hl 1 rfl) ?_
  refine oC_4 X hP (by omega) dX4_setWeight_5 ?_
  refine lv_iload_n X.1 X.2.1 dX4_setWeight_6 rfl (lv_at hl 2 rfl) ?_
  refine lC_r25 X hP (by omega) (by omega) (v := nI (N (5 + p) q)) (hN.w (by omega) (by omega)) dX4_setWeight_7 ?_
  refine lv_istore (lv' := [(4, .int (nI (N (5 + p) q))), (0, .ref (a 1)), (1, .int (nI p)), (2, .int (nI q)), (3, .int (nI k))]) X.1 X.2.1 dX4_setWeight_8 hl (by decide) rfl (fun ls hl => ?_)
  refine lv_aload_n X.1 X.2.1 dX4_setWeight_10 rfl (lv_at hl 1 rfl) ?_
  refine gC_1_5 X hP mF_X4_24 dX4_setWeight_11 ?_
  refine lv_iload_n X.1 X.2.1 dX4_setWeight_14 rfl (lv_at hl 2 rfl) ?_
  refine oC_4 X hP (by omega) dX4_setWeight_15 ?_
  refine lv_iload_n X.1 X.2.1 dX4_setWeight_16 rfl (lv_at hl 3 rfl) ?_
  refine lv_iload_n X.1 X.2.1 dX4_setWeight_17 rfl (lv_at hl 4 rfl) ?_
  refine sC_r25 X hP hDw hSw (by omega) (by omega) dX4_setWeight_18 (fun H locs hP hDw hSw => ?_)
  obtain ⟨σ1, hσ1⟩ : ∃ z : ln_S, z = (ln_up σ (25 + p) (upd (σ (25 + p)) q (nI k))) := ⟨_, rfl⟩
  rw [← hσ1] at hP hDw
  have w1 : ∀ c, c ≠ 25 + p → σ1 c = σ c := fun c hc => by rw [hσ1, ln_up_n _ _ hc]
  have w2 : σ1 (25 + p) = upd (σ (25 + p)) q (nI k) := by rw [hσ1, ln_up_s]
  refine lv_iload_n X.1 X.2.1 dX4_setWeight_19 rfl (lv_at hl 4 rfl) ?_
  refine rn_ne0 X (by omega) (tgt := 54) dX4_setWeight_20 (by decide) (fun h20 => ?_) (fun h20 => ?_)
  · skip
    refine lv_aload_n X.1 X.2.1 dX4_setWeight_54 rfl (lv_at hl 1 rfl) ?_
    refine gC_1_6 X hP mF_X4_27 dX4_setWeight_55 ?_
    refine lv_iload_n X.1 X.2.1 dX4_setWeight_58 rfl (lv_at hl 2 rfl) ?_
    refine lv_dup2_11 X.1 X.2.1 dX4_setWeight_59 rfl rfl ?_
    refine lC_5 X hP (by omega) (v := nI (N 3 p)) (by rw [w1 5 (by omega)]; exact hN.bh (by omega)) dX4_setWeight_60 ?_
    refine lv_iconst (v := nI 1) X.1 X.2.1 dX4_setWeight_61 (by decide) ?_
    refine lv_iload_n X.1 X.2.1 dX4_setWeight_62 rfl (lv_at hl 3 rfl) ?_
    refine rn_shl X (by omega) dX4_setWeight_63 ?_
    refine rn_or X dX4_setWeight_64 ?_
    refine sC_5 X hP hDw hSw (by omega) dX4_setWeight_65 (fun H locs hP hDw hSw => ?_)
    refine lv_aload_n X.1 X.2.1 dX4_setWeight_66 rfl (lv_at hl 1 rfl) ?_
    refine gC_1_7 X hP mF_X4_30 dX4_setWeight_67 ?_
    refine lv_iload_n X.1 X.2.1 dX4_setWeight_70 rfl (lv_at hl 3 rfl) ?_
    refine lv_dup2_11 X.1 X.2.1 dX4_setWeight_71 rfl rfl ?_
    refine lC_6 X hP (by omega) (v := nI (N 4 q)) (by rw [ln_up_n _ _ (by omega), w1 6 (by omega)]; exact hN.ah (by omega)) dX4_setWeight_72 ?_
    refine lv_iconst (v := nI 1) X.1 X.2.1 dX4_setWeight_73 (by decide) ?_
    refine lv_iload_n X.1 X.2.1 dX4_setWeight_74 rfl (lv_at hl 2 rfl) ?_
    refine rn_shl X (by omega) dX4_setWeight_75 ?_
    refine rn_or X dX4_setWeight_76 ?_
    refine sC_6 X hP hDw hSw (by omega) dX4_setWeight_77 (fun H locs hP hDw hSw => ?_)
    obtain ⟨σ2, hσ2⟩ : ∃ z : ln_S, z = (ln_up (ln_up σ1 5 (upd (σ1 5) p (nI ((N 3 p) ||| (2 ^ q))))) 6 (upd ((ln_up σ1 5 (upd (σ1 5) p (nI ((N 3 p) ||| (2 ^ q))))) 6) q (nI ((N 4 q) ||| (2 ^ p))))) := ⟨_, rfl⟩
    rw [← hσ2] at hP hDw
    refine lv_aload_n X.1 X.2.1 dX4_setWeight_78 rfl (lv_at hl 1 rfl) ?_
    refine lv_dup X.1 X.2.1 dX4_setWeight_79 rfl ?_
    refine gC_1_1 X hP (v := nI rv) (by rw [hσ2, ln_up_n _ _ (by omega), ln_up_n _ _ (by omega), w1 1 (by omega)]; exact hV.1) mF_X4_9 dX4_setWeight_80 ?_
    refine lv_iconst (v := nI 1) X.1 X.2.1 dX4_setWeight_83 (by decide) ?_
    refine rn_add X dX4_setWeight_84 ?_
    refine pC_1_1 X hP hDw hSw mF_X4_9 dX4_setWeight_85 (fun H locs hP hDw hSw => ?_)
    obtain ⟨σ3, hσ3⟩ : ∃ z : ln_S, z = (ln_up σ2 1 (upd (σ2 1) 1 (nI (rv + 1)))) := ⟨_, rfl⟩
    rw [← hσ3] at hP hDw
    refine lv_iload X.1 X.2.1 dX4_setWeight_88 (lv_at hl 0 rfl) ?_
    subst hQ0
    exact ln_retU X hr hlk hP hSw rfl (by have v1 : ∀ c, c ≠ 1 → c ≠ 5 → c ≠ 6 → σ3 c = σ1 c := (fun c z1 z2 z3 => by rw [hσ3, ln_up_n _ _ z1, hσ2, ln_up_n _ _ z3, ln_up_n _ _ z2]); have v0 : σ2 1 = σ 1 := (by rw [hσ2, ln_up_n _ _ (by omega), ln_up_n _ _ (by omega), w1 1 (by omega)]); have v5 : σ3 5 = upd (σ 5) p (nI (ln_nRd N p q k 3 p)) := (by rw [hσ3, ln_up_n _ _ (by omega), hσ2, ln_up_n _ _ (by omega), ln_up_s, w1 5 (by omega), ln_nRd_3]; first | rw [if_pos h20] | rw [if_neg h20]); have v6 : σ3 6 = upd (σ 6) q (nI (ln_nRd N p q k 4 q)) := (by rw [hσ3, ln_up_n _ _ (by omega), hσ2, ln_up_s, ln_up_n _ _ (by omega), w1 6 (by omega), ln_nRd_4]; first | rw [if_pos h20] | rw [if_neg h20]); exact ⟨rfl, ln_nC_rd hN (by rw [hσ3, ln_up_s, ln_upd_n (by omega), v0]) (by rw [v1 2 (by omega) (by omega) (by omega), w1 2 (by omega)]) (by rw [v1 3 (by omega) (by omega) (by omega), w1 3 (by omega)]) v5 v6 (by rw [v1 _ (by omega) (by omega) (by omega), w2]) (fun c c1 c2 c3 => by rw [v1 c (by omega) (by omega) (by omega), w1 c c3]), by rw [hσ3, ln_up_s, ln_upd_s], by rw [hσ3, ln_up_s, ln_upd_n (by omega), v0], fun c hc => by rw [v1 c (by omega) (by omega) (by omega), w1 c (by omega)]⟩) dX4_setWeight_90
  · skip
    refine lv_aload_n X.1 X.2.1 dX4_setWeight_23 rfl (lv_at hl 1 rfl) ?_
    refine gC_1_6 X hP mF_X4_27 dX4_setWeight_24 ?_
    refine lv_iload_n X.1 X.2.1 dX4_setWeight_27 rfl (lv_at hl 2 rfl) ?_
    refine lv_dup2_11 X.1 X.2.1 dX4_setWeight_28 rfl rfl ?_
    refine lC_5 X hP (by omega) (v := nI (N 3 p)) (by rw [w1 5 (by omega)]; exact hN.bh (by omega)) dX4_setWeight_29 ?_
    refine lv_iconst (v := nI 1) X.1 X.2.1 dX4_setWeight_30 (by decide) ?_
    refine lv_iload_n X.1 X.2.1 dX4_setWeight_31 rfl (lv_at hl 3 rfl) ?_
    refine rn_shl X (by omega) dX4_setWeight_32 ?_
    refine lv_iconst (v := ((-1))) X.1 X.2.1 dX4_setWeight_33 (by decide) ?_
    refine lv_ixor X.1 X.2.1 dX4_setWeight_34 ?_
    refine rn_nt X dX4_setWeight_35 ?_
    refine sC_5 X hP hDw hSw (by omega) dX4_setWeight_36 (fun H locs hP hDw hSw => ?_)
    refine lv_aload_n X.1 X.2.1 dX4_setWeight_37 rfl (lv_at hl 1 rfl) ?_
    refine gC_1_7 X hP mF_X4_30 dX4_setWeight_38 ?_
    refine lv_iload_n X.1 X.2.1 dX4_setWeight_41 rfl (lv_at hl 3 rfl) ?_
    refine lv_dup2_11 X.1 X.2.1 dX4_setWeight_42 rfl rfl ?_
    refine lC_6 X hP (by omega) (v := nI (N 4 q)) (by rw [ln_up_n _ _ (by omega), w1 6 (by omega)]; exact hN.ah (by omega)) dX4_setWeight_43 ?_
    refine lv_iconst (v := nI 1) X.1 X.2.1 dX4_setWeight_44 (by decide) ?_
    refine lv_iload_n X.1 X.2.1 dX4_setWeight_45 rfl (lv_at hl 2 rfl) ?_
    refine rn_shl X (by omega) dX4_setWeight_46 ?_
    refine lv_iconst (v := ((-1))) X.1 X.2.1 dX4_setWeight_47 (by decide) ?_
    refine lv_ixor X.1 X.2.1 dX4_setWeight_48 ?_
    refine rn_nt X dX4_setWeight_49 ?_
    refine sC_6 X hP hDw hSw (by omega) dX4_setWeight_50 (fun H locs hP hDw hSw => ?_)
    obtain ⟨σ2, hσ2⟩ : ∃ z : ln_S, z = (ln_up (ln_up σ1 5 (upd (σ1 5) p (nI (ln_df (N 3 p) (2 ^ q))))) 6 (upd ((ln_up σ1 5 (upd (σ1 5) p (nI (ln_df (N 3 p) (2 ^ q))))) 6) q (nI (ln_df (N 4 q) (2 ^ p))))) := ⟨_, rfl⟩
    rw [← hσ2] at hP hDw
    refine lv_goto (tgt := 78) X.1 X.2.1 dX4_setWeight_51 (by decide) ?_
    refine lv_aload_n X.1 X.2.1 dX4_setWeight_78 rfl (lv_at hl 1 rfl) ?_
    refine lv_dup X.1 X.2.1 dX4_setWeight_79 rfl ?_
    refine gC_1_1 X hP (v := nI rv) (by rw [hσ2, ln_up_n _ _ (by omega), ln_up_n _ _ (by omega), w1 1 (by omega)]; exact hV.1) mF_X4_9 dX4_setWeight_80 ?_
    refine lv_iconst (v := nI 1) X.1 X.2.1 dX4_setWeight_83 (by decide) ?_
    refine rn_add X dX4_setWeight_84 ?_
    refine pC_1_1 X hP hDw hSw mF_X4_9 dX4_setWeight_85 (fun H locs hP hDw hSw => ?_)
    obtain ⟨σ3, hσ3⟩ : ∃ z : ln_S, z = (ln_up σ2 1 (upd (σ2 1) 1 (nI (rv + 1)))) := ⟨_, rfl⟩
    rw [← hσ3] at hP hDw
    refine lv_iload X.1 X.2.1 dX4_setWeight_88 (lv_at hl 0 rfl) ?_
    subst hQ0
    exact ln_retU X hr hlk hP hSw rfl (by have v1 : ∀ c, c ≠ 1 → c ≠ 5 → c ≠ 6 → σ3 c = σ1 c := (fun c z1 z2 z3 => by rw [hσ3, ln_up_n _ _ z1, hσ2, ln_up_n _ _ z3, ln_up_n _ _ z2]); have v0 : σ2 1 = σ 1 := (by rw [hσ2, ln_up_n _ _ (by omega), ln_up_n _ _ (by omega), w1 1 (by omega)]); have v5 : σ3 5 = upd (σ 5) p (nI (ln_nRd N p q k 3 p)) := (by rw [hσ3, ln_up_n _ _ (by omega), hσ2, ln_up_n _ _ (by omega), ln_up_s, w1 5 (by omega), ln_nRd_3]; first | rw [if_pos h20] | rw [if_neg h20]); have v6 : σ3 6 = upd (σ 6) q (nI (ln_nRd N p q k 4 q)) := (by rw [hσ3, ln_up_n _ _ (by omega), hσ2, ln_up_s, ln_up_n _ _ (by omega), w1 6 (by omega), ln_nRd_4]; first | rw [if_pos h20] | rw [if_neg h20]); exact ⟨rfl, ln_nC_rd hN (by rw [hσ3, ln_up_s, ln_upd_n (by omega), v0]) (by rw [v1 2 (by omega) (by omega) (by omega), w1 2 (by omega)]) (by rw [v1 3 (by omega) (by omega) (by omega), w1 3 (by omega)]) v5 v6 (by rw [v1 _ (by omega) (by omega) (by omega), w2]) (fun c c1 c2 c3 => by rw [v1 c (by omega) (by omega) (by omega), w1 c c3]), by rw [hσ3, ln_up_s, ln_upd_s], by rw [hσ3, ln_up_s, ln_upd_n (by omega), v0], fun c hc => by rw [v1 c (by omega) (by omega) (by omega), w1 c (by omega)]⟩) dX4_setWeight_90
set_option maxHeartbeats 4000000 in
set_option maxRecDepth 100000 in
theorem c_X10_post (l : Launch) (D : va_G) (g : Nat → ClassId) (a : Nat → Nat) (σ : ln_S) (d : Nat) (N : ln_N) (hI : ln_MI N σ)  (hd : 0 ≤ d) : ln_U l D g (MW a g) yX10_post (.code yX10_post cX10_post 1 (some .int)) d [.ref (a 0)] σ (fun z τ => ∃ M, ln_MI M τ ∧ ln_oPo N M z) := by
  obtain ⟨hW, hN, hK⟩ := hI
  have hN12 := hW.n12
  have hp12 := hW.p12
  have hs1 := ln_sub1 (N 0 0)
  refine ln_ofU (by decide +kernel) (Nat.le_of_ble_eq_true rfl) (fun prg env rum sta mid args below meth cod ls A hr hlk X hA hP hDw hSw hl => ?_)
  have hl : lv_has ls 1 [(0, .ref (a 0))] := hl
  generalize hQ0 : (MQ below (va_Qi (fun z τ => ∃ M, ln_MI M τ ∧ ln_oPo N M z) (fun τ t => va_P D ln_cl (MW a g τ) t.heap) A) args sta 0 0 A) = Q0
  obtain ⟨H, hH⟩ : ∃ H, H = sta.heap := ⟨_, rfl⟩
  obtain ⟨locs, hlo⟩ : ∃ x : List Loc, x = [] := ⟨_, rfl⟩
  rw [← hH] at hP
  have hSw : va_S A sta.heap H locs := by rw [hH, hlo]; exact hSw
  have goal : W prg l env rum sta mid args below meth cod H locs 0 0 Q0 (F0 mid 0 ls []) := ?_
  · rw [hH, hlo] at goal; exact goal
  clear hlo
  refine lv_aload_n X.1 X.2.1 dX10_post_0 rfl (lv_at hl 0 rfl) ?_
  refine gM_0_0 X hP (v := nI (N 0 0)) hN.n mF_X10_48 dX10_post_1 ?_
  refine lv_bipush (v := nI 12) X.1 X.2.1 dX10_post_4 (by decide) ?_
  refine rn_ne X (by omega) (by decide) (tgt := 12) dX10_post_6 (by decide) (fun h6 => ?_) (fun h6 => ?_)
  · skip
    refine lv_aload_n X.1 X.2.1 dX10_post_12 rfl (lv_at hl 0 rfl) ?_
    refine gM_0_2 X hP mF_X10_13 dX10_post_13 ?_
    refine lv_aload_n X.1 X.2.1 dX10_post_16 rfl (lv_at hl 0 rfl) ?_
    refine gM_0_0 X hP (v := nI (N 0 0)) hN.n mF_X10_48 dX10_post_17 ?_
    refine lv_iconst (v := nI 1) X.1 X.2.1 dX10_post_20 (by decide) ?_
    refine sM_2 X hP hDw hSw (by omega) dX10_post_21 (fun H locs hP hDw hSw => ?_)
    refine lv_aload_n X.1 X.2.1 dX10_post_22 rfl (lv_at hl 0 rfl) ?_
    refine gM_0_3 X hP mF_X10_16 dX10_post_23 ?_
    refine lv_aload_n X.1 X.2.1 dX10_post_26 rfl (lv_at hl 0 rfl) ?_
    refine gM_0_0 X hP (v := nI (N 0 0)) hN.n mF_X10_48 dX10_post_27 ?_
    refine lv_iconst (v := nI 1) X.1 X.2.1 dX10_post_30 (by decide) ?_
    refine sM_3 X hP hDw hSw (by omega) dX10_post_31 (fun H locs hP hDw hSw => ?_)
    refine lv_aload_n X.1 X.2.1 dX10_post_32 rfl (lv_at hl 0 rfl) ?_
    refine gM_0_4 X hP mF_X10_19 dX10_post_33 ?_
    refine lv_aload_n X.1 X.2.1 dX10_post_36 rfl (lv_at hl 0 rfl) ?_
    refine gM_0_0 X hP (v := nI (N 0 0)) hN.n mF_X10_48 dX10_post_37 ?_
    refine lv_iconst (v := nI 0) X.1 X.2.1 dX10_post_40 (by decide) ?_
    refine sM_4 X hP hDw hSw (by omega) dX10_post_41 (fun H locs hP hDw hSw => ?_)
    refine lv_aload_n X.1 X.2.1 dX10_post_42 rfl (lv_at hl 0 rfl) ?_
    refine lv_dup X.1 X.2.1 dX10_post_43 rfl ?_
    refine gM_0_0 X hP (v := nI (N 0 0)) hN.n mF_X10_48 dX10_post_44 ?_
    refine lv_iconst (v := nI 1) X.1 X.2.1 dX10_post_47 (by decide) ?_
    refine rn_add X dX10_post_48 ?_
    refine pM_0_0 X hP hDw hSw mF_X10_48 dX10_post_49 (fun H locs hP hDw hSw => ?_)
    refine lv_aload_n X.1 X.2.1 dX10_post_52 rfl (lv_at hl 0 rfl) ?_
    refine lv_iconst (v := nI 0) X.1 X.2.1 dX10_post_53 (by decide) ?_
    refine pM_0_5 X hP hDw hSw mF_X10_56 dX10_post_54 (fun H locs hP hDw hSw => ?_)
    refine lv_aload_n X.1 X.2.1 dX10_post_57 rfl (lv_at hl 0 rfl) ?_
    refine gM_0_0 X hP (v := nI (N 0 0 + 1)) rfl mF_X10_48 dX10_post_58 ?_
    refine lv_iconst (v := nI 1) X.1 X.2.1 dX10_post_61 (by decide) ?_
    refine rn_sub X (by omega) dX10_post_62 ?_
    refine rn_top (y := nI (N 0 0)) (by rw [Nat.add_sub_cancel]) ?_
    subst hQ0
    exact ln_retU X hr hlk hP hSw rfl ⟨ln_nPo N, ⟨ln_nPo_wf hW (by omega), ln_nM_po hW hN rfl rfl rfl rfl rfl, ln_MK_0 rfl⟩, Or.inr ⟨by omega, rfl, rfl⟩⟩ dX10_post_63
  · skip
    refine lv_bipush (v := ((-2))) X.1 X.2.1 dX10_post_9 (by decide) ?_
    subst hQ0
    exact ln_retU X hr hlk hP hSw rfl ⟨N, ⟨hW, hN, hK⟩, Or.inl ⟨h6, rfl, rfl⟩⟩ dX10_post_11
set_option maxHeartbeats 4000000 in
set_option maxRecDepth 100000 in
theorem c_X10_bar (l : Launch) (D : va_G) (g : Nat → ClassId) (a : Nat → Nat) (σ : ln_S) (d : Nat) (N : ln_N) (hI : ln_MI N σ) (x y : Int32) (hd : 2 ≤ d) : ln_U l D g (MW a g) yX10_bar (.code yX10_bar cX10_bar 4 (some .int)) d [.ref (a 0), .int x, .int y] σ (fun z τ => ∃ M, ln_MI M τ ∧ ln_oSt 1 100 N x y M z) := by
  obtain ⟨hW, hN, hK⟩ := hI
  have hN12 := hW.n12
  have hp12 := hW.p12
  have hs1 := ln_sub1 (N 0 0)
  refine ln_ofU (by decide +kernel) (Nat.le_of_ble_eq_true rfl) (fun prg env rum sta mid args below meth cod ls A hr hlk X hA hP hDw hSw hl => ?_)
  have hl : lv_has ls 4 [(0, .ref (a 0)), (1, .int x), (2, .int y)] := hl
  generalize hQ0 : (MQ below (va_Qi (fun z τ => ∃ M, ln_MI M τ ∧ ln_oSt 1 100 N x y M z) (fun τ t => va_P D ln_cl (MW a g τ) t.heap) A) args sta 0 0 A) = Q0
  obtain ⟨H, hH⟩ : ∃ H, H = sta.heap := ⟨_, rfl⟩
  obtain ⟨locs, hlo⟩ : ∃ x : List Loc, x = [] := ⟨_, rfl⟩
  rw [← hH] at hP
  have hSw : va_S A sta.heap H locs := by rw [hH, hlo]; exact hSw
  have goal : W prg l env rum sta mid args below meth cod H locs 0 0 Q0 (F0 mid 0 ls []) := ?_
  · rw [hH, hlo] at goal; exact goal
  clear hlo
  refine lv_aload_n X.1 X.2.1 dX10_bar_0 rfl (lv_at hl 0 rfl) ?_
  refine lv_iload_n X.1 X.2.1 dX10_bar_1 rfl (lv_at hl 1 rfl) ?_
  refine ln_vR X (c_X10_isPost l D g a σ 1 N hW hN x (Nat.le_refl _)) hP 0 rfl rfl mM_X10_59 Y_X10_isPost rfl (by omega) hl.1 rfl (Nat.le_of_ble_eq_true rfl) dX10_bar_2 ⟨Nat.zero_le _, Nat.zero_le _⟩ (fun r2 hr2 => ?_)
  subst hr2
  refine rn_eqB X (tgt := 18) dX10_bar_5 (by decide) (fun h5 => ?_) (fun h5 => ?_)
  · skip
    refine lv_bipush (v := ((-2))) X.1 X.2.1 dX10_bar_18 (by decide) ?_
    subst hQ0
    exact ln_retU X hr hlk hP hSw rfl ⟨N, ⟨hW, hN, hK⟩, Or.inl ⟨by first | exact Or.inl h5 | exact Or.inr h15, rfl, rfl⟩⟩ dX10_bar_20
  · skip
    obtain ⟨p, hp, rfl⟩ := ln_inr_t (by omega) h5
    refine lv_iload_n X.1 X.2.1 dX10_bar_8 rfl (lv_at hl 2 rfl) ?_
    refine lv_iconst (v := nI 0) X.1 X.2.1 dX10_bar_9 (by decide) ?_
    refine lv_bipush (v := nI 99) X.1 X.2.1 dX10_bar_10 (by decide) ?_
    refine ln_sR X (c_X10_in l D g 0 y (nI 0) (nI 99) (Nat.le_refl _)) ln_nil mM_X10_52 Y_X10_in rfl (by omega) hl.1 rfl (Nat.le_of_ble_eq_true rfl) dX10_bar_12 ⟨Nat.zero_le _, Nat.zero_le _⟩ (fun r12 hr12 => ?_)
    subst hr12
    refine rn_top (y := ln_b (ln_inr y 100)) (by rw [show nI 0 = 0 from rfl, ln_in_inr2 (by decide)]) ?_
    refine rn_neB X (tgt := 21) dX10_bar_15 (by decide) (fun h15 => ?_) (fun h15 => ?_)
    · skip
      obtain ⟨k, hk, rfl⟩ := ln_inr_t (by decide) h15
      refine lv_aload_n X.1 X.2.1 dX10_bar_21 rfl (lv_at hl 0 rfl) ?_
      refine gM_0_2 X hP mF_X10_13 dX10_bar_22 ?_
      refine lv_iload_n X.1 X.2.1 dX10_bar_25 rfl (lv_at hl 1 rfl) ?_
      refine lM_2 X hP (by omega) (v := nI (N 1 p)) (hN.b (by omega)) dX10_bar_26 ?_
      refine lv_istore_n (lv' := [(3, .int (nI (N 1 p))), (0, .ref (a 0)), (1, .int (nI p)), (2, .int (nI k))]) X.1 X.2.1 dX10_bar_27 rfl hl (by decide) rfl (fun ls hl => ?_)
      refine lv_aload_n X.1 X.2.1 dX10_bar_28 rfl (lv_at hl 1 rfl) ?_
      refine gM_0_2 X hP mF_X10_13 dX10_bar_29 ?_
      refine lv_iload_n X.1 X.2.1 dX10_bar_32 rfl (lv_at hl 2 rfl) ?_
      refine lv_iload_n X.1 X.2.1 dX10_bar_33 rfl (lv_at hl 3 rfl) ?_
      refine sM_2 X hP hDw hSw (by omega) dX10_bar_34 (fun H locs hP hDw hSw => ?_)
      refine lv_aload_n X.1 X.2.1 dX10_bar_35 rfl (lv_at hl 1 rfl) ?_
      refine lv_iconst (v := nI 0) X.1 X.2.1 dX10_bar_36 (by decide) ?_
      refine pM_0_5 X hP hDw hSw mF_X10_56 dX10_bar_37 (fun H locs hP hDw hSw => ?_)
      refine lv_iload_n X.1 X.2.1 dX10_bar_40 rfl (lv_at hl 0 rfl) ?_
      subst hQ0
      exact ln_retU X hr hlk hP hSw rfl ⟨ln_nSt N 1 p k, ⟨ln_nSt_wf1 hW (by omega), ln_nM_1 hN rfl rfl (fun c hc => by rw [ln_up_n _ _ (by omega), ln_up_n _ _ (by omega)]), ln_MK_0 rfl⟩, Or.inr ⟨p, k, hp, hk, rfl, rfl, rfl, rfl⟩⟩ dX10_bar_41
    · skip
      refine lv_bipush (v := ((-2))) X.1 X.2.1 dX10_bar_18 (by decide) ?_
      subst hQ0
      exact ln_retU X hr hlk hP hSw rfl ⟨N, ⟨hW, hN, hK⟩, Or.inl ⟨by first | exact Or.inl h5 | exact Or.inr h15, rfl, rfl⟩⟩ dX10_bar_20
set_option maxHeartbeats 4000000 in
set_option maxRecDepth 100000 in
theorem c_X10_price (l : Launch) (D : va_G) (g : Nat → ClassId) (a : Nat → Nat) (σ : ln_S) (d : Nat) (N : ln_N) (hI : ln_MI N σ) (x y : Int32) (hd : 2 ≤ d) : ln_U l D g (MW a g) yX10_price (.code yX10_price cX10_price 4 (some .int)) d [.ref (a 0), .int x, .int y] σ (fun z τ => ∃ M, ln_MI M τ ∧ ln_oSt 2 1001 N x y M z) := by
  obtain ⟨hW, hN, hK⟩ := hI
  have hN12 := hW.n12
  have hp12 := hW.p12
  have hs1 := ln_sub1 (N 0 0)
  refine ln_ofU (by decide +kernel) (Nat.le_of_ble_eq_true rfl) (fun prg env rum sta mid args below meth cod ls A hr hlk X hA hP hDw hSw hl => ?_)
  have hl : lv_has ls 4 [(0, .ref (a 0)), (1, .int x), (2, .int y)] := hl
  generalize hQ0 : (MQ below (va_Qi (fun z τ => ∃ M, ln_MI M τ ∧ ln_oSt 2 1001 N x y M z) (fun τ t => va_P D ln_cl (MW a g τ) t.heap) A) args sta 0 0 A) = Q0
  obtain ⟨H, hH⟩ : ∃ H, H = sta.heap := ⟨_, rfl⟩
  obtain ⟨locs, hlo⟩ : ∃ x : List Loc, x = [] := ⟨_, rfl⟩
  rw [← hH] at hP
  have hSw : va_S A sta.heap H locs := by rw [hH, hlo]; exact hSw
  have goal : W prg l env rum sta mid args below meth cod H locs 0 0 Q0 (F0 mid 0 ls []) := ?_
  · rw [hH, hlo] at goal; exact goal
  clear hlo
  refine lv_aload_n X.1 X.2.1 dX10_price_0 rfl (lv_at hl 0 rfl) ?_
  refine lv_iload_n X.1 X.2.1 dX10_price_1 rfl (lv_at hl 1 rfl) ?_
  refine ln_vR X (c_X10_isPost l D g a σ 1 N hW hN x (Nat.le_refl _)) hP 0 rfl rfl mM_X10_59 Y_X10_isPost rfl (by omega) hl.1 rfl (Nat.le_of_ble_eq_true rfl) dX10_price_2 ⟨Nat.zero_le _, Nat.zero_le _⟩ (fun r2 hr2 => ?_)
  subst hr2
  refine rn_eqB X (tgt := 19) dX10_price_5 (by decide) (fun h5 => ?_) (fun h5 => ?_)
  · skip
    refine lv_bipush (v := ((-2))) X.1 X.2.1 dX10_price_19 (by decide) ?_
    subst hQ0
    exact ln_retU X hr hlk hP hSw rfl ⟨N, ⟨hW, hN, hK⟩, Or.inl ⟨by first | exact Or.inl h5 | exact Or.inr h16, rfl, rfl⟩⟩ dX10_price_21
  · skip
    obtain ⟨p, hp, rfl⟩ := ln_inr_t (by omega) h5
    refine lv_iload_n X.1 X.2.1 dX10_price_8 rfl (lv_at hl 2 rfl) ?_
    refine lv_iconst (v := nI 0) X.1 X.2.1 dX10_price_9 (by decide) ?_
    refine lv_sipush (v := nI 1000) X.1 X.2.1 dX10_price_10 (by decide) ?_
    refine ln_sR X (c_X10_in l D g 0 y (nI 0) (nI 1000) (Nat.le_refl _)) ln_nil mM_X10_52 Y_X10_in rfl (by omega) hl.1 rfl (Nat.le_of_ble_eq_true rfl) dX10_price_13 ⟨Nat.zero_le _, Nat.zero_le _⟩ (fun r13 hr13 => ?_)
    subst hr13
    refine rn_top (y := ln_b (ln_inr y 1001)) (by rw [show nI 0 = 0 from rfl, ln_in_inr2 (by decide)]) ?_
    refine rn_neB X (tgt := 22) dX10_price_16 (by decide) (fun h16 => ?_) (fun h16 => ?_)
    · skip
      obtain ⟨k, hk, rfl⟩ := ln_inr_t (by decide) h16
      refine lv_aload_n X.1 X.2.1 dX10_price_22 rfl (lv_at hl 0 rfl) ?_
      refine gM_0_3 X hP mF_X10_16 dX10_price_23 ?_
      refine lv_iload_n X.1 X.2.1 dX10_price_26 rfl (lv_at hl 1 rfl) ?_
      refine lM_3 X hP (by omega) (v := nI (N 2 p)) (hN.pr (by omega)) dX10_price_27 ?_
      refine lv_istore_n (lv' := [(3, .int (nI (N 2 p))), (0, .ref (a 0)), (1, .int (nI p)), (2, .int (nI k))]) X.1 X.2.1 dX10_price_28 rfl hl (by decide) rfl (fun ls hl => ?_)
      refine lv_aload_n X.1 X.2.1 dX10_price_29 rfl (lv_at hl 1 rfl) ?_
      refine gM_0_3 X hP mF_X10_16 dX10_price_30 ?_
      refine lv_iload_n X.1 X.2.1 dX10_price_33 rfl (lv_at hl 2 rfl) ?_
      refine lv_iload_n X.1 X.2.1 dX10_price_34 rfl (lv_at hl 3 rfl) ?_
      refine sM_3 X hP hDw hSw (by omega) dX10_price_35 (fun H locs hP hDw hSw => ?_)
      refine lv_iload_n X.1 X.2.1 dX10_price_36 rfl (lv_at hl 0 rfl) ?_
      subst hQ0
      exact ln_retU X hr hlk hP hSw rfl ⟨ln_nSt N 2 p k, ⟨ln_nSt_wf2 hW (by omega), ln_nM_2 hN rfl rfl (fun c hc => by rw [ln_up_n _ _ (by omega)]), (by obtain ⟨K, k1, k2, k3⟩ := hK; exact ⟨K, k1, k2, fun j j1 j2 => ln_c_mT (ln_nSt_sim (by omega)) (ln_nSt_i (by omega)).symm ((k3 j j1 j2).of (fun c hc => by rw [ln_up_n _ _ (by omega)]))⟩)⟩, Or.inr ⟨p, k, hp, hk, rfl, rfl, rfl, rfl⟩⟩ dX10_price_37
    · skip
      refine lv_bipush (v := ((-2))) X.1 X.2.1 dX10_price_19 (by decide) ?_
      subst hQ0
      exact ln_retU X hr hlk hP hSw rfl ⟨N, ⟨hW, hN, hK⟩, Or.inl ⟨by first | exact Or.inl h5 | exact Or.inr h16, rfl, rfl⟩⟩ dX10_price_21
set_option maxHeartbeats 4000000 in
set_option maxRecDepth 100000 in
theorem c_X10_road (l : Launch) (D : va_G) (g : Nat → ClassId) (a : Nat → Nat) (σ : ln_S) (d : Nat) (N : ln_N) (hI : ln_MI N σ) (x y w : Int32) (hd : 2 ≤ d) : ln_U l D g (MW a g) yX10_road (.code yX10_road cX10_road 5 (some .int)) d [.ref (a 0), .int x, .int y, .int w] σ (fun z τ => ∃ M, ln_MI M τ ∧ ln_oRd N x y w M z) := by
  obtain ⟨hW, hN, hK⟩ := hI
  have hN12 := hW.n12
  have hp12 := hW.p12
  have hs1 := ln_sub1 (N 0 0)
  refine ln_ofU (by decide +kernel) (Nat.le_of_ble_eq_true rfl) (fun prg env rum sta mid args below meth cod ls A hr hlk X hA hP hDw hSw hl => ?_)
  have hl : lv_has ls 5 [(0, .ref (a 0)), (1, .int x), (2, .int y), (3, .int w)] := hl
  generalize hQ0 : (MQ below (va_Qi (fun z τ => ∃ M, ln_MI M τ ∧ ln_oRd N x y w M z) (fun τ t => va_P D ln_cl (MW a g τ) t.heap) A) args sta 0 0 A) = Q0
  obtain ⟨H, hH⟩ : ∃ H, H = sta.heap := ⟨_, rfl⟩
  obtain ⟨locs, hlo⟩ : ∃ x : List Loc, x = [] := ⟨_, rfl⟩
  rw [← hH] at hP
  have hSw : va_S A sta.heap H locs := by rw [hH, hlo]; exact hSw
  have goal : W prg l env rum sta mid args below meth cod H locs 0 0 Q0 (F0 mid 0 ls []) := ?_
  · rw [hH, hlo] at goal; exact goal
  clear hlo
  refine lv_aload_n X.1 X.2.1 dX10_road_0 rfl (lv_at hl 0 rfl) ?_
  refine lv_iload_n X.1 X.2.1 dX10_road_1 rfl (lv_at hl 1 rfl) ?_
  refine ln_vR X (c_X10_isPost l D g a σ 1 N hW hN x (Nat.le_refl _)) hP 0 rfl rfl mM_X10_59 Y_X10_isPost rfl (by omega) hl.1 rfl (Nat.le_of_ble_eq_true rfl) dX10_road_2 ⟨Nat.zero_le _, Nat.zero_le _⟩ (fun r2 hr2 => ?_)
  subst hr2
  refine rn_eqB X (tgt := 31) dX10_road_5 (by decide) (fun h5 => ?_) (fun h5 => ?_)
  · skip
    refine lv_bipush (v := ((-2))) X.1 X.2.1 dX10_road_31 (by decide) ?_
    subst hQ0
    exact ln_retU X hr hlk hP hSw rfl ⟨N, ⟨hW, hN, hK⟩, Or.inl ⟨by first | exact Or.inl h5 | exact Or.inr (Or.inl h13) | exact Or.inr (Or.inr (Or.inl (by rw [h18]))) | exact Or.inr (Or.inr (Or.inr h28)), rfl, rfl⟩⟩ dX10_road_33
  · skip
    obtain ⟨p, hp, rfl⟩ := ln_inr_t (by omega) h5
    refine lv_aload_n X.1 X.2.1 dX10_road_8 rfl (lv_at hl 0 rfl) ?_
    refine lv_iload_n X.1 X.2.1 dX10_road_9 rfl (lv_at hl 2 rfl) ?_
    refine ln_vR X (c_X10_isPost l D g a σ 1 N hW hN y (Nat.le_refl _)) hP 0 rfl rfl mM_X10_59 Y_X10_isPost rfl (by omega) hl.1 rfl (Nat.le_of_ble_eq_true rfl) dX10_road_10 ⟨Nat.zero_le _, Nat.zero_le _⟩ (fun r10 hr10 => ?_)
    subst hr10
    refine rn_eqB X (tgt := 31) dX10_road_13 (by decide) (fun h13 => ?_) (fun h13 => ?_)
    · skip
      refine lv_bipush (v := ((-2))) X.1 X.2.1 dX10_road_31 (by decide) ?_
      subst hQ0
      exact ln_retU X hr hlk hP hSw rfl ⟨N, ⟨hW, hN, hK⟩, Or.inl ⟨by first | exact Or.inl h5 | exact Or.inr (Or.inl h13) | exact Or.inr (Or.inr (Or.inl (by rw [h18]))) | exact Or.inr (Or.inr (Or.inr h28)), rfl, rfl⟩⟩ dX10_road_33
    · skip
      obtain ⟨q, hq, rfl⟩ := ln_inr_t (by omega) h13
      refine lv_iload_n X.1 X.2.1 dX10_road_16 rfl (lv_at hl 1 rfl) ?_
      refine lv_iload_n X.1 X.2.1 dX10_road_17 rfl (lv_at hl 2 rfl) ?_
      refine rn_eq X (by omega) (by omega) (tgt := 31) dX10_road_18 (by decide) (fun h18 => ?_) (fun h18 => ?_)
      · skip
        refine lv_bipush (v := ((-2))) X.1 X.2.1 dX10_road_31 (by decide) ?_
        subst hQ0
        exact ln_retU X hr hlk hP hSw rfl ⟨N, ⟨hW, hN, hK⟩, Or.inl ⟨by first | exact Or.inl h5 | exact Or.inr (Or.inl h13) | exact Or.inr (Or.inr (Or.inl (by rw [h18]))) | exact Or.inr (Or.inr (Or.inr h28)), rfl, rfl⟩⟩ dX10_road_33
      · skip
        refine lv_iload_n X.1 X.2.1 dX10_road_21 rfl (lv_at hl 3 rfl) ?_
        refine lv_iconst (v := nI 0) X.1 X.2.1 dX10_road_22 (by decide) ?_
        refine lv_bipush (v := nI 9) X.1 X.2.1 dX10_road_23 (by decide) ?_
        refine ln_sR X (c_X10_in l D g 0 w (nI 0) (nI 9) (Nat.le_refl _)) ln_nil mM_X10_52 Y_X10_in rfl (by omega) hl.1 rfl (Nat.le_of_ble_eq_true rfl) dX10_road_25 ⟨Nat.zero_le _, Nat.zero_le _⟩ (fun r25 hr25 => ?_)
        subst hr25
        refine rn_top (y := ln_b (ln_inr w 10)) (by rw [show nI 0 = 0 from rfl, ln_in_inr2 (by decide)]) ?_
        refine rn_neB X (tgt := 34) dX10_road_28 (by decide) (fun h28 => ?_) (fun h28 => ?_)
        · skip
          obtain ⟨k, hk, rfl⟩ := ln_inr_t (by decide) h28
          refine lv_aload_n X.1 X.2.1 dX10_road_34 rfl (lv_at hl 0 rfl) ?_
          refine gM_0_1 X hP mF_X10_7 dX10_road_35 ?_
          refine lv_bipush (v := nI 12) X.1 X.2.1 dX10_road_38 (by decide) ?_
          refine lv_iload_n X.1 X.2.1 dX10_road_40 rfl (lv_at hl 1 rfl) ?_
          refine rn_mul X dX10_road_41 ?_
          refine lv_iload_n X.1 X.2.1 dX10_road_42 rfl (lv_at hl 2 rfl) ?_
          refine rn_add X dX10_road_43 ?_
          refine lM_1 X hP (by omega) (v := nI (N (5 + p) q)) (hN.w (by omega) (by omega)) dX10_road_44 ?_
          refine lv_istore (lv' := [(4, .int (nI (N (5 + p) q))), (0, .ref (a 0)), (1, .int (nI p)), (2, .int (nI q)), (3, .int (nI k))]) X.1 X.2.1 dX10_road_45 hl (by decide) rfl (fun ls hl => ?_)
          refine lv_aload_n X.1 X.2.1 dX10_road_47 rfl (lv_at hl 1 rfl) ?_
          refine gM_0_1 X hP mF_X10_7 dX10_road_48 ?_
          refine lv_bipush (v := nI 12) X.1 X.2.1 dX10_road_51 (by decide) ?_
          refine lv_iload_n X.1 X.2.1 dX10_road_53 rfl (lv_at hl 2 rfl) ?_
          refine rn_mul X dX10_road_54 ?_
          refine lv_iload_n X.1 X.2.1 dX10_road_55 rfl (lv_at hl 3 rfl) ?_
          refine rn_add X dX10_road_56 ?_
          refine lv_iload_n X.1 X.2.1 dX10_road_57 rfl (lv_at hl 4 rfl) ?_
          refine sM_1 X hP hDw hSw (by omega) dX10_road_58 (fun H locs hP hDw hSw => ?_)
          refine lv_aload_n X.1 X.2.1 dX10_road_59 rfl (lv_at hl 1 rfl) ?_
          refine gM_0_4 X hP mF_X10_19 dX10_road_60 ?_
          refine lv_iload_n X.1 X.2.1 dX10_road_63 rfl (lv_at hl 2 rfl) ?_
          refine lv_iload_n X.1 X.2.1 dX10_road_64 rfl (lv_at hl 4 rfl) ?_
          refine rn_le0 X (by omega) (tgt := 81) dX10_road_65 (by decide) (fun h65 => ?_) (fun h65 => ?_)
          · skip
            refine lv_aload_n X.1 X.2.1 dX10_road_81 rfl (lv_at hl 1 rfl) ?_
            refine gM_0_4 X hP mF_X10_19 dX10_road_82 ?_
            refine lv_iload_n X.1 X.2.1 dX10_road_85 rfl (lv_at hl 2 rfl) ?_
            refine lM_4 X hP (by omega) (v := nI (N 3 p)) (hN.bh (by omega)) dX10_road_86 ?_
            refine lv_iconst (v := nI 1) X.1 X.2.1 dX10_road_87 (by decide) ?_
            refine lv_iload_n X.1 X.2.1 dX10_road_88 rfl (lv_at hl 3 rfl) ?_
            refine rn_shl X (by omega) dX10_road_89 ?_
            refine lv_iconst (v := ((-1))) X.1 X.2.1 dX10_road_90 (by decide) ?_
            refine lv_ixor X.1 X.2.1 dX10_road_91 ?_
            refine rn_nt X dX10_road_92 ?_
            refine sM_4 X hP hDw hSw (by omega) dX10_road_93 (fun H locs hP hDw hSw => ?_)
            refine lv_aload_n X.1 X.2.1 dX10_road_94 rfl (lv_at hl 1 rfl) ?_
            refine lv_iconst (v := nI 0) X.1 X.2.1 dX10_road_95 (by decide) ?_
            refine pM_0_5 X hP hDw hSw mF_X10_56 dX10_road_96 (fun H locs hP hDw hSw => ?_)
            refine lv_iload X.1 X.2.1 dX10_road_99 (lv_at hl 0 rfl) ?_
            subst hQ0
            exact ln_retU X hr hlk hP hSw rfl ⟨ln_nRd N p q k, ⟨ln_nRd_wf hW hp hq (by omega), ln_nM_rd (by omega) (by omega) hN rfl rfl rfl (by rw [ln_nRd_3]; first | (rw [if_pos (by omega)]; rfl) | (rw [if_neg (by omega)]; rfl)) rfl, ln_MK_0 rfl⟩, Or.inr ⟨p, q, k, hp, hq, h18, hk, rfl, rfl, rfl, rfl, rfl⟩⟩ dX10_road_101
          · skip
            refine lv_aload_n X.1 X.2.1 dX10_road_68 rfl (lv_at hl 1 rfl) ?_
            refine gM_0_4 X hP mF_X10_19 dX10_road_69 ?_
            refine lv_iload_n X.1 X.2.1 dX10_road_72 rfl (lv_at hl 2 rfl) ?_
            refine lM_4 X hP (by omega) (v := nI (N 3 p)) (hN.bh (by omega)) dX10_road_73 ?_
            refine lv_iconst (v := nI 1) X.1 X.2.1 dX10_road_74 (by decide) ?_
            refine lv_iload_n X.1 X.2.1 dX10_road_75 rfl (lv_at hl 3 rfl) ?_
            refine rn_shl X (by omega) dX10_road_76 ?_
            refine rn_or X dX10_road_77 ?_
            refine lv_goto (tgt := 93) X.1 X.2.1 dX10_road_78 (by decide) ?_
            refine sM_4 X hP hDw hSw (by omega) dX10_road_93 (fun H locs hP hDw hSw => ?_)
            refine lv_aload_n X.1 X.2.1 dX10_road_94 rfl (lv_at hl 1 rfl) ?_
            refine lv_iconst (v := nI 0) X.1 X.2.1 dX10_road_95 (by decide) ?_
            refine pM_0_5 X hP hDw hSw mF_X10_56 dX10_road_96 (fun H locs hP hDw hSw => ?_)
            refine lv_iload X.1 X.2.1 dX10_road_99 (lv_at hl 0 rfl) ?_
            subst hQ0
            exact ln_retU X hr hlk hP hSw rfl ⟨ln_nRd N p q k, ⟨ln_nRd_wf hW hp hq (by omega), ln_nM_rd (by omega) (by omega) hN rfl rfl rfl (by rw [ln_nRd_3]; first | (rw [if_pos (by omega)]; rfl) | (rw [if_neg (by omega)]; rfl)) rfl, ln_MK_0 rfl⟩, Or.inr ⟨p, q, k, hp, hq, h18, hk, rfl, rfl, rfl, rfl, rfl⟩⟩ dX10_road_101
        · skip
          refine lv_bipush (v := ((-2))) X.1 X.2.1 dX10_road_31 (by decide) ?_
          subst hQ0
          exact ln_retU X hr hlk hP hSw rfl ⟨N, ⟨hW, hN, hK⟩, Or.inl ⟨by first | exact Or.inl h5 | exact Or.inr (Or.inl h13) | exact Or.inr (Or.inr (Or.inl (by rw [h18]))) | exact Or.inr (Or.inr (Or.inr h28)), rfl, rfl⟩⟩ dX10_road_33
