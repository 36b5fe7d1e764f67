theorem ln_aK.of {N : ln_N} {σ τ : ln_S} {rv bv : Nat} (h : ln_aK N σ rv bv) (ho : ∀ c, c = 15 ∨ c = 16 → τ c = σ c) : ln_aK N τ rv bv := by
  unfold ln_aK; rw [ho 15 (by omega), ho 16 (by omega)]; exact h
theorem ln_tK.of {N : ln_N} {σ τ : ln_S} {rv : Nat} (h : ln_tK N σ rv) (ho : ∀ c, c = 17 ∨ c = 18 → τ c = σ c) : ln_tK N τ rv := by
  unfold ln_tK ln_tT; rw [ho 17 (by omega), ho 18 (by omega)]; exact h
theorem ln_hK.of {N : ln_N} {σ τ : ln_S} {rv : Nat} (h : ln_hK N σ rv) (ho : ∀ c, c = 20 ∨ c = 21 → τ c = σ c) : ln_hK N τ rv := by
  unfold ln_hK ln_hT; rw [ho 20 (by omega), ho 21 (by omega)]; exact h
theorem ln_CI_of {N : ln_N} {v : Nat} {σ τ : ln_S} {rv bv : Nat} (hW : ln_wf N) (hN : ln_nC N σ) (hV : ln_vs σ rv bv) (hv : rv + bv ≤ v) (hE : ln_eK N τ rv bv) (hA : ln_aK N τ rv bv) (hT : ln_tK N τ rv) (hH : ln_hK N τ rv) (hWk : ln_wK N τ rv bv) (ho : ∀ c, c < 7 ∨ (25 ≤ c ∧ c < 37) → τ c = σ c) : ln_CI N v τ :=
  ⟨hW, hN.of (fun c hc => ho c (by omega)), rv, bv, hV.of (ho 1 (by omega)), hv, hE, hA, hT, hH, hWk⟩
theorem ln_CI.up {N : ln_N} {v : Nat} {σ : ln_S} (h : ln_CI N v σ) : ln_CI N (v + 1) σ := by
  obtain ⟨hW, hN, rv, bv, hV, hv, h2⟩ := h
  exact ⟨hW, hN, rv, bv, hV, by omega, h2⟩
/-! nets that differ in bars and prices alone -/
def ln_sim (N M : ln_N) : Prop := N 0 = M 0 ∧ N 3 = M 3 ∧ N 4 = M 4 ∧ ∀ p, N (5 + p) = M (5 + p)
theorem ln_c_wb {N M : ln_N} (h : ln_sim N M) : ln_wb N = ln_wb M := by funext S; unfold ln_wb ln_bhs; rw [h.2.1, h.1]
theorem ln_c_wt {N M : ln_N} (h : ln_sim N M) (S p k : Nat) : ln_wt N S p k = ln_wt M S p k := by unfold ln_wt; simp only [h.2.2.2]
theorem ln_c_tBf {N M : ln_N} (h : ln_sim N M) (h1 : N 1 = M 1) (S : Nat) : ln_tBf N S = ln_tBf M S := by funext p; unfold ln_tBf; rw [h1, ln_c_wt h, h.1]
theorem ln_c_tFf {N M : ln_N} (h : ln_sim N M) (S : Nat) : ln_tFf N S = ln_tFf M S := by funext p; unfold ln_tFf ln_off; rw [h.2.1]
theorem ln_c_tp {N M : ln_N} (h : ln_sim N M) {r : Nat} (hr : r ≠ 0 ∨ N 1 = M 1) : ln_tp N r = ln_tp M r := by
  funext S
  unfold ln_tp
  by_cases e : r = 0
  · rw [if_pos e, if_pos e]; unfold ln_tB; rw [ln_c_tBf h (hr.resolve_left (fun z => z e)), h.1]
  · rw [if_neg e, if_neg e]; unfold ln_tF; rw [ln_c_tFf h, h.1]
theorem ln_c_tk {N M : ln_N} (h : ln_sim N M) {r : Nat} (hr : r ≠ 0 ∨ N 1 = M 1) : ln_tk N r = ln_tk M r := by funext t S; unfold ln_tk; rw [ln_c_wb h, ln_c_tp h hr]
theorem ln_c_st {N M : ln_N} (h : ln_sim N M) {r : Nat} (hr : r ≠ 0 ∨ N 1 = M 1) (S : Nat) : ∀ t, ln_st N r S t = ln_st M r S t
  | 0 => rfl
  | t + 1 => by
    show ln_tk N r (t + 1) (ln_st N r S t) = ln_tk M r (t + 1) (ln_st M r S t)
    rw [ln_c_st h hr S t, ln_c_tk h hr]
theorem ln_c_end {N M : ln_N} (h : ln_sim N M) {r : Nat} (hr : r ≠ 0 ∨ N 1 = M 1) : ln_end N r = ln_end M r := funext (fun S => ln_c_st h hr S 13)
theorem ln_c_bt {N M : ln_N} (h : ln_sim N M) : ln_bt N = ln_bt M := by
  have e : ln_btF N = ln_btF M := by funext f S; unfold ln_btF; rw [ln_c_wb h, h.1]
  funext S; unfold ln_bt; rw [e]
theorem ln_c_wn {N M : ln_N} (h : ln_sim N M) {r : Nat} (hr : r ≠ 0 ∨ N 1 = M 1) : ln_wn N r = ln_wn M r := by
  have e : ln_wnF N r = ln_wnF M r := by funext f S; unfold ln_wnF ln_wnf; rw [ln_c_end h hr, h.1]
  funext S; unfold ln_wn; rw [e, h.1]
theorem ln_c_nx {N M : ln_N} (h : ln_sim N M) : ln_nx N = ln_nx M := by funext b w; unfold ln_nx ln_bhs; rw [h.2.1, h.1]
theorem ln_c_sv {N M : ln_N} (h : ln_sim N M) : ln_sv N = ln_sv M := by
  have e0 : ln_bw N = ln_bw M := by funext f b w; unfold ln_bw; rw [ln_c_nx h, h.1]
  have e : ln_svF N = ln_svF M := by funext f b w; unfold ln_svF; rw [e0, h.1]
  funext b w; unfold ln_sv; rw [e]
theorem ln_c_ft {N M : ln_N} (h : ln_sim N M) {r : Nat} (hr : r ≠ 0 ∨ N 1 = M 1) : ln_ft N r = ln_ft M r := by funext S; unfold ln_ft; rw [ln_c_tp h hr, h.1]
theorem ln_c_lf {N M : ln_N} (h : ln_sim N M) {r : Nat} (hr : r ≠ 0 ∨ N 1 = M 1) : ln_lf N r = ln_lf M r := by funext S; unfold ln_lf; rw [ln_c_ft h hr]
theorem ln_c_pk {N M : ln_N} (h : ln_sim N M) {r : Nat} (hr : r ≠ 0 ∨ N 1 = M 1) : ∀ k S, ln_pk N r k S = ln_pk M r k S
  | 0, _ => rfl
  | k + 1, S => by
    show (∃ F, ln_ft N r F = true ∧ F &&& S = F ∧ ln_pk N r k (ln_df S F)) = (∃ F, ln_ft M r F = true ∧ F &&& S = F ∧ ln_pk M r k (ln_df S F))
    rw [ln_c_ft h hr]
    apply propext
    constructor
    · rintro ⟨F, h1, h2, h3⟩; exact ⟨F, h1, h2, by rw [← ln_c_pk h hr k]; exact h3⟩
    · rintro ⟨F, h1, h2, h3⟩; exact ⟨F, h1, h2, by rw [ln_c_pk h hr k]; exact h3⟩
theorem ln_c_isA {N M : ln_N} (h : ln_sim N M) {r : Nat} (hr : r ≠ 0 ∨ N 1 = M 1) (S v : Nat) : ln_isA N r S v = ln_isA M r S v := by unfold ln_isA; rw [ln_c_pk h hr, ln_c_pk h hr]
theorem ln_c_an {N M : ln_N} (h : ln_sim N M) : ln_an N = ln_an M := by funext f S p q; unfold ln_an; rw [h.2.2.2 q]
theorem ln_c_aa {N M : ln_N} (h : ln_sim N M) : ln_aa N = ln_aa M := by funext f S; unfold ln_aa; rw [ln_c_an h, h.1]
theorem ln_c_gs {N M : ln_N} (h : ln_sim N M) (f : Nat → Bool) : ∀ S, ln_gs N f S = ln_gs M f S
  | 0 => rfl
  | S + 1 => by
    funext T
    show (if T = S then ln_gs N f S S && ln_aa N (ln_gs N f S) S else ln_gs N f S T) = (if T = S then ln_gs M f S S && ln_aa M (ln_gs M f S) S else ln_gs M f S T)
    rw [ln_c_gs h f S, ln_c_aa h]
theorem ln_c_gr {N M : ln_N} (h : ln_sim N M) : ∀ k, ln_gr N k = ln_gr M k
  | 0 => rfl
  | k + 1 => by
    show ln_gs N (ln_gr N k) (2 ^ N 0 0) = ln_gs M (ln_gr M k) (2 ^ M 0 0)
    rw [ln_c_gr h k, ln_c_gs h, h.1]
theorem ln_c_hd {N M : ln_N} (h : ln_sim N M) : ln_hd N = ln_hd M := ln_c_gr h 4097
theorem ln_c_eT {N M : ln_N} (h : ln_sim N M) {r : Nat} {σ : ln_S} (hr : r ≠ 0 ∨ N 1 = M 1) (q : ln_eT N σ r) : ln_eT M σ r := by unfold ln_eT at q ⊢; rw [← ln_c_end h hr, ← h.1]; exact q
theorem ln_c_wT {N M : ln_N} (h : ln_sim N M) {r : Nat} {σ : ln_S} (hr : r ≠ 0 ∨ N 1 = M 1) (q : ln_wT N σ r) : ln_wT M σ r := by unfold ln_wT at q ⊢; rw [← ln_c_wn h hr, ← h.1]; exact q
theorem ln_c_tT {N M : ln_N} (h : ln_sim N M) {σ : ln_S} (q : ln_tT N σ) : ln_tT M σ := by unfold ln_tT at q ⊢; rw [← ln_c_bt h, ← h.1]; exact q
theorem ln_c_hT {N M : ln_N} (h : ln_sim N M) {σ : ln_S} (q : ln_hT N σ) : ln_hT M σ := by unfold ln_hT at q ⊢; rw [← ln_c_hd h, ← h.1]; exact q
theorem ln_c_aT {N M : ln_N} (h : ln_sim N M) {r : Nat} {x : Int32} (hr : r ≠ 0 ∨ N 1 = M 1) (q : ∃ z, z ≤ 12 ∧ x = nI z ∧ ln_isA N r (2 ^ N 0 0 - 1) z) : ∃ z, z ≤ 12 ∧ x = nI z ∧ ln_isA M r (2 ^ M 0 0 - 1) z := by
  obtain ⟨z, h1, h2, h3⟩ := q
  exact ⟨z, h1, h2, by rw [← ln_c_isA h hr, ← h.1]; exact h3⟩
theorem ln_c_mT {N M : ln_N} (h : ln_sim N M) {σ : ln_S} (h1 : N 1 = M 1) {k : Nat} (q : ln_mT N σ k) : ln_mT M σ k := by
  unfold ln_mT at q ⊢
  rw [← ln_c_end h (Or.inr h1), ← ln_c_wn h (Or.inr h1), ← ln_c_lf h (Or.inr h1), ← ln_c_bt h, ← ln_c_sv h, ← ln_c_hd h, ← h.1]
  exact q
theorem ln_vt.imp {x : Int32} {w : Nat} {P Q : Prop} (h : ln_vt x w P) (hi : P → Q) : ln_vt x w Q := by
  obtain ⟨e, h1, h2, h3⟩ := h
  exact ⟨e, h1, h2, fun q => hi (h3 q)⟩
theorem ln_vt.old {x : Int32} {w w2 : Nat} {P Q : Prop} (h : ln_vt x w P) (hw : w < w2) : ln_vt x w2 Q := by
  obtain ⟨e, h1, h2, h3⟩ := h
  exact ⟨e, h1, by omega, fun q => absurd q (by omega)⟩
/-- the roads have changed: every table is stale -/
theorem ln_CI_rd {N M : ln_N} {v : Nat} {σ τ : ln_S} {rv bv : Nat} (hv9 : v < 900000) (hW : ln_wf M) (hN : ln_nC M τ) (hV : ln_vs σ rv bv) (hv : rv + bv ≤ v) (h1 : τ 1 1 = nI (rv + 1)) (h2 : τ 1 2 = σ 1 2) (hE : ln_eK N σ rv bv) (hA : ln_aK N σ rv bv) (hT : ln_tK N σ rv) (hH : ln_hK N σ rv) (hWk : ln_wK N σ rv bv) (ho : ∀ c, (7 ≤ c ∧ c < 25) ∨ 37 ≤ c → τ c = σ c) : ln_CI M (v + 1) τ := by
  have hl : ∀ r, ln_ver rv bv r < ln_ver (rv + 1) bv r := by intro r; unfold ln_ver; split <;> omega
  refine ⟨hW, hN, rv + 1, bv, ⟨h1, h2.trans hV.2.1, by omega, by omega⟩, by omega, fun r hr => ?_, fun r hr => ?_, ?_, ?_, fun r hr => ?_⟩
  · rw [ho 9 (by omega)]; exact (hE r hr).old (hl r)
  · rw [ho 16 (by omega)]; exact (hA r hr).old (hl r)
  · unfold ln_tK; rw [ho 17 (by omega)]; exact ln_vt.old hT (Nat.lt_succ_self rv)
  · unfold ln_hK; rw [ho 20 (by omega)]; exact ln_vt.old hH (Nat.lt_succ_self rv)
  · rw [ho 24 (by omega)]; exact (hWk r hr).old (hl r)
theorem ln_ver_b {rv bv r : Nat} (hr : r ≠ 0) : ln_ver rv (bv + 1) r = ln_ver rv bv r := by unfold ln_ver; rw [if_neg hr, if_neg hr]
/-- the bars have changed: the tables of the bars are stale -/
theorem ln_CI_br {N M : ln_N} {v : Nat} {σ τ : ln_S} {rv bv : Nat} (hv9 : v < 900000) (hs : ln_sim N M) (hW : ln_wf M) (hN : ln_nC M τ) (hV : ln_vs σ rv bv) (hv : rv + bv ≤ v) (h1 : τ 1 1 = σ 1 1) (h2 : τ 1 2 = nI (bv + 1)) (hE : ln_eK N σ rv bv) (hA : ln_aK N σ rv bv) (hT : ln_tK N σ rv) (hH : ln_hK N σ rv) (hWk : ln_wK N σ rv bv) (ho : ∀ c, (7 ≤ c ∧ c < 25) ∨ 37 ≤ c → τ c = σ c) : ln_CI M (v + 1) τ := by
  have hl : ln_ver rv bv 0 < ln_ver rv (bv + 1) 0 := by unfold ln_ver; rw [if_pos rfl, if_pos rfl]; omega
  refine ⟨hW, hN, rv, bv + 1, ⟨h1.trans hV.1, h2, hV.2.2.1, by omega⟩, by omega, fun r hr => ?_, fun r hr => ?_, ?_, ?_, fun r hr => ?_⟩
  · rw [ho 9 (by omega)]
    by_cases e : r = 0
    · subst e; exact (hE 0 hr).old hl
    · rw [ln_ver_b e]; exact (hE r hr).imp (fun q => ln_c_eT hs (Or.inl e) (by unfold ln_eT; rw [ho _ (by omega)]; exact q))
  · rw [ho 16 (by omega), ho 15 (by omega)]
    by_cases e : r = 0
    · subst e; exact (hA 0 hr).old hl
    · rw [ln_ver_b e]; exact (hA r hr).imp (fun q => ln_c_aT hs (Or.inl e) q)
  · unfold ln_tK; rw [ho 17 (by omega)]; exact ln_vt.imp hT (fun q => ln_c_tT hs (by unfold ln_tT; rw [ho 18 (by omega)]; exact q))
  · unfold ln_hK; rw [ho 20 (by omega)]; exact ln_vt.imp hH (fun q => ln_c_hT hs (by unfold ln_hT; rw [ho 21 (by omega)]; exact q))
  · rw [ho 24 (by omega)]
    by_cases e : r = 0
    · subst e; exact (hWk 0 hr).old hl
    · rw [ln_ver_b e]; exact (hWk r hr).imp (fun q => ln_c_wT hs (Or.inl e) (by unfold ln_wT; rw [ho _ (by omega)]; exact q))
/-- the prices have changed: no table hangs on them -/
theorem ln_CI_pr {N M : ln_N} {v : Nat} {σ τ : ln_S} {rv bv : Nat} (hs : ln_sim N M) (hb : N 1 = M 1) (hW : ln_wf M) (hN : ln_nC M τ) (hV : ln_vs σ rv bv) (hv : rv + bv ≤ v) (h1 : τ 1 = σ 1) (hE : ln_eK N σ rv bv) (hA : ln_aK N σ rv bv) (hT : ln_tK N σ rv) (hH : ln_hK N σ rv) (hWk : ln_wK N σ rv bv) (ho : ∀ c, (7 ≤ c ∧ c < 25) ∨ 37 ≤ c → τ c = σ c) : ln_CI M (v + 1) τ := by
  refine ⟨hW, hN, rv, bv, hV.of h1, by omega, fun r hr => ?_, fun r hr => ?_, ?_, ?_, fun r hr => ?_⟩
  · rw [ho 9 (by omega)]; exact (hE r hr).imp (fun q => ln_c_eT hs (Or.inr hb) (by unfold ln_eT; rw [ho _ (by omega)]; exact q))
  · rw [ho 16 (by omega), ho 15 (by omega)]; exact (hA r hr).imp (fun q => ln_c_aT hs (Or.inr hb) q)
  · unfold ln_tK; rw [ho 17 (by omega)]; exact ln_vt.imp hT (fun q => ln_c_tT hs (by unfold ln_tT; rw [ho 18 (by omega)]; exact q))
  · unfold ln_hK; rw [ho 20 (by omega)]; exact ln_vt.imp hH (fun q => ln_c_hT hs (by unfold ln_hT; rw [ho 21 (by omega)]; exact q))
  · rw [ho 24 (by omega)]; exact (hWk r hr).imp (fun q => ln_c_wT hs (Or.inr hb) (by unfold ln_wT; rw [ho _ (by omega)]; exact q))
