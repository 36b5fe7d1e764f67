theorem ln_nx_sb (N : ln_N) (b w : Nat) : ln_sb b (ln_nx N b w) := ln_sb_or _ _
theorem ln_nx_lt {N : ln_N} (hW : ln_wf N) {b : Nat} (w : Nat) (hb : b < 2 ^ N 0 0) : ln_nx N b w < 2 ^ N 0 0 := Nat.or_lt_two_pow hb (ln_df_lt (ln_bhs_lt hW b _))
theorem ln_nx12 {N : ln_N} (hW : ln_wf N) {b : Nat} (w : Nat) (hb : b < 4096) : ln_nx N b w < 4096 := ln_or12 hb (ln_df_lt (ln_bhs12 hW b _))
theorem ln_dj {b w : Nat} : b &&& w = 0 ↔ ∀ i, b.testBit i = true → w.testBit i = false := by
  constructor
  · intro h i hi
    have := congrArg (fun x => x.testBit i) h
    simp [hi] at this
    exact this
  · intro h
    apply Nat.eq_of_testBit_eq
    intro i
    rw [Nat.testBit_and, Nat.zero_testBit]
    cases hb : b.testBit i with
    | false => rfl
    | true => rw [h i hb]; rfl
theorem ln_nx_eq {N : ln_N} {b w : Nat} (h : b &&& w = 0) : ln_df (ln_wb N b) w = ln_nx N b w := by
  apply Nat.eq_of_testBit_eq
  intro i
  unfold ln_wb ln_nx
  rw [ln_df_bit, Nat.testBit_or, Nat.testBit_or, ln_df_bit]
  cases hb : b.testBit i with
  | false => simp
  | true => rw [ln_dj.mp h i hb]; simp
theorem ln_nx_dj {N : ln_N} {b w : Nat} (h : b &&& w = 0) : ln_nx N b w &&& w = 0 := by
  rw [← ln_nx_eq h, ln_dj]
  intro i hi
  exact ln_df_n hi
theorem ln_dj_put {b w p : Nat} (h : b &&& w = 0) (hp : (b ||| w).testBit p = false) : b &&& (w ||| 2 ^ p) = 0 := by
  rw [ln_dj] at h ⊢
  intro i hi
  rw [Nat.testBit_or, h i hi, Nat.testBit_two_pow]
  by_cases e : p = i
  · subst e; rw [Nat.testBit_or, hi, Bool.true_or] at hp; exact absurd hp (by decide)
  · rw [decide_eq_false e]; rfl
theorem ln_mx_t {g : Nat → Nat} {c : Nat → Bool} {k : Nat} (h : c k = true) : ln_mx g c (k + 1) = max (ln_mx g c k) (g k) := by
  show (if c k = true ∧ ln_mx g c k < g k then g k else ln_mx g c k) = _
  by_cases h2 : ln_mx g c k < g k
  · rw [if_pos ⟨h, h2⟩, Nat.max_eq_right (by omega)]
  · rw [if_neg (fun q => h2 q.2), Nat.max_eq_left (by omega)]
theorem ln_mx_f {g : Nat → Nat} {c : Nat → Bool} {k : Nat} (h : c k = false) : ln_mx g c (k + 1) = ln_mx g c k := if_neg (fun q => by rw [h] at q; exact absurd q.1 (by decide))
theorem ln_mx_cong {g f : Nat → Nat} {c : Nat → Bool} : ∀ {k : Nat}, (∀ p, p < k → c p = true → g p = f p) → ln_mx g c k = ln_mx f c k
  | 0, _ => rfl
  | k + 1, h => by
    cases hc : c k with
    | true => rw [ln_mx_t hc, ln_mx_t hc, ln_mx_cong (fun p hp => h p (by omega)), h k (by omega) hc]
    | false => rw [ln_mx_f hc, ln_mx_f hc, ln_mx_cong (fun p hp => h p (by omega))]
theorem ln_mx_le {g : Nat → Nat} {c : Nat → Bool} {v : Nat} : ∀ {k : Nat}, (∀ p, p < k → c p = true → g p ≤ v) → ln_mx g c k ≤ v
  | 0, _ => Nat.zero_le _
  | k + 1, h => by
    have h1 := ln_mx_le (g := g) (c := c) (v := v) (k := k) (fun p hp => h p (by omega))
    cases hc : c k with
    | true => rw [ln_mx_t hc]; have := h k (by omega) hc; omega
    | false => rw [ln_mx_f hc]; exact h1
theorem ln_mx_ge {g : Nat → Nat} {c : Nat → Bool} : ∀ {k p : Nat}, p < k → c p = true → g p ≤ ln_mx g c k
  | 0, p, h, _ => absurd h (Nat.not_lt_zero p)
  | k + 1, p, h, hc => by
    by_cases e : p = k
    · subst e; rw [ln_mx_t hc]; omega
    · have h1 := ln_mx_ge (g := g) (show p < k by omega) hc
      cases hk : c k with
      | true => rw [ln_mx_t hk]; omega
      | false => rw [ln_mx_f hk]; exact h1
theorem ln_sv_eq {N : ln_N} (hW : ln_wf N) {b : Nat} (hb : b < 4096) : ln_sv N b = ln_svF N (ln_sv N) b := by
  have key : ∀ (f g : Nat → Nat → Nat) (S : Nat), S < 4096 → (∀ T, S < T → T < 4096 → f T = g T) → ln_svF N f S = ln_svF N g S := by
    intro f g S hS h
    funext w
    unfold ln_svF
    split
    · rfl
    · refine ln_mx_cong (fun p hp hc => ?_)
      unfold ln_bw
      split
      · rfl
      · rename_i q
        rw [h _ (ln_sb_lt (ln_nx_sb N S _) (Ne.symm q)) (ln_nx12 hW _ hS)]
  exact ln_dv_eq key hb
theorem ln_sv_a {N : ln_N} (hW : ln_wf N) {b w : Nat} (hb : b < 4096) (h : b ||| w = 2 ^ N 0 0 - 1) : ln_sv N b w = N 0 0 - ln_pc b := by
  rw [ln_sv_eq hW hb]; exact if_pos h
theorem ln_sv_b {N : ln_N} (hW : ln_wf N) {b w : Nat} (hb : b < 4096) (h : b ||| w ≠ 2 ^ N 0 0 - 1) : ln_sv N b w = ln_mx (fun p => ln_bw N (ln_sv N) b (w ||| 2 ^ p)) (fun p => !(b ||| w).testBit p) (N 0 0) := by
  rw [ln_sv_eq hW hb]; exact if_neg h
theorem ln_sv_le {N : ln_N} (hW : ln_wf N) : ∀ (m b w : Nat), 4096 - b ≤ m → b < 4096 → ln_sv N b w ≤ N 0 0
  | 0, b, w, h1, h2 => by omega
  | m + 1, b, w, h1, h2 => by
    by_cases h : b ||| w = 2 ^ N 0 0 - 1
    · rw [ln_sv_a hW h2 h]; omega
    · rw [ln_sv_b hW h2 h]
      refine ln_mx_le (fun p hp hc => ?_)
      show ln_bw N (ln_sv N) b (w ||| 2 ^ p) ≤ N 0 0
      unfold ln_bw
      split
      · omega
      · rename_i q
        exact ln_sv_le hW m _ _ (by have := ln_sb_lt (ln_nx_sb N b (w ||| 2 ^ p)) (Ne.symm q); omega) (ln_nx12 hW _ h2)
theorem ln_sv12 {N : ln_N} (hW : ln_wf N) {b : Nat} (w : Nat) (hb : b < 4096) : ln_sv N b w ≤ 12 := Nat.le_trans (ln_sv_le hW _ b w (Nat.le_refl _) hb) hW.n12
theorem ln_bw12 {N : ln_N} (hW : ln_wf N) {b : Nat} (w : Nat) (hb : b < 4096) : ln_bw N (ln_sv N) b w ≤ 12 := by
  unfold ln_bw
  split
  · have := hW.n12; omega
  · exact ln_sv12 hW _ (ln_nx12 hW _ hb)
theorem ln_bw_a {N : ln_N} {b w : Nat} (h : ln_nx N b w = b) : ln_bw N (ln_sv N) b w = N 0 0 - ln_pc b := if_pos h
theorem ln_bw_b {N : ln_N} {b w : Nat} (h : ln_nx N b w ≠ b) : ln_bw N (ln_sv N) b w = ln_sv N (ln_nx N b w) w := if_neg h
theorem ln_free0 {N : ln_N} {x : Nat} (hx : x < 2 ^ N 0 0) (h : ln_df (2 ^ N 0 0 - 1) x = 0) : x = 2 ^ N 0 0 - 1 := by
  have := ln_df_df (ln_sb_all hx)
  rw [h] at this
  rw [← this]
  apply Nat.eq_of_testBit_eq
  intro i
  rw [ln_df_bit, Nat.zero_testBit]; simp
theorem ln_free1 {N : ln_N} {x : Nat} (h : ln_df (2 ^ N 0 0 - 1) x ≠ 0) : x ≠ 2 ^ N 0 0 - 1 := fun e => h (by
  rw [e]
  apply Nat.eq_of_testBit_eq
  intro i
  rw [ln_df_bit, Nat.zero_testBit]; simp)
theorem ln_free_bit {n x p : Nat} (hp : p < n) : (ln_df (2 ^ n - 1) x).testBit p = !x.testBit p := by rw [ln_df_bit, ln_all_bit, decide_eq_true hp]; rfl
theorem ln_or_lt2 {N : ln_N} {b w : Nat} (hb : b < 2 ^ N 0 0) (hw : w < 2 ^ N 0 0) : b ||| w < 2 ^ N 0 0 := Nat.or_lt_two_pow hb hw
def ln_wpf (N : ln_N) (b w : Nat) : Nat → Bool := fun p => !(b ||| w).testBit p && decide (ln_bw N (ln_sv N) b (w ||| 2 ^ p) = ln_sv N b w)
def ln_wI (N : ln_N) (b w : Nat) (bi si : Int32) (k : Nat) : Prop := (bi = -1 ∧ si = -1 ∧ ∀ p, p < k → (b ||| w).testBit p = true) ∨ ∃ q u, bi = nI q ∧ si = nI u ∧ q < k ∧ (b ||| w).testBit q = false ∧ u = ln_bw N (ln_sv N) b (w ||| 2 ^ q) ∧ (∀ p, p < k → (b ||| w).testBit p = false → ln_bw N (ln_sv N) b (w ||| 2 ^ p) ≤ u) ∧ ∀ p, p < q → (b ||| w).testBit p = false → ln_bw N (ln_sv N) b (w ||| 2 ^ p) < u
theorem ln_wI_skip {N : ln_N} {b w k : Nat} {bi si : Int32} (h : ln_wI N b w bi si k) (hk : (b ||| w).testBit k = true) : ln_wI N b w bi si (k + 1) := by
  rcases h with ⟨h1, h2, h3⟩ | ⟨q, u, h1, h2, h3, h4, h5, h6, h7⟩
  · exact Or.inl ⟨h1, h2, fun p hp => by by_cases e : p = k; (· subst e; exact hk); (· exact h3 p (by omega))⟩
  · exact Or.inr ⟨q, u, h1, h2, by omega, h4, h5, fun p hp hb => by by_cases e : p = k; (· subst e; rw [hk] at hb; exact absurd hb (by decide)); (· exact h6 p (by omega) hb), h7⟩
theorem ln_neg_le {v : Nat} (hv : v < 2 ^ 31) : ¬ nI v ≤ -1 := fun q => by
  have h1 := Int32.le_iff_toInt_le.mp q
  rw [nI_toInt hv] at h1
  have h2 : (-1 : Int32).toInt = -1 := rfl
  omega
theorem ln_wI_keep {N : ln_N} (hW : ln_wf N) {b w k : Nat} (hb : b < 4096) {bi si : Int32} (h : ln_wI N b w bi si k) (hv : nI (ln_bw N (ln_sv N) b (w ||| 2 ^ k)) ≤ si) : ln_wI N b w bi si (k + 1) := by
  have h12 := ln_bw12 hW (w ||| 2 ^ k) hb
  rcases h with ⟨h1, h2, h3⟩ | ⟨q, u, h1, h2, h3, h4, h5, h6, h7⟩
  · rw [h2] at hv; exact absurd hv (ln_neg_le (by omega))
  · have hu := ln_bw12 hW (w ||| 2 ^ q) hb
    rw [h2, nI_leI (by omega) (by omega)] at hv
    exact Or.inr ⟨q, u, h1, h2, by omega, h4, h5, fun p hp hb => by by_cases e : p = k; (· subst e; exact hv); (· exact h6 p (by omega) hb), h7⟩
theorem ln_wI_take {N : ln_N} (hW : ln_wf N) {b w k : Nat} (hb : b < 4096) {bi si : Int32} (h : ln_wI N b w bi si k) (hk : (b ||| w).testBit k = false) (hv : ¬ nI (ln_bw N (ln_sv N) b (w ||| 2 ^ k)) ≤ si) : ln_wI N b w (nI k) (nI (ln_bw N (ln_sv N) b (w ||| 2 ^ k))) (k + 1) := by
  have h12 := ln_bw12 hW (w ||| 2 ^ k) hb
  rcases h with ⟨h1, h2, h3⟩ | ⟨q, u, h1, h2, h3, h4, h5, h6, h7⟩
  · exact Or.inr ⟨k, _, rfl, rfl, by omega, hk, rfl, fun p hp hb2 => by by_cases e : p = k; (· subst e; exact Nat.le_refl _); (· rw [h3 p (by omega)] at hb2; exact absurd hb2 (by decide)), fun p hp hb2 => by rw [h3 p hp] at hb2; exact absurd hb2 (by decide)⟩
  · have hu := ln_bw12 hW (w ||| 2 ^ q) hb
    rw [h2, nI_leI (by omega) (by omega)] at hv
    exact Or.inr ⟨k, _, rfl, rfl, by omega, hk, rfl, fun p hp hb2 => by by_cases e : p = k; (· subst e; exact Nat.le_refl _); (· have := h6 p (by omega) hb2; omega), fun p hp hb2 => by have := h6 p hp hb2; omega⟩
theorem ln_free_ne {n x p : Nat} (hp : p < n) (h : x.testBit p = false) : x ≠ 2 ^ n - 1 := fun e => by
  rw [e, ln_all_bit, decide_eq_true hp] at h
  exact absurd h (by decide)
theorem ln_wI_end {N : ln_N} (hW : ln_wf N) {b w : Nat} (hb : b < 4096) {bi si : Int32} (h : ln_wI N b w bi si (N 0 0)) : bi = ln_fr (ln_wpf N b w) (N 0 0) := by
  rcases h with ⟨h1, h2, h3⟩ | ⟨q, u, h1, h2, h3, h4, h5, h6, h7⟩
  · rw [h1]
    exact ln_fr_none (fun j hj => by unfold ln_wpf; rw [h3 j hj]; rfl)
  · rw [h1]
    have hne := ln_free_ne h3 h4
    have e : ln_sv N b w = u := by
      rw [ln_sv_b hW hb hne]
      apply Nat.le_antisymm
      · exact ln_mx_le (fun p hp hc => h6 p hp (ln_notb.mp hc))
      · rw [h5]; exact ln_mx_ge (g := fun p => ln_bw N (ln_sv N) b (w ||| 2 ^ p)) h3 (ln_notb.mpr h4)
    refine ln_fr_eq ?_ (fun j hj => ?_) h3
    · unfold ln_wpf; rw [h4, e, decide_eq_true h5.symm]; rfl
    · unfold ln_wpf
      rw [e]
      cases hj2 : (b ||| w).testBit j with
      | true => rfl
      | false => rw [decide_eq_false (by have := h7 j hj hj2; omega)]; rfl
def ln_wl (N : ln_N) (x : Int32) : Nat → Nat → Nat → Nat → Int32
  | 0, _, _, _ => -1
  | f + 1, k, b, w => if ln_fs (ln_wpf N b w) (N 0 0) < N 0 0 then (if nI k = x then nI (ln_fs (ln_wpf N b w) (N 0 0)) else if ln_nx N b (w ||| 2 ^ ln_fs (ln_wpf N b w) (N 0 0)) = b then -1 else ln_wl N x f (k + 1) (ln_nx N b (w ||| 2 ^ ln_fs (ln_wpf N b w) (N 0 0))) (w ||| 2 ^ ln_fs (ln_wpf N b w) (N 0 0))) else -1
theorem ln_wl_a {N : ln_N} {x : Int32} {f k b w : Nat} (h : ¬ ln_fs (ln_wpf N b w) (N 0 0) < N 0 0) : ln_wl N x f k b w = -1 := by
  cases f with
  | zero => rfl
  | succ f => exact if_neg h
theorem ln_wl_b {N : ln_N} {x : Int32} {f k b w p : Nat} (hp : p = ln_fs (ln_wpf N b w) (N 0 0)) (h : p < N 0 0) (h2 : nI k = x) : ln_wl N x (f + 1) k b w = nI p := by
  subst hp
  exact (if_pos h).trans (if_pos h2)
theorem ln_wl_c {N : ln_N} {x : Int32} {f k b w p : Nat} (hp : p = ln_fs (ln_wpf N b w) (N 0 0)) (h : p < N 0 0) (h2 : ¬ nI k = x) (h3 : ln_nx N b (w ||| 2 ^ p) = b) : ln_wl N x (f + 1) k b w = -1 := by
  subst hp
  exact (if_pos h).trans ((if_neg h2).trans (if_pos h3))
theorem ln_wl_d {N : ln_N} {x : Int32} {f k b w p : Nat} (hp : p = ln_fs (ln_wpf N b w) (N 0 0)) (h : p < N 0 0) (h2 : ¬ nI k = x) (h3 : ln_nx N b (w ||| 2 ^ p) ≠ b) : ln_wl N x (f + 1) k b w = ln_wl N x f (k + 1) (ln_nx N b (w ||| 2 ^ p)) (w ||| 2 ^ p) := by
  subst hp
  exact (if_pos h).trans ((if_neg h2).trans (if_neg h3))
theorem ln_wpf_free {N : ln_N} {b w p : Nat} (h : ln_wpf N b w p = true) : (b ||| w).testBit p = false := by
  unfold ln_wpf at h
  rw [Bool.and_eq_true] at h
  exact ln_notb.mp h.1
theorem ln_pc_put2 {N : ln_N} (hW : ln_wf N) {b w p : Nat} (hw : w < 2 ^ N 0 0) (hp : p < N 0 0) (h : (b ||| w).testBit p = false) : ln_pc w < ln_pc (w ||| 2 ^ p) := by
  refine ln_pc_put hW hw hp (ln_sb_rf w) ?_
  rw [Nat.testBit_or, Bool.or_eq_false_iff] at h
  exact h.2
theorem ln_nI_ne {q : Nat} (h : q < 2 ^ 31) : ¬ nI q = -1 := fun e => by
  have h1 := congrArg Int32.toInt e
  rw [nI_toInt h] at h1
  have h2 : (-1 : Int32).toInt = -1 := rfl
  omega
set_option maxHeartbeats 4000000 in
set_option maxRecDepth 100000 in
theorem c_X2_afterTick (l : Launch) (D : va_G) (g : Nat → ClassId) (a : Nat → Nat) (σ : ln_S) (d : Nat) (N : ln_N) (hW : ln_wf N) (hN : ln_nC N σ) (b w : Nat) (hb : b < 2 ^ N 0 0) (hw : w < 2 ^ N 0 0) (hdj : b &&& w = 0)  (hd : 2 ≤ d) : ln_R l D g (CW a g σ) yX2_afterTick (.code yX2_afterTick cX2_afterTick 3 (some .int)) d [.ref (a 19), .int (nI b), .int (nI w)] (fun z => z = nI (ln_nx N b w)) := by
  have hN12 := hW.n12
  have hp12 := hW.p12
  have hs1 := ln_sub1 (N 0 0)
  refine ln_ofR (by decide +kernel) (Nat.le_of_ble_eq_true rfl) (fun prg env rum sta mid args below meth cod ls hr hlk X hP hl => ?_)
  have hl : lv_has ls 3 [(0, .ref (a 19)), (1, .int (nI b)), (2, .int (nI w))] := hl
  generalize hQ0 : (MQ below (vp_Si (fun z => z = nI (ln_nx N b w))) args sta 0 0 (fun _ => False)) = Q0
  refine lv_aload_n X.1 X.2.1 dX2_afterTick_0 rfl (lv_at hl 0 rfl) ?_
  refine gC_19_0 X hP mF_X2_9 dX2_afterTick_1 ?_
  refine lv_iload_n X.1 X.2.1 dX2_afterTick_4 rfl (lv_at hl 1 rfl) ?_
  refine ln_vR X (c_X4_withBehind l D g a σ 1 N hW hN b (ln_n12 hW hb) (Nat.le_refl _)) hP 1 rfl rfl mM_X2_51 Y_X4_withBehind rfl (by omega) hl.1 rfl (Nat.le_of_ble_eq_true rfl) dX2_afterTick_5 ⟨Nat.zero_le _, Nat.zero_le _⟩ (fun r5 hr5 => ?_)
  subst hr5
  refine lv_iload_n X.1 X.2.1 dX2_afterTick_8 rfl (lv_at hl 2 rfl) ?_
  refine lv_iconst (v := ((-1))) X.1 X.2.1 dX2_afterTick_9 (by decide) ?_
  refine lv_ixor X.1 X.2.1 dX2_afterTick_10 ?_
  refine rn_nt X dX2_afterTick_11 ?_
  subst hQ0
  exact ln_retR X hr hlk rfl (by rw [ln_nx_eq hdj]) dX2_afterTick_12
set_option maxHeartbeats 4000000 in
set_option maxRecDepth 100000 in
theorem c_X2_savedBehind (l : Launch) (D : va_G) (g : Nat → ClassId) (a : Nat → Nat) (σ : ln_S) (d : Nat) (N : ln_N) (hW : ln_wf N) (hN : ln_nC N σ) (b w : Nat) (hb : b < 2 ^ N 0 0) (hw : w < 2 ^ N 0 0) (hdj : b &&& w = 0) (dep : Nat) (hdep : dep < ln_pc w) (d0 : Nat) (hd0 : d0 + 1 ≤ d) (hd3 : 3 ≤ d0) (hrec : ∀ b2 dep2 : Nat, b2 < 2 ^ N 0 0 → b2 &&& w = 0 → dep2 ≤ ln_pc w → ln_R l D g (CW a g σ) yX2_mostSaved (.code yX2_mostSaved cX2_mostSaved 7 (some .int)) d0 [.ref (a 19), .int (nI b2), .int (nI w), .int (nI dep2)] (fun z => z = nI (ln_sv N b2 w))) (hd : 0 ≤ d) : ln_R l D g (CW a g σ) yX2_savedBehind (.code yX2_savedBehind cX2_savedBehind 5 (some .int)) d [.ref (a 19), .int (nI b), .int (nI w), .int (nI dep)] (fun z => z = nI (ln_bw N (ln_sv N) b w)) := by
  have hN12 := hW.n12
  have hp12 := hW.p12
  have hs1 := ln_sub1 (N 0 0)
  have hpcb := ln_pc_n hW hb
  have hpw := ln_pc_le w
  refine ln_ofR (by decide +kernel) (Nat.le_of_ble_eq_true rfl) (fun prg env rum sta mid args below meth cod ls hr hlk X hP hl => ?_)
  have hl : lv_has ls 5 [(0, .ref (a 19)), (1, .int (nI b)), (2, .int (nI w)), (3, .int (nI dep))] := hl
  generalize hQ0 : (MQ below (vp_Si (fun z => z = nI (ln_bw N (ln_sv N) b w))) args sta 0 0 (fun _ => False)) = Q0
  refine lv_aload_n X.1 X.2.1 dX2_savedBehind_0 rfl (lv_at hl 0 rfl) ?_
  refine lv_iload_n X.1 X.2.1 dX2_savedBehind_1 rfl (lv_at hl 1 rfl) ?_
  refine lv_iload_n X.1 X.2.1 dX2_savedBehind_2 rfl (lv_at hl 2 rfl) ?_
  refine ln_vR X (c_X2_afterTick l D g a σ 2 N hW hN b w hb hw hdj (Nat.le_refl _)) hP 19 rfl rfl mM_X2_48 Y_X2_afterTick rfl (by omega) hl.1 rfl (Nat.le_of_ble_eq_true rfl) dX2_savedBehind_3 ⟨Nat.zero_le _, Nat.zero_le _⟩ (fun r3 hr3 => ?_)
  subst hr3
  refine lv_istore (lv' := [(4, .int (nI (ln_nx N b w))), (0, .ref (a 19)), (1, .int (nI b)), (2, .int (nI w)), (3, .int (nI dep))]) X.1 X.2.1 dX2_savedBehind_6 hl (by decide) rfl (fun ls hl => ?_)
  refine lv_iload X.1 X.2.1 dX2_savedBehind_8 (lv_at hl 0 rfl) ?_
  refine lv_iload_n X.1 X.2.1 dX2_savedBehind_10 rfl (lv_at hl 2 rfl) ?_
  refine rn_ne X (ln_31 (ln_nx12 hW _ (ln_n12 hW hb))) (ln_31 (ln_n12 hW hb)) (tgt := 27) dX2_savedBehind_11 (by decide) (fun h11 => ?_) (fun h11 => ?_)
  · skip
    refine lv_aload_n X.1 X.2.1 dX2_savedBehind_27 rfl (lv_at hl 1 rfl) ?_
    refine lv_iload X.1 X.2.1 dX2_savedBehind_28 (lv_at hl 0 rfl) ?_
    refine lv_iload_n X.1 X.2.1 dX2_savedBehind_30 rfl (lv_at hl 3 rfl) ?_
    refine lv_iload_n X.1 X.2.1 dX2_savedBehind_31 rfl (lv_at hl 4 rfl) ?_
    refine lv_iconst (v := nI 1) X.1 X.2.1 dX2_savedBehind_32 (by decide) ?_
    refine rn_add X dX2_savedBehind_33 ?_
    refine ln_vR X (hrec (ln_nx N b w) (dep + 1) (ln_nx_lt hW w hb) (ln_nx_dj hdj) (by omega)) hP 19 rfl rfl mM_X2_15 Y_X2_mostSaved rfl (by omega) hl.1 rfl (Nat.le_of_ble_eq_true rfl) dX2_savedBehind_34 ⟨Nat.zero_le _, Nat.zero_le _⟩ (fun r34 hr34 => ?_)
    subst hr34
    subst hQ0
    exact ln_retR X hr hlk rfl (by rw [ln_bw_b h11]) dX2_savedBehind_37
  · skip
    refine lv_aload_n X.1 X.2.1 dX2_savedBehind_14 rfl (lv_at hl 1 rfl) ?_
    refine gC_19_0 X hP mF_X2_9 dX2_savedBehind_15 ?_
    refine nC_1_0 X hP (v := nI (N 0 0)) hN.n mF_X2_25 dX2_savedBehind_18 ?_
    refine lv_iload_n X.1 X.2.1 dX2_savedBehind_21 rfl (lv_at hl 2 rfl) ?_
    refine ln_sR X (c_J6_bitCount_0f7a4 l D g 0 b (ln_n12 hW hb) (Nat.le_refl _)) ln_nil mM_X2_29 Y_J6_bitCount_0f7a4 rfl (by omega) hl.1 rfl (Nat.le_of_ble_eq_true rfl) dX2_savedBehind_22 ⟨Nat.zero_le _, Nat.zero_le _⟩ (fun r22 hr22 => ?_)
    subst hr22
    refine rn_sub X (by omega) dX2_savedBehind_25 ?_
    subst hQ0
    exact ln_retR X hr hlk rfl (by rw [ln_bw_a h11]) dX2_savedBehind_26
set_option maxHeartbeats 4000000 in
set_option maxRecDepth 100000 in
theorem c_X2_mostSaved (l : Launch) (D : va_G) (g : Nat → ClassId) (a : Nat → Nat) (σ : ln_S) (d : Nat) (N : ln_N) (hW : ln_wf N) (hN : ln_nC N σ) (b w : Nat) (hb : b < 2 ^ N 0 0) (hw : w < 2 ^ N 0 0) (hdj : b &&& w = 0) (dep : Nat) (hdep : dep ≤ ln_pc w) (d0 : Nat) (hd0 : d0 + 1 ≤ d) (hd3 : 3 ≤ d0) (hrec : ∀ p : Nat, p < N 0 0 → (b ||| w).testBit p = false → ln_R l D g (CW a g σ) yX2_savedBehind (.code yX2_savedBehind cX2_savedBehind 5 (some .int)) d0 [.ref (a 19), .int (nI b), .int (nI (w ||| 2 ^ p)), .int (nI dep)] (fun z => z = nI (ln_bw N (ln_sv N) b (w ||| 2 ^ p)))) (hd : 0 ≤ d) : ln_R l D g (CW a g σ) yX2_mostSaved (.code yX2_mostSaved cX2_mostSaved 7 (some .int)) d [.ref (a 19), .int (nI b), .int (nI w), .int (nI dep)] (fun z => z = nI (ln_sv N b w)) := by
  have hN12 := hW.n12
  have hp12 := hW.p12
  have hs1 := ln_sub1 (N 0 0)
  have hpcb := ln_pc_n hW hb
  have hpw := ln_pc_le w
  have hol := ln_or_lt2 (N := N) hb hw
  refine ln_ofR (by decide +kernel) (Nat.le_of_ble_eq_true rfl) (fun prg env rum sta mid args below meth cod ls hr hlk X hP hl => ?_)
  have hl : lv_has ls 7 [(0, .ref (a 19)), (1, .int (nI b)), (2, .int (nI w)), (3, .int (nI dep))] := hl
  generalize hQ0 : (MQ below (vp_Si (fun z => z = nI (ln_sv N b w))) args sta 0 0 (fun _ => False)) = Q0
  refine lv_aload_n X.1 X.2.1 dX2_mostSaved_0 rfl (lv_at hl 0 rfl) ?_
  refine gC_19_0 X hP mF_X2_9 dX2_mostSaved_1 ?_
  refine ln_vR X (c_X4_allPosts l D g a σ 0 N hW hN (Nat.le_refl _)) hP 1 rfl rfl mM_X2_19 Y_X4_allPosts rfl (by omega) hl.1 rfl (Nat.le_of_ble_eq_true rfl) dX2_mostSaved_4 ⟨Nat.zero_le _, Nat.zero_le _⟩ (fun r4 hr4 => ?_)
  subst hr4
  refine lv_iload_n X.1 X.2.1 dX2_mostSaved_7 rfl (lv_at hl 1 rfl) ?_
  refine lv_iload_n X.1 X.2.1 dX2_mostSaved_8 rfl (lv_at hl 2 rfl) ?_
  refine rn_or X dX2_mostSaved_9 ?_
  refine lv_iconst (v := ((-1))) X.1 X.2.1 dX2_mostSaved_10 (by decide) ?_
  refine lv_ixor X.1 X.2.1 dX2_mostSaved_11 ?_
  refine rn_nt X dX2_mostSaved_12 ?_
  refine lv_istore (lv' := [(4, .int (nI (ln_df (2 ^ N 0 0 - 1) (b ||| w)))), (0, .ref (a 19)), (1, .int (nI b)), (2, .int (nI w)), (3, .int (nI dep))]) X.1 X.2.1 dX2_mostSaved_13 hl (by decide) rfl (fun ls hl => ?_)
  refine lv_iload X.1 X.2.1 dX2_mostSaved_15 (lv_at hl 0 rfl) ?_
  refine rn_eq0 X (ln_31 (ln_df_lt (Nat.lt_of_lt_of_le (Nat.sub_lt (ln_pos2 _) (by decide)) hp12))) (tgt := 26) dX2_mostSaved_17 (by decide) (fun h17 => ?_) (fun h17 => ?_)
  · skip
    have hne := ln_free0 hol h17
    refine lv_aload_n X.1 X.2.1 dX2_mostSaved_26 rfl (lv_at hl 1 rfl) ?_
    refine gC_19_0 X hP mF_X2_9 dX2_mostSaved_27 ?_
    refine nC_1_0 X hP (v := nI (N 0 0)) hN.n mF_X2_25 dX2_mostSaved_30 ?_
    refine lv_iload_n X.1 X.2.1 dX2_mostSaved_33 rfl (lv_at hl 2 rfl) ?_
    refine ln_sR X (c_J6_bitCount_0f7a4 l D g 0 b (ln_n12 hW hb) (Nat.le_refl _)) ln_nil mM_X2_29 Y_J6_bitCount_0f7a4 rfl (by omega) hl.1 rfl (Nat.le_of_ble_eq_true rfl) dX2_mostSaved_34 ⟨Nat.zero_le _, Nat.zero_le _⟩ (fun r34 hr34 => ?_)
    subst hr34
    refine rn_sub X (by omega) dX2_mostSaved_37 ?_
    subst hQ0
    exact ln_retR X hr hlk rfl (by rw [ln_sv_a hW (ln_n12 hW hb) hne]) dX2_mostSaved_38
  · skip
    have hne := ln_free1 h17
    refine lv_iload_n X.1 X.2.1 dX2_mostSaved_20 rfl (lv_at hl 4 rfl) ?_
    refine lv_bipush (v := nI 12) X.1 X.2.1 dX2_mostSaved_21 (by decide) ?_
    refine rn_le X (by omega) (by decide) (tgt := 39) dX2_mostSaved_23 (by decide) (fun h23 => ?_) (fun h23 => absurd h23 (by omega))
    refine lv_iconst (v := nI 0) X.1 X.2.1 dX2_mostSaved_39 (by decide) ?_
    refine lv_istore (lv' := [(5, .int (nI 0)), (4, .int (nI (ln_df (2 ^ N 0 0 - 1) (b ||| w)))), (0, .ref (a 19)), (1, .int (nI b)), (2, .int (nI w)), (3, .int (nI dep))]) X.1 X.2.1 dX2_mostSaved_40 hl (by decide) rfl (fun ls hl => ?_)
    refine lv_iconst (v := nI 0) X.1 X.2.1 dX2_mostSaved_42 (by decide) ?_
    refine lv_istore (lv' := [(6, .int (nI 0)), (5, .int (nI 0)), (4, .int (nI (ln_df (2 ^ N 0 0 - 1) (b ||| w)))), (0, .ref (a 19)), (1, .int (nI b)), (2, .int (nI w)), (3, .int (nI dep))]) X.1 X.2.1 dX2_mostSaved_43 hl (by decide) rfl (fun ls hl => ?_)
    have L45 : ∀ (K : Nat) (p : Nat) (v : Nat), N 0 0 - p < K → (p ≤ N 0 0) → (v ≤ 12) → (v = ln_mx (fun p => ln_bw N (ln_sv N) b (w ||| 2 ^ p)) (fun p => !(b ||| w).testBit p) p) → ∀ ls : Array Slot, lv_has ls 7 [(0, .ref (a 19)), (1, .int (nI b)), (2, .int (nI w)), (3, .int (nI dep)), (4, .int (nI (ln_df (2 ^ N 0 0 - 1) (b ||| w)))), (5, .int (nI v)), (6, .int (nI p))] → W prg l env rum sta mid args below meth cod sta.heap [] 0 0 Q0 (F0 mid 45 ls []) := by
      intro K
      induction K with
      | zero => intro p v hm; exact absurd hm (Nat.not_lt_zero _)
      | succ K ih45 =>
        intro p v hm45 hp hv12 hv ls hl
        refine lv_iload X.1 X.2.1 dX2_mostSaved_45 (lv_at hl 6 rfl) ?_
        refine lv_aload_n X.1 X.2.1 dX2_mostSaved_47 rfl (lv_at hl 0 rfl) ?_
        refine gC_19_0 X hP mF_X2_9 dX2_mostSaved_48 ?_
        refine nC_1_0 X hP (v := nI (N 0 0)) hN.n mF_X2_25 dX2_mostSaved_51 ?_
        refine rn_ge X (by omega) (by omega) (tgt := 92) dX2_mostSaved_54 (by decide) (fun h54 => ?_) (fun h54 => ?_)
        · skip
          refine lv_iload X.1 X.2.1 dX2_mostSaved_92 (lv_at hl 5 rfl) ?_
          subst hQ0
          exact ln_retR X hr hlk rfl (by rw [hv, show p = N 0 0 by omega, ln_sv_b hW (ln_n12 hW hb) hne]) dX2_mostSaved_94
        · skip
          refine lv_iload X.1 X.2.1 dX2_mostSaved_57 (lv_at hl 4 rfl) ?_
          refine lv_iload X.1 X.2.1 dX2_mostSaved_59 (lv_at hl 6 rfl) ?_
          refine ln_nR X (c_X9_hasPost l D g 0 (ln_df (2 ^ N 0 0 - 1) (b ||| w)) p (ln_31 (ln_df_lt (Nat.lt_of_lt_of_le (Nat.sub_lt (ln_pos2 _) (by decide)) hp12))) (by omega) (Nat.le_refl _)) ln_nil mM_X2_35 Y_X9_hasPost rfl (by omega) hl.1 rfl (Nat.le_of_ble_eq_true rfl) dX2_mostSaved_61 ⟨Nat.zero_le _, Nat.zero_le _⟩ (fun r61 hr61 => ?_)
          subst hr61
          refine rn_eqB X (tgt := 86) dX2_mostSaved_64 (by decide) (fun h64 => ?_) (fun h64 => ?_)
          · skip
            refine lv_iinc (v := nI (p + 1)) (lv' := [(6, .int (nI (p + 1))), (0, .ref (a 19)), (1, .int (nI b)), (2, .int (nI w)), (3, .int (nI dep)), (4, .int (nI (ln_df (2 ^ N 0 0 - 1) (b ||| w)))), (5, .int (nI v))]) X.1 X.2.1 dX2_mostSaved_86 hl (k := 6) rfl rn_inc (by decide) rfl (fun ls hl => ?_)
            refine lv_goto (tgt := 45) X.1 X.2.1 dX2_mostSaved_89 (by decide) ?_
            exact ih45 (p + 1) _ (by omega) (by omega) (by first | exact hv12 | (have := ln_bw12 hW (w ||| 2 ^ p) (ln_n12 hW hb); omega)) (by first | (rw [ln_mx_f (c := fun p => !(b ||| w).testBit p) (by rw [ln_free_bit h54] at h64; exact h64)]; exact hv) | (rw [ln_mx_t (c := fun p => !(b ||| w).testBit p) (by rw [ln_free_bit h54] at h64; exact h64), hv])) ls (lv_sub hl [1, 2, 3, 4, 5, 6, 0] rfl)
          · skip
            have hfp : (b ||| w).testBit p = false := by rw [ln_free_bit h54] at h64; exact ln_notb.mp h64
            refine lv_iload X.1 X.2.1 dX2_mostSaved_67 (lv_at hl 5 rfl) ?_
            refine lv_aload_n X.1 X.2.1 dX2_mostSaved_69 rfl (lv_at hl 0 rfl) ?_
            refine lv_iload_n X.1 X.2.1 dX2_mostSaved_70 rfl (lv_at hl 1 rfl) ?_
            refine lv_iload_n X.1 X.2.1 dX2_mostSaved_71 rfl (lv_at hl 2 rfl) ?_
            refine lv_iconst (v := nI 1) X.1 X.2.1 dX2_mostSaved_72 (by decide) ?_
            refine lv_iload X.1 X.2.1 dX2_mostSaved_73 (lv_at hl 6 rfl) ?_
            refine rn_shl X (by omega) dX2_mostSaved_75 ?_
            refine rn_or X dX2_mostSaved_76 ?_
            refine lv_iload_n X.1 X.2.1 dX2_mostSaved_77 rfl (lv_at hl 3 rfl) ?_
            refine ln_vR X (hrec p h54 hfp) hP 19 rfl rfl mM_X2_39 Y_X2_savedBehind rfl (by omega) hl.1 rfl (Nat.le_of_ble_eq_true rfl) dX2_mostSaved_78 ⟨Nat.zero_le _, Nat.zero_le _⟩ (fun r78 hr78 => ?_)
            subst hr78
            refine rn_max X (by omega) (by omega) (by have := ln_bw12 hW (w ||| 2 ^ p) (ln_n12 hW hb); omega) (Nat.le_of_ble_eq_true rfl) hl.1 mM_X2_42 (Nat.zero_le _) (Nat.zero_le _) dX2_mostSaved_81 ?_
            refine lv_istore (lv' := [(5, .int (nI (max v (ln_bw N (ln_sv N) b (w ||| 2 ^ p))))), (0, .ref (a 19)), (1, .int (nI b)), (2, .int (nI w)), (3, .int (nI dep)), (4, .int (nI (ln_df (2 ^ N 0 0 - 1) (b ||| w)))), (6, .int (nI p))]) X.1 X.2.1 dX2_mostSaved_84 hl (by decide) rfl (fun ls hl => ?_)
            refine lv_iinc (v := nI (p + 1)) (lv' := [(6, .int (nI (p + 1))), (5, .int (nI (max v (ln_bw N (ln_sv N) b (w ||| 2 ^ p))))), (0, .ref (a 19)), (1, .int (nI b)), (2, .int (nI w)), (3, .int (nI dep)), (4, .int (nI (ln_df (2 ^ N 0 0 - 1) (b ||| w))))]) X.1 X.2.1 dX2_mostSaved_86 hl (k := 6) rfl rn_inc (by decide) rfl (fun ls hl => ?_)
            refine lv_goto (tgt := 45) X.1 X.2.1 dX2_mostSaved_89 (by decide) ?_
            exact ih45 (p + 1) _ (by omega) (by omega) (by first | exact hv12 | (have := ln_bw12 hW (w ||| 2 ^ p) (ln_n12 hW hb); omega)) (by first | (rw [ln_mx_f (c := fun p => !(b ||| w).testBit p) (by rw [ln_free_bit h54] at h64; exact h64)]; exact hv) | (rw [ln_mx_t (c := fun p => !(b ||| w).testBit p) (by rw [ln_free_bit h54] at h64; exact h64), hv])) ls (lv_sub hl [2, 3, 4, 5, 6, 1, 0] rfl)
    exact L45 _ 0 0 (Nat.lt_succ_self _) (Nat.zero_le _) (Nat.zero_le _) rfl ls (lv_sub hl [3, 4, 5, 6, 2, 1, 0] rfl)
theorem c_X2_ms (l : Launch) (D : va_G) (g : Nat → ClassId) (a : Nat → Nat) (σ : ln_S) (N : ln_N) (hW : ln_wf N) (hN : ln_nC N σ) : ∀ (f b w dep : Nat), b < 2 ^ N 0 0 → w < 2 ^ N 0 0 → b &&& w = 0 → dep ≤ ln_pc w → 12 - ln_pc w ≤ f → ∀ d, 2 * f + 5 ≤ d → ln_R l D g (CW a g σ) yX2_mostSaved (.code yX2_mostSaved cX2_mostSaved 7 (some .int)) d [.ref (a 19), .int (nI b), .int (nI w), .int (nI dep)] (fun z => z = nI (ln_sv N b w)) := by
  intro f
  induction f with
  | zero =>
    intro b w dep hb hw hdj hdep hf d hd
    refine c_X2_mostSaved l D g a σ d N hW hN b w hb hw hdj dep hdep (d - 1) (by omega) (by omega) (fun p hp hfp => ?_) (Nat.zero_le _)
    have h1 := ln_pc_put2 hW hw hp hfp
    have h2 := ln_pc_le (w ||| 2 ^ p)
    omega
  | succ f ih =>
    intro b w dep hb hw hdj hdep hf d hd
    refine c_X2_mostSaved l D g a σ d N hW hN b w hb hw hdj dep hdep (d - 1) (by omega) (by omega) (fun p hp hfp => ?_) (Nat.zero_le _)
    have h1 := ln_pc_put2 hW hw hp hfp
    have hw2 := ln_put_lt hw hp
    exact c_X2_savedBehind l D g a σ (d - 1) N hW hN b (w ||| 2 ^ p) hb hw2 (ln_dj_put hdj hfp) dep (by omega) (d - 2) (by omega) (by omega) (fun b2 dep2 h3 h4 h5 => ih b2 (w ||| 2 ^ p) dep2 h3 hw2 h4 h5 (by omega) (d - 2) (by omega)) (Nat.zero_le _)
theorem c_X2_sb (l : Launch) (D : va_G) (g : Nat → ClassId) (a : Nat → Nat) (σ : ln_S) (N : ln_N) (hW : ln_wf N) (hN : ln_nC N σ) (b w : Nat) (hb : b < 2 ^ N 0 0) (hw : w < 2 ^ N 0 0) (hdj : b &&& w = 0) (dep : Nat) (hdep : dep < ln_pc w) : ln_R l D g (CW a g σ) yX2_savedBehind (.code yX2_savedBehind cX2_savedBehind 5 (some .int)) 30 [.ref (a 19), .int (nI b), .int (nI w), .int (nI dep)] (fun z => z = nI (ln_bw N (ln_sv N) b w)) :=
  c_X2_savedBehind l D g a σ 30 N hW hN b w hb hw hdj dep hdep 29 (by omega) (by omega) (fun b2 dep2 h3 h4 h5 => c_X2_ms l D g a σ N hW hN 12 b2 w dep2 h3 hw h4 h5 (by omega) 29 (by omega)) (Nat.zero_le _)
set_option maxHeartbeats 4000000 in
set_option maxRecDepth 100000 in
theorem c_X2_saved (l : Launch) (D : va_G) (g : Nat → ClassId) (a : Nat → Nat) (σ : ln_S) (d : Nat) (N : ln_N) (hW : ln_wf N) (hN : ln_nC N σ) (b : Nat) (hb : b < 2 ^ N 0 0) (hd : 31 ≤ d) : ln_R l D g (CW a g σ) yX2_saved (.code yX2_saved cX2_saved 2 (some .int)) d [.ref (a 19), .int (nI b)] (fun z => z = nI (ln_sv N b 0)) := by
  refine ln_ofR (by decide +kernel) (Nat.le_of_ble_eq_true rfl) (fun prg env rum sta mid args below meth cod ls hr hlk X hP hl => ?_)
  have hl : lv_has ls 2 [(0, .ref (a 19)), (1, .int (nI b))] := hl
  generalize hQ0 : (MQ below (vp_Si (fun z => z = nI (ln_sv N b 0))) args sta 0 0 (fun _ => False)) = Q0
  refine lv_aload_n X.1 X.2.1 dX2_saved_0 rfl (lv_at hl 0 rfl) ?_
  refine lv_iload_n X.1 X.2.1 dX2_saved_1 rfl (lv_at hl 1 rfl) ?_
  refine lv_iconst (v := nI 0) X.1 X.2.1 dX2_saved_2 (by decide) ?_
  refine lv_iconst (v := nI 0) X.1 X.2.1 dX2_saved_3 (by decide) ?_
  refine ln_vR X (c_X2_ms l D g a σ N hW hN 12 b 0 0 hb (ln_pos2 _) (Nat.and_zero b) (Nat.zero_le _) (by omega) 29 (by omega)) hP 19 rfl rfl mM_X2_15 Y_X2_mostSaved rfl (by omega) hl.1 rfl (Nat.le_of_ble_eq_true rfl) dX2_saved_4 ⟨Nat.zero_le _, Nat.zero_le _⟩ (fun r4 hr4 => ?_)
  subst hr4
  subst hQ0
  exact ln_retR X hr hlk rfl rfl dX2_saved_7
set_option maxHeartbeats 4000000 in
set_option maxRecDepth 100000 in
theorem c_X2_bestPost (l : Launch) (D : va_G) (g : Nat → ClassId) (a : Nat → Nat) (σ : ln_S) (d : Nat) (N : ln_N) (hW : ln_wf N) (hN : ln_nC N σ) (b w : Nat) (hb : b < 2 ^ N 0 0) (hw : w < 2 ^ N 0 0) (hdj : b &&& w = 0)  (hd : 31 ≤ d) : ln_R l D g (CW a g σ) yX2_bestPost (.code yX2_bestPost cX2_bestPost 7 (some .int)) d [.ref (a 19), .int (nI b), .int (nI w)] (fun z => z = ln_fr (ln_wpf N b w) (N 0 0)) := by
  have hN12 := hW.n12
  have hp12 := hW.p12
  have hs1 := ln_sub1 (N 0 0)
  refine ln_ofR (by decide +kernel) (Nat.le_of_ble_eq_true rfl) (fun prg env rum sta mid args below meth cod ls hr hlk X hP hl => ?_)
  have hl : lv_has ls 7 [(0, .ref (a 19)), (1, .int (nI b)), (2, .int (nI w))] := hl
  generalize hQ0 : (MQ below (vp_Si (fun z => z = ln_fr (ln_wpf N b w) (N 0 0))) args sta 0 0 (fun _ => False)) = Q0
  refine lv_iconst (v := ((-1))) X.1 X.2.1 dX2_bestPost_0 (by decide) ?_
  refine lv_istore_n (lv' := [(3, .int ((-1))), (0, .ref (a 19)), (1, .int (nI b)), (2, .int (nI w))]) X.1 X.2.1 dX2_bestPost_1 rfl hl (by decide) rfl (fun ls hl => ?_)
  refine lv_iconst (v := ((-1))) X.1 X.2.1 dX2_bestPost_2 (by decide) ?_
  refine lv_istore (lv' := [(4, .int ((-1))), (3, .int ((-1))), (0, .ref (a 19)), (1, .int (nI b)), (2, .int (nI w))]) X.1 X.2.1 dX2_bestPost_3 hl (by decide) rfl (fun ls hl => ?_)
  refine lv_iconst (v := nI 0) X.1 X.2.1 dX2_bestPost_5 (by decide) ?_
  refine lv_istore (lv' := [(5, .int (nI 0)), (4, .int ((-1))), (3, .int ((-1))), (0, .ref (a 19)), (1, .int (nI b)), (2, .int (nI w))]) X.1 X.2.1 dX2_bestPost_6 hl (by decide) rfl (fun ls hl => ?_)
  have L8 : ∀ (K : Nat) (k : Nat) (bi : Int32) (si : Int32), N 0 0 - k < K → (k ≤ N 0 0) → (ln_wI N b w bi si k) → ∀ ls : Array Slot, lv_has ls 7 [(0, .ref (a 19)), (1, .int (nI b)), (2, .int (nI w)), (3, .int bi), (4, .int si), (5, .int (nI k))] → W prg l env rum sta mid args below meth cod sta.heap [] 0 0 Q0 (F0 mid 8 ls []) := by
    intro K
    induction K with
    | zero => intro k bi si hm; exact absurd hm (Nat.not_lt_zero _)
    | succ K ih8 =>
      intro k bi si hm8 hk hI ls hl
      refine lv_iload X.1 X.2.1 dX2_bestPost_8 (lv_at hl 5 rfl) ?_
      refine lv_aload_n X.1 X.2.1 dX2_bestPost_10 rfl (lv_at hl 0 rfl) ?_
      refine gC_19_0 X hP mF_X2_9 dX2_bestPost_11 ?_
      refine nC_1_0 X hP (v := nI (N 0 0)) hN.n mF_X2_25 dX2_bestPost_14 ?_
      refine rn_ge X (by omega) (by omega) (tgt := 65) dX2_bestPost_17 (by decide) (fun h17 => ?_) (fun h17 => ?_)
      · skip
        refine lv_iload_n X.1 X.2.1 dX2_bestPost_65 rfl (lv_at hl 3 rfl) ?_
        subst hQ0
        exact ln_retR X hr hlk rfl (by rw [show k = N 0 0 by omega] at hI; exact ln_wI_end hW (ln_n12 hW hb) hI) dX2_bestPost_66
      · skip
        refine lv_iload_n X.1 X.2.1 dX2_bestPost_20 rfl (lv_at hl 1 rfl) ?_
        refine lv_iload_n X.1 X.2.1 dX2_bestPost_21 rfl (lv_at hl 2 rfl) ?_
        refine rn_or X dX2_bestPost_22 ?_
        refine lv_iload X.1 X.2.1 dX2_bestPost_23 (lv_at hl 5 rfl) ?_
        refine ln_nR X (c_X9_hasPost l D g 0 (b ||| w) k (ln_31 (ln_or12 (ln_n12 hW hb) (ln_n12 hW hw))) (by omega) (Nat.le_refl _)) ln_nil mM_X2_35 Y_X9_hasPost rfl (by omega) hl.1 rfl (Nat.le_of_ble_eq_true rfl) dX2_bestPost_25 ⟨Nat.zero_le _, Nat.zero_le _⟩ (fun r25 hr25 => ?_)
        subst hr25
        refine rn_neB X (tgt := 59) dX2_bestPost_28 (by decide) (fun h28 => ?_) (fun h28 => ?_)
        · skip
          refine lv_iinc (v := nI (k + 1)) (lv' := [(5, .int (nI (k + 1))), (0, .ref (a 19)), (1, .int (nI b)), (2, .int (nI w)), (3, .int bi), (4, .int si)]) X.1 X.2.1 dX2_bestPost_59 hl (k := 5) rfl rn_inc (by decide) rfl (fun ls hl => ?_)
          refine lv_goto (tgt := 8) X.1 X.2.1 dX2_bestPost_62 (by decide) ?_
          exact ih8 (k + 1) _ _ (by omega) (by omega) (by first | exact ln_wI_skip hI h28 | exact ln_wI_keep hW (ln_n12 hW hb) hI h49 | exact ln_wI_take hW (ln_n12 hW hb) hI h28 h49) ls (lv_sub hl [1, 2, 3, 4, 5, 0] rfl)
        · skip
          refine lv_aload_n X.1 X.2.1 dX2_bestPost_31 rfl (lv_at hl 0 rfl) ?_
          refine lv_iload_n X.1 X.2.1 dX2_bestPost_32 rfl (lv_at hl 1 rfl) ?_
          refine lv_iload_n X.1 X.2.1 dX2_bestPost_33 rfl (lv_at hl 2 rfl) ?_
          refine lv_iconst (v := nI 1) X.1 X.2.1 dX2_bestPost_34 (by decide) ?_
          refine lv_iload X.1 X.2.1 dX2_bestPost_35 (lv_at hl 5 rfl) ?_
          refine rn_shl X (by omega) dX2_bestPost_37 ?_
          refine rn_or X dX2_bestPost_38 ?_
          refine lv_iconst (v := nI 0) X.1 X.2.1 dX2_bestPost_39 (by decide) ?_
          refine ln_vR X (c_X2_sb l D g a σ N hW hN b (w ||| 2 ^ k) hb (ln_put_lt hw h17) (ln_dj_put hdj h28) 0 (Nat.lt_of_le_of_lt (Nat.zero_le _) (ln_pc_put2 hW hw h17 h28))) hP 19 rfl rfl mM_X2_39 Y_X2_savedBehind rfl (by omega) hl.1 rfl (Nat.le_of_ble_eq_true rfl) dX2_bestPost_40 ⟨Nat.zero_le _, Nat.zero_le _⟩ (fun r40 hr40 => ?_)
          subst hr40
          refine lv_istore (lv' := [(6, .int (nI (ln_bw N (ln_sv N) b (w ||| 2 ^ k)))), (0, .ref (a 19)), (1, .int (nI b)), (2, .int (nI w)), (3, .int bi), (4, .int si), (5, .int (nI k))]) X.1 X.2.1 dX2_bestPost_43 hl (by decide) rfl (fun ls hl => ?_)
          refine lv_iload X.1 X.2.1 dX2_bestPost_45 (lv_at hl 0 rfl) ?_
          refine lv_iload X.1 X.2.1 dX2_bestPost_47 (lv_at hl 5 rfl) ?_
          refine lv_icmp_le (tgt := 59) X.1 X.2.1 dX2_bestPost_49 (by decide) (fun h49 => ?_) (fun h49 => ?_)
          · skip
            refine lv_iinc (v := nI (k + 1)) (lv' := [(5, .int (nI (k + 1))), (6, .int (nI (ln_bw N (ln_sv N) b (w ||| 2 ^ k)))), (0, .ref (a 19)), (1, .int (nI b)), (2, .int (nI w)), (3, .int bi), (4, .int si)]) X.1 X.2.1 dX2_bestPost_59 hl (k := 6) rfl rn_inc (by decide) rfl (fun ls hl => ?_)
            refine lv_goto (tgt := 8) X.1 X.2.1 dX2_bestPost_62 (by decide) ?_
            exact ih8 (k + 1) _ _ (by omega) (by omega) (by first | exact ln_wI_skip hI h28 | exact ln_wI_keep hW (ln_n12 hW hb) hI h49 | exact ln_wI_take hW (ln_n12 hW hb) hI h28 h49) ls (lv_sub hl [2, 3, 4, 5, 6, 0] rfl)
          · skip
            refine lv_iload X.1 X.2.1 dX2_bestPost_52 (lv_at hl 6 rfl) ?_
            refine lv_istore_n (lv' := [(3, .int (nI k)), (6, .int (nI (ln_bw N (ln_sv N) b (w ||| 2 ^ k)))), (0, .ref (a 19)), (1, .int (nI b)), (2, .int (nI w)), (4, .int si), (5, .int (nI k))]) X.1 X.2.1 dX2_bestPost_54 rfl hl (by decide) rfl (fun ls hl => ?_)
            refine lv_iload X.1 X.2.1 dX2_bestPost_55 (lv_at hl 1 rfl) ?_
            refine lv_istore (lv' := [(4, .int (nI (ln_bw N (ln_sv N) b (w ||| 2 ^ k)))), (3, .int (nI k)), (6, .int (nI (ln_bw N (ln_sv N) b (w ||| 2 ^ k)))), (0, .ref (a 19)), (1, .int (nI b)), (2, .int (nI w)), (5, .int (nI k))]) X.1 X.2.1 dX2_bestPost_57 hl (by decide) rfl (fun ls hl => ?_)
            refine lv_iinc (v := nI (k + 1)) (lv' := [(5, .int (nI (k + 1))), (4, .int (nI (ln_bw N (ln_sv N) b (w ||| 2 ^ k)))), (3, .int (nI k)), (6, .int (nI (ln_bw N (ln_sv N) b (w ||| 2 ^ k)))), (0, .ref (a 19)), (1, .int (nI b)), (2, .int (nI w))]) X.1 X.2.1 dX2_bestPost_59 hl (k := 6) rfl rn_inc (by decide) rfl (fun ls hl => ?_)
            refine lv_goto (tgt := 8) X.1 X.2.1 dX2_bestPost_62 (by decide) ?_
            exact ih8 (k + 1) _ _ (by omega) (by omega) (by first | exact ln_wI_skip hI h28 | exact ln_wI_keep hW (ln_n12 hW hb) hI h49 | exact ln_wI_take hW (ln_n12 hW hb) hI h28 h49) ls (lv_sub hl [4, 5, 6, 2, 1, 0] rfl)
  exact L8 _ 0 (-1) (-1) (Nat.lt_succ_self _) (Nat.zero_le _) (Or.inl ⟨rfl, rfl, fun p hp => absurd hp (Nat.not_lt_zero p)⟩) ls (lv_sub hl [3, 4, 5, 2, 1, 0] rfl)
set_option maxHeartbeats 4000000 in
set_option maxRecDepth 100000 in
theorem c_X2_bestWall (l : Launch) (D : va_G) (g : Nat → ClassId) (a : Nat → Nat) (σ : ln_S) (d : Nat) (N : ln_N) (hW : ln_wf N) (hN : ln_nC N σ) (fi : Nat) (hfi : fi < 2 ^ N 0 0) (x : Int32) (hd : 32 ≤ d) : ln_R l D g (CW a g σ) yX2_bestWall (.code yX2_bestWall cX2_bestWall 8 (some .int)) d [.ref (a 19), .int (nI fi), .int x] (fun z => z = ln_wl N x 12 0 fi 0) := by
  have hN12 := hW.n12
  have hp12 := hW.p12
  have hs1 := ln_sub1 (N 0 0)
  refine ln_ofR (by decide +kernel) (Nat.le_of_ble_eq_true rfl) (fun prg env rum sta mid args below meth cod ls hr hlk X hP hl => ?_)
  have hl : lv_has ls 8 [(0, .ref (a 19)), (1, .int (nI fi)), (2, .int x)] := hl
  generalize hQ0 : (MQ below (vp_Si (fun z => z = ln_wl N x 12 0 fi 0)) args sta 0 0 (fun _ => False)) = Q0
  refine lv_iload_n X.1 X.2.1 dX2_bestWall_0 rfl (lv_at hl 1 rfl) ?_
  refine lv_istore_n (lv' := [(3, .int (nI fi)), (0, .ref (a 19)), (1, .int (nI fi)), (2, .int x)]) X.1 X.2.1 dX2_bestWall_1 rfl hl (by decide) rfl (fun ls hl => ?_)
  refine lv_iconst (v := nI 0) X.1 X.2.1 dX2_bestWall_2 (by decide) ?_
  refine lv_istore (lv' := [(4, .int (nI 0)), (3, .int (nI fi)), (0, .ref (a 19)), (1, .int (nI fi)), (2, .int x)]) X.1 X.2.1 dX2_bestWall_3 hl (by decide) rfl (fun ls hl => ?_)
  refine lv_iconst (v := nI 0) X.1 X.2.1 dX2_bestWall_5 (by decide) ?_
  refine lv_istore (lv' := [(5, .int (nI 0)), (4, .int (nI 0)), (3, .int (nI fi)), (0, .ref (a 19)), (1, .int (nI fi)), (2, .int x)]) X.1 X.2.1 dX2_bestWall_6 hl (by decide) rfl (fun ls hl => ?_)
  have L8 : ∀ (K : Nat) (k : Nat) (b : Nat) (w : Nat), 12 - k < K → (k ≤ 12) → (b < 2 ^ N 0 0) → (w < 2 ^ N 0 0) → (b &&& w = 0) → (ln_wl N x (12 - k) k b w = ln_wl N x 12 0 fi 0) → ∀ ls : Array Slot, lv_has ls 8 [(0, .ref (a 19)), (2, .int x), (3, .int (nI b)), (4, .int (nI w)), (5, .int (nI k))] → W prg l env rum sta mid args below meth cod sta.heap [] 0 0 Q0 (F0 mid 8 ls []) := by
    intro K
    induction K with
    | zero => intro k b w hm; exact absurd hm (Nat.not_lt_zero _)
    | succ K ih8 =>
      intro k b w hm8 hk hb hw hdj hh ls hl
      refine lv_iload X.1 X.2.1 dX2_bestWall_8 (lv_at hl 4 rfl) ?_
      refine lv_bipush (v := nI 12) X.1 X.2.1 dX2_bestWall_10 (by decide) ?_
      refine rn_ge X (by omega) (by decide) (tgt := 74) dX2_bestWall_12 (by decide) (fun h12 => ?_) (fun h12 => ?_)
      · skip
        refine lv_iconst (v := ((-1))) X.1 X.2.1 dX2_bestWall_74 (by decide) ?_
        subst hQ0
        exact ln_retR X hr hlk rfl (by rw [← hh, show 12 - k = 0 by omega]; rfl) dX2_bestWall_75
      · skip
        refine lv_aload_n X.1 X.2.1 dX2_bestWall_15 rfl (lv_at hl 0 rfl) ?_
        refine lv_iload_n X.1 X.2.1 dX2_bestWall_16 rfl (lv_at hl 2 rfl) ?_
        refine lv_iload X.1 X.2.1 dX2_bestWall_17 (lv_at hl 3 rfl) ?_
        refine ln_vR X (c_X2_bestPost l D g a σ 31 N hW hN b w hb hw hdj (Nat.le_refl _)) hP 19 rfl rfl mM_X2_54 Y_X2_bestPost rfl (by omega) hl.1 rfl (Nat.le_of_ble_eq_true rfl) dX2_bestWall_19 ⟨Nat.zero_le _, Nat.zero_le _⟩ (fun r19 hr19 => ?_)
        subst hr19
        rcases ln_fr_cases (ln_wpf N b w) (N 0 0) with ⟨ez, c1⟩ | ⟨ez, c1⟩
        · refine rn_top (y := nI (ln_fs (ln_wpf N b w) (N 0 0))) ez ?_
          have hfree := ln_wpf_free (ln_fs_yes c1)
          have hdj2 := ln_dj_put hdj hfree
          refine lv_istore (lv' := [(6, .int (nI (ln_fs (ln_wpf N b w) (N 0 0)))), (0, .ref (a 19)), (2, .int x), (3, .int (nI b)), (4, .int (nI w)), (5, .int (nI k))]) X.1 X.2.1 dX2_bestWall_22 hl (by decide) rfl (fun ls hl => ?_)
          refine lv_iload X.1 X.2.1 dX2_bestWall_24 (lv_at hl 0 rfl) ?_
          refine lv_iconst (v := ((-1))) X.1 X.2.1 dX2_bestWall_26 (by decide) ?_
          refine lv_icmp_eq (tgt := 36) X.1 X.2.1 dX2_bestWall_27 (by decide) (fun h27 => absurd h27 (ln_nI_ne (by omega))) (fun h27 => ?_)
          refine lv_iload X.1 X.2.1 dX2_bestWall_30 (lv_at hl 5 rfl) ?_
          refine lv_iload_n X.1 X.2.1 dX2_bestWall_32 rfl (lv_at hl 2 rfl) ?_
          refine lv_icmp_ne (tgt := 39) X.1 X.2.1 dX2_bestWall_33 (by decide) (fun h33 => ?_) (fun h33 => ?_)
          · skip
            refine lv_iload X.1 X.2.1 dX2_bestWall_39 (lv_at hl 4 rfl) ?_
            refine lv_iconst (v := nI 1) X.1 X.2.1 dX2_bestWall_41 (by decide) ?_
            refine lv_iload X.1 X.2.1 dX2_bestWall_42 (lv_at hl 0 rfl) ?_
            refine rn_shl X (by omega) dX2_bestWall_44 ?_
            refine rn_or X dX2_bestWall_45 ?_
            refine lv_istore (lv' := [(4, .int (nI (w ||| (2 ^ (ln_fs (ln_wpf N b w) (N 0 0)))))), (6, .int (nI (ln_fs (ln_wpf N b w) (N 0 0)))), (0, .ref (a 19)), (2, .int x), (3, .int (nI b)), (5, .int (nI k))]) X.1 X.2.1 dX2_bestWall_46 hl (by decide) rfl (fun ls hl => ?_)
            refine lv_aload_n X.1 X.2.1 dX2_bestWall_48 rfl (lv_at hl 2 rfl) ?_
            refine lv_iload_n X.1 X.2.1 dX2_bestWall_49 rfl (lv_at hl 4 rfl) ?_
            refine lv_iload X.1 X.2.1 dX2_bestWall_50 (lv_at hl 0 rfl) ?_
            refine ln_vR X (c_X2_afterTick l D g a σ 2 N hW hN b (w ||| 2 ^ ln_fs (ln_wpf N b w) (N 0 0)) hb (ln_put_lt hw c1) hdj2 (Nat.le_refl _)) hP 19 rfl rfl mM_X2_48 Y_X2_afterTick rfl (by omega) hl.1 rfl (Nat.le_of_ble_eq_true rfl) dX2_bestWall_52 ⟨Nat.zero_le _, Nat.zero_le _⟩ (fun r52 hr52 => ?_)
            subst hr52
            refine lv_istore (lv' := [(7, .int (nI (ln_nx N b (w ||| 2 ^ ln_fs (ln_wpf N b w) (N 0 0))))), (4, .int (nI (w ||| (2 ^ (ln_fs (ln_wpf N b w) (N 0 0)))))), (6, .int (nI (ln_fs (ln_wpf N b w) (N 0 0)))), (0, .ref (a 19)), (2, .int x), (3, .int (nI b)), (5, .int (nI k))]) X.1 X.2.1 dX2_bestWall_55 hl (by decide) rfl (fun ls hl => ?_)
            refine lv_iload X.1 X.2.1 dX2_bestWall_57 (lv_at hl 0 rfl) ?_
            refine lv_iload_n X.1 X.2.1 dX2_bestWall_59 rfl (lv_at hl 5 rfl) ?_
            refine rn_ne X (ln_31 (ln_nx12 hW _ (ln_n12 hW hb))) (ln_31 (ln_n12 hW hb)) (tgt := 65) dX2_bestWall_60 (by decide) (fun h60 => ?_) (fun h60 => ?_)
            · skip
              refine lv_iload X.1 X.2.1 dX2_bestWall_65 (lv_at hl 0 rfl) ?_
              refine lv_istore_n (lv' := [(3, .int (nI (ln_nx N b (w ||| 2 ^ ln_fs (ln_wpf N b w) (N 0 0))))), (7, .int (nI (ln_nx N b (w ||| 2 ^ ln_fs (ln_wpf N b w) (N 0 0))))), (4, .int (nI (w ||| (2 ^ (ln_fs (ln_wpf N b w) (N 0 0)))))), (6, .int (nI (ln_fs (ln_wpf N b w) (N 0 0)))), (0, .ref (a 19)), (2, .int x), (5, .int (nI k))]) X.1 X.2.1 dX2_bestWall_67 rfl hl (by decide) rfl (fun ls hl => ?_)
              refine lv_iinc (v := nI (k + 1)) (lv' := [(5, .int (nI (k + 1))), (3, .int (nI (ln_nx N b (w ||| 2 ^ ln_fs (ln_wpf N b w) (N 0 0))))), (7, .int (nI (ln_nx N b (w ||| 2 ^ ln_fs (ln_wpf N b w) (N 0 0))))), (4, .int (nI (w ||| (2 ^ (ln_fs (ln_wpf N b w) (N 0 0)))))), (6, .int (nI (ln_fs (ln_wpf N b w) (N 0 0)))), (0, .ref (a 19)), (2, .int x)]) X.1 X.2.1 dX2_bestWall_68 hl (k := 6) rfl rn_inc (by decide) rfl (fun ls hl => ?_)
              refine lv_goto (tgt := 8) X.1 X.2.1 dX2_bestWall_71 (by decide) ?_
              exact ih8 (k + 1) _ _ (by omega) (by omega) (ln_nx_lt hW _ hb) (ln_put_lt hw c1) (ln_nx_dj hdj2) (by rw [← hh, show 12 - k = (12 - (k + 1)) + 1 by omega, ln_wl_d rfl c1 h33 h60]) ls (lv_sub hl [5, 6, 1, 3, 0] rfl)
            · skip
              refine lv_iconst (v := ((-1))) X.1 X.2.1 dX2_bestWall_63 (by decide) ?_
              subst hQ0
              exact ln_retR X hr hlk rfl (by rw [← hh, show 12 - k = (12 - (k + 1)) + 1 by omega, ln_wl_c rfl c1 h33 h60]) dX2_bestWall_64
          · skip
            refine lv_iload X.1 X.2.1 dX2_bestWall_36 (lv_at hl 0 rfl) ?_
            subst hQ0
            exact ln_retR X hr hlk rfl (by first | (rw [← hh, show 12 - k = (12 - (k + 1)) + 1 by omega, ln_wl_b rfl c1 h33]) | (rw [← hh, ln_wl_a c1])) dX2_bestWall_38
        · refine rn_top (y := ((-1))) ez ?_
          refine lv_istore (lv' := [(6, .int ((-1))), (0, .ref (a 19)), (2, .int x), (3, .int (nI b)), (4, .int (nI w)), (5, .int (nI k))]) X.1 X.2.1 dX2_bestWall_22 hl (by decide) rfl (fun ls hl => ?_)
          refine lv_iload X.1 X.2.1 dX2_bestWall_24 (lv_at hl 0 rfl) ?_
          refine lv_iconst (v := ((-1))) X.1 X.2.1 dX2_bestWall_26 (by decide) ?_
          refine lv_icmp_eq (tgt := 36) X.1 X.2.1 dX2_bestWall_27 (by decide) (fun h27 => ?_) (fun h27 => absurd rfl h27)
          refine lv_iload X.1 X.2.1 dX2_bestWall_36 (lv_at hl 0 rfl) ?_
          subst hQ0
          exact ln_retR X hr hlk rfl (by first | (rw [← hh, show 12 - k = (12 - (k + 1)) + 1 by omega, ln_wl_b rfl c1 h33]) | (rw [← hh, ln_wl_a c1])) dX2_bestWall_38
  exact L8 _ 0 fi 0 (Nat.lt_succ_self _) (Nat.zero_le _) hfi (ln_pos2 _) (Nat.and_zero fi) rfl ls (lv_sub hl [3, 5, 2, 1, 0] rfl)
