section LNM
variable {p : Program} {l : Launch} {e : Env} {R : Room} {s : State} {m : MethodId} {args : Array Value} {below : List Frame} {meth : Method} {c : Code} {H : Heap} {locs : List Loc} {cells slots : Nat} {Q : State → Prop}
variable {cc : ByteArray} {nL : Nat} {own : String} {D : va_G} {g : Nat → ClassId} {d : Nat} {pc : Nat} {ls : Array Slot} {rest : List Value}
theorem rn_max (X : ln_X p R s m c cc nL own D g d) (hd : 1 ≤ d) {a b index : Nat} (ha : a < 2 ^ 31) (hb : b < 2 ^ 31) (hrest : (rest.map fun v => v.category).sum ≤ 8) (hls : ls.size = nL) (hlink : Cond.methodLink own index Lib.Math.max.name ∈ lw_tbl) (hc : cells ≤ R.cells) (hs : slots ≤ R.slots) (hdg : decode cc pc = .ok (.invokestatic index, 3)) (kk : W p l e R s m args below meth c H locs cells slots Q (F0 m (pc + 3) ls (.int (nI (max a b)) :: rest))) : W p l e R s m args below meth c H locs cells slots Q (F0 m pc ls (.int (nI b) :: .int (nI a) :: rest)) := by
  have h1 := X.2.2.2.2.2.2.1
  have h2 := X.2.2.2.2.2.2.2
  refine va_mmax X.1 X.2.1 (X.2.2.1.trans hls.symm) X.2.2.2.1 (X.ts args hlink rfl) (X.ts args mS_J9_max_7cf53 rfl) (X.ts args mI_J9 rfl) (X.ts args mC_J9_max_7cf53 rfl) (by omega) (by omega) hc hs hdg ?_
  have e : (if nI a < nI b then nI b else nI a) = nI (max a b) := by
    by_cases h : a < b
    · rw [if_pos ((nI_ltI ha hb).mpr h), Nat.max_eq_right (by omega)]
    · rw [if_neg (fun q => h ((nI_ltI ha hb).mp q)), Nat.max_eq_left (by omega)]
  rw [e]; exact kk
theorem rn_min (X : ln_X p R s m c cc nL own D g d) (hd : 1 ≤ d) {a b index : Nat} (ha : a < 2 ^ 31) (hb : b < 2 ^ 31) (hrest : (rest.map fun v => v.category).sum ≤ 8) (hls : ls.size = nL) (hlink : Cond.methodLink own index Lib.Math.min.name ∈ lw_tbl) (hc : cells ≤ R.cells) (hs : slots ≤ R.slots) (hdg : decode cc pc = .ok (.invokestatic index, 3)) (kk : W p l e R s m args below meth c H locs cells slots Q (F0 m (pc + 3) ls (.int (nI (min a b)) :: rest))) : W p l e R s m args below meth c H locs cells slots Q (F0 m pc ls (.int (nI b) :: .int (nI a) :: rest)) := by
  have h1 := X.2.2.2.2.2.2.1
  have h2 := X.2.2.2.2.2.2.2
  refine va_mmin X.1 X.2.1 (X.2.2.1.trans hls.symm) X.2.2.2.1 (X.ts args hlink rfl) (X.ts args mS_J9_min_7cf53 rfl) (X.ts args mI_J9 rfl) (X.ts args mC_J9_min_7cf53 rfl) (by omega) (by omega) hc hs hdg ?_
  have e : (if nI b < nI a then nI b else nI a) = nI (min a b) := by
    by_cases h : b < a
    · rw [if_pos ((nI_ltI hb ha).mpr h), Nat.min_eq_right (by omega)]
    · rw [if_neg (fun q => h ((nI_ltI hb ha).mp q)), Nat.min_eq_left (by omega)]
  rw [e]; exact kk
end LNM
theorem ln_ft_t {N : ln_N} (hW : ln_wf N) {r S : Nat} (hr : r < 2) (hS : S < 2 ^ N 0 0) (h0 : S ≠ 0) (h : ln_fw N r S = S) : ln_ft N r S = true := (ln_fw_eq hW (by omega) hS h0).mp h
theorem ln_ft_f {N : ln_N} (hW : ln_wf N) {r S : Nat} (hr : r < 2) (hS : S < 2 ^ N 0 0) (h0 : S ≠ 0) (h : ln_fw N r S ≠ S) : ln_ft N r S = false := by
  cases hf : ln_ft N r S with
  | false => rfl
  | true => exact absurd ((ln_fw_eq hW (by omega) hS h0).mpr hf) h
theorem ln_ft_0 (N : ln_N) (r : Nat) : ln_ft N r 0 = false := decide_eq_false (fun h => h.1 rfl)
theorem ln_lf_0 (N : ln_N) (r : Nat) : ln_lf N r 0 = false := decide_eq_false (fun h => by rw [ln_ft_0] at h; exact absurd h.1 (by decide))
theorem ln_lf_t {N : ln_N} (hW : ln_wf N) {r S : Nat} (hr : r < 2) (hS : S < 2 ^ N 0 0) (h0 : S ≠ 0) (h : ln_fw N r S = S) (h2 : ∀ p, p < N 0 0 → S.testBit p = true → ln_fw N r (ln_df S (2 ^ p)) = 0) : ln_lf N r S = true := (ln_lf_iff hW (by omega) hS h0).mpr ⟨h, h2⟩
theorem ln_lf_f {N : ln_N} (hW : ln_wf N) {r S : Nat} (hr : r < 2) (hS : S < 2 ^ N 0 0) (h0 : S ≠ 0) (h : ¬ (ln_fw N r S = S ∧ ∀ p, p < N 0 0 → S.testBit p = true → ln_fw N r (ln_df S (2 ^ p)) = 0)) : ln_lf N r S = false := by
  cases hf : ln_lf N r S with
  | false => rfl
  | true => exact absurd ((ln_lf_iff hW (by omega) hS h0).mp hf) h
def ln_cz (N : ln_N) (r z : Nat) : Nat → Bool := fun s => ln_lf N r s && decide (ln_pc s = z)
def ln_cS (N : ln_N) (r : Nat) (z : Nat) : Nat := ln_sum (fun y => ln_ct (ln_cz N r y) (2 ^ N 0 0)) z
/-- the k-th least fort -/
def ln_isK (N : ln_N) (r k : Nat) (w : Int32) : Prop := (∃ z s, s < 2 ^ N 0 0 ∧ z ≤ N 0 0 ∧ ln_cz N r z s = true ∧ ln_cS N r z + ln_ct (ln_cz N r z) s = k ∧ w = nI s) ∨ (w = -1 ∧ ln_cS N r (N 0 0 + 1) ≤ k)
theorem ln_cS_s (N : ln_N) (r z : Nat) : ln_cS N r (z + 1) = ln_cS N r z + ln_ct (ln_cz N r z) (2 ^ N 0 0) := rfl
theorem ln_sum_inc (f : Nat → Nat) {a b : Nat} (h : a ≤ b) : ln_sum f a ≤ ln_sum f b := by
  induction b with
  | zero => rw [show a = 0 by omega]; exact Nat.le_refl _
  | succ b ih =>
    by_cases e : a = b + 1
    · rw [e]; exact Nat.le_refl _
    · have := ih (by omega)
      show ln_sum f a ≤ ln_sum f b + f b
      omega
theorem ln_ct_inc (f : Nat → Bool) {a b : Nat} (h : a ≤ b) : ln_ct f a ≤ ln_ct f b := by
  induction b with
  | zero => rw [show a = 0 by omega]; exact Nat.le_refl _
  | succ b ih =>
    by_cases e : a = b + 1
    · rw [e]; exact Nat.le_refl _
    · have := ih (by omega)
      show ln_ct f a ≤ ln_ct f b + (if f b then 1 else 0)
      omega
theorem ln_hit_lt {N : ln_N} {r z s z2 : Nat} (hs : s < 2 ^ N 0 0) (h : ln_cz N r z s = true) (hz : z < z2) : ln_cS N r z + ln_ct (ln_cz N r z) s < ln_cS N r z2 := by
  have h1 : ln_ct (ln_cz N r z) (s + 1) ≤ ln_ct (ln_cz N r z) (2 ^ N 0 0) := ln_ct_inc _ (by omega)
  rw [ln_ct_t h] at h1
  have h2 : ln_cS N r (z + 1) ≤ ln_cS N r z2 := ln_sum_inc _ (by omega)
  rw [ln_cS_s] at h2
  omega
theorem ln_isK_one {N : ln_N} {r k : Nat} {w w2 : Int32} (h : ln_isK N r k w) (h2 : ln_isK N r k w2) : w = w2 := by
  rcases h with ⟨z, s, a1, a2, a3, a4, a5⟩ | ⟨a1, a2⟩ <;> rcases h2 with ⟨y, t, b1, b2, b3, b4, b5⟩ | ⟨b1, b2⟩
  · have e : z = y := by
      rcases Nat.lt_trichotomy z y with q | q | q
      · have := ln_hit_lt a1 a3 q; omega
      · exact q
      · have := ln_hit_lt b1 b3 q; omega
    subst e
    have e2 : s = t := by
      rcases Nat.lt_trichotomy s t with q | q | q
      · have h3 : ln_ct (ln_cz N r z) (s + 1) ≤ ln_ct (ln_cz N r z) t := ln_ct_inc _ (by omega)
        rw [ln_ct_t a3] at h3; omega
      · exact q
      · have h3 : ln_ct (ln_cz N r z) (t + 1) ≤ ln_ct (ln_cz N r z) s := ln_ct_inc _ (by omega)
        rw [ln_ct_t b3] at h3; omega
    rw [a5, b5, e2]
  · have := ln_hit_lt a1 a3 (show z < N 0 0 + 1 by omega); omega
  · have := ln_hit_lt b1 b3 (show y < N 0 0 + 1 by omega); omega
  · rw [a1, b1]
theorem ln_cz_t {N : ln_N} {r z s : Nat} (h : ln_lf N r s = true) (h2 : ln_pc s = z) : ln_cz N r z s = true := by unfold ln_cz; rw [h, decide_eq_true h2]; rfl
theorem ln_cz_f {N : ln_N} {r z s : Nat} (h : ln_lf N r s = false) : ln_cz N r z s = false := by unfold ln_cz; rw [h]; rfl
theorem ln_cz_g {N : ln_N} {r z s : Nat} (h2 : ln_pc s ≠ z) : ln_cz N r z s = false := by unfold ln_cz; rw [decide_eq_false h2, Bool.and_false]
theorem ln_cS_1 {N : ln_N} (hW : ln_wf N) (r : Nat) : ln_cS N r 1 = 0 := by
  show 0 + ln_ct (ln_cz N r 0) (2 ^ N 0 0) = 0
  have key : ∀ k, k ≤ 2 ^ N 0 0 → ln_ct (ln_cz N r 0) k = 0 := by
    intro k
    induction k with
    | zero => intro _; rfl
    | succ k ih =>
      intro hk
      rw [ln_ct_f, ih (by omega)]
      by_cases h : ln_pc k = 0
      · have := ln_pc0 (ln_n12 hW (show k < 2 ^ N 0 0 by omega)) h
        subst this
        exact ln_cz_f (ln_lf_0 N r)
      · exact ln_cz_g h
  rw [key _ (Nat.le_refl _)]
theorem ln_ct_1 {N : ln_N} {r z : Nat} : ln_ct (ln_cz N r z) 1 = 0 := by
  show 0 + (if ln_cz N r z 0 then 1 else 0) = 0
  rw [ln_cz_f (ln_lf_0 N r)]; rfl
theorem ln_fs_ex {f : Nat → Bool} {k i : Nat} (hi : i < k) (h : f i = true) : ln_fs f k < k := by
  refine Classical.byContradiction (fun q => ?_)
  have e : ln_fs f k = k := by have := ln_fs_le f k; omega
  have := ln_fs_no (f := f) (k := k) (j := i) (by omega)
  rw [h] at this
  exact absurd this (by decide)
theorem ln_pw_yes {f : Nat → Bool} {k i : Nat} (hi : i < k) (h : f i = true) : ∃ l, ln_pw f k = 2 ^ l ∧ l < k ∧ f l = true := by
  have h1 := ln_fs_ex hi h
  exact ⟨ln_fs f k, if_pos h1, h1, ln_fs_yes h1⟩
theorem ln_lw_bit {S : Nat} (hS : S < 4096) (h0 : S ≠ 0) : ∃ l, ln_lw S = 2 ^ l ∧ l < 12 ∧ S.testBit l = true := by
  obtain ⟨i, h1, -⟩ := ln_sb_exists (P := 0) (S := S) (fun i q => by rw [Nat.zero_testBit] at q; exact absurd q (by decide)) (fun q => h0 q.symm)
  exact ln_pw_yes (ln_bit_n (n := 12) hS h1) h1
theorem ln_dfp_lt {S l : Nat} (h : S.testBit l = true) : ln_df S (2 ^ l) < S := ln_sb_lt (ln_sb_df _ _) (ln_dfp_ne h (ln_sb_rf _))
theorem ln_df_ne {S L : Nat} (h : ln_sb L S) (h0 : L ≠ 0) : ln_df S L < S := by
  refine ln_sb_lt (ln_sb_df _ _) (fun q => h0 ?_)
  apply Nat.eq_of_testBit_eq
  intro i
  rw [Nat.zero_testBit]
  cases hl : L.testBit i with
  | false => rfl
  | true =>
    have c := h i hl
    rw [← q] at c
    rw [ln_df_n c] at hl
    exact absurd hl (by decide)
def ln_mst (N : ln_N) (r : Nat) (f : Nat → Int32) (k : Nat) : Prop := ∀ T, T < k → ∃ v, v ≤ 12 ∧ f T = nI v ∧ ln_isA N r T v
theorem ln_mst_s {N : ln_N} {r k v : Nat} {f : Nat → Int32} (h : ln_mst N r f k) (hv : v ≤ 12) (ha : ln_isA N r k v) : ln_mst N r (upd f k (nI v)) (k + 1) := fun T hT => by
  by_cases e : T = k
  · subst e; exact ⟨v, hv, ln_upd_s, ha⟩
  · rw [ln_upd_n e]; exact h T (by omega)
theorem ln_isA_le12 {N : ln_N} {r S v : Nat} (hS : S < 4096) (h : ln_isA N r S v) : v ≤ 12 := Nat.le_trans (ln_isA_12 hS h.1) (ln_pc_le S)
theorem ln_mbl_step {N : ln_N} (hW : ln_wf N) {r S l o b b2 vo : Nat} (hr : r < 2) (hS : S < 2 ^ N 0 0) (ho : ln_sb o (ln_df S (2 ^ l))) (ho0 : o ≠ 0) (hvo : ln_isA N r o vo) (hbb : b ≤ b2) (hnew : ln_ft N r (ln_df S o) = true → vo + 1 ≤ b2)
    (hall : ∀ F v, ln_ft N r F = true → F.testBit l = true → ln_sb F S → o < ln_df S F → ln_isA N r (ln_df S F) v → 1 + v ≤ b) :
    ∀ F v, ln_ft N r F = true → F.testBit l = true → ln_sb F S → (o - 1) &&& ln_df S (2 ^ l) < ln_df S F → ln_isA N r (ln_df S F) v → 1 + v ≤ b2 := by
  intro F v f1 f2 f3 f4 f5
  by_cases h1 : o < ln_df S F
  · have := hall F v f1 f2 f3 h1 f5; omega
  · have hsub : ln_sb (ln_df S F) (ln_df S (2 ^ l)) := fun i hi => by
      rw [ln_df_p, ln_sb_df _ _ i hi]
      by_cases e : l = i
      · subst e; rw [ln_df_n hi] at f2; exact absurd f2 (by decide)
      · rw [decide_eq_false e]; rfl
    by_cases h2 : ln_df S F < o
    · have := ln_part_dn _ o (ln_df S F) (ln_sb_and.mpr ho) (by omega) (ln_sb_and.mpr hsub) h2
      omega
    · have e : ln_df S F = o := by omega
      have e2 : F = ln_df S o := by rw [← e, ln_df_df f3]
      rw [e] at f5
      rw [ln_isA_one f5 hvo]
      have := hnew (by rw [← e2]; exact f1)
      omega
theorem ln_map_step {N : ln_N} {r S l q n n2 vq : Nat} (hq : ln_sb q S) (hq0 : q ≠ 0) (hvq : ln_isA N r (ln_df S q) vq) (hnn : n ≤ n2) (hnew : ln_lf N r q = true → q.testBit l = true → 1 + vq ≤ n2)
    (hall : ∀ L v, ln_lf N r L = true → L.testBit l = true → ln_sb L S → q < L → ln_isA N r (ln_df S L) v → 1 + v ≤ n) :
    ∀ L v, ln_lf N r L = true → L.testBit l = true → ln_sb L S → (q - 1) &&& S < L → ln_isA N r (ln_df S L) v → 1 + v ≤ n2 := by
  intro L v f1 f2 f3 f4 f5
  by_cases h1 : q < L
  · have := hall L v f1 f2 f3 h1 f5; omega
  · by_cases h2 : L < q
    · have := ln_part_dn _ q L (ln_sb_and.mpr hq) (by omega) (ln_sb_and.mpr f3) h2
      omega
    · have e : L = q := by omega
      subst e
      rw [ln_isA_one f5 hvq]
      exact hnew f1 f2
theorem ln_and_p0 {q l : Nat} (h : q &&& 2 ^ l = 0) : q.testBit l = false := by
  have := congrArg (fun x => x.testBit l) h
  simpa using this
theorem ln_and_p1 {q l : Nat} (h : q &&& 2 ^ l ≠ 0) : q.testBit l = true := by
  cases hq : q.testBit l with
  | true => rfl
  | false =>
    refine absurd ?_ h
    apply Nat.eq_of_testBit_eq
    intro i
    rw [Nat.testBit_and, Nat.testBit_two_pow, Nat.zero_testBit]
    by_cases e : l = i
    · subst e; rw [hq]; rfl
    · rw [decide_eq_false e, Bool.and_false]
set_option maxHeartbeats 4000000 in
set_option maxRecDepth 100000 in
theorem c_X7_fortsWithin (l : Launch) (D : va_G) (g : Nat → ClassId) (a : Nat → Nat) (σ : ln_S) (d : Nat) (N : ln_N) (hW : ln_wf N) (hN : ln_nC N σ) (r : Nat) (hr3 : r < 3) (hE : ln_eT N σ r) (S : Nat) (hS : S < 4096) (hd : 1 ≤ d) : ln_R l D g (CW a g σ) yX7_fortsWithin (.code yX7_fortsWithin cX7_fortsWithin 4 (some .int)) d [.ref (a 13), .ref (a (37 + r)), .int (nI S)] (fun z => z = nI (ln_fw N r S)) := by
  have hN12 := hW.n12
  have hp12 := hW.p12
  have hs1 := ln_sub1 (N 0 0)
  refine ln_ofR (by decide +kernel) (Nat.le_of_ble_eq_true rfl) (fun prg env rum sta mid args below meth cod ls hr hlk X hP hl => ?_)
  have hl : lv_has ls 4 [(0, .ref (a 13)), (1, .ref (a (37 + r))), (2, .int (nI S))] := hl
  generalize hQ0 : (MQ below (vp_Si (fun z => z = nI (ln_fw N r S))) args sta 0 0 (fun _ => False)) = Q0
  refine lv_aload_n X.1 X.2.1 dX7_fortsWithin_0 rfl (lv_at hl 0 rfl) ?_
  refine gC_13_0 X hP mF_X7_21 dX7_fortsWithin_1 ?_
  refine ln_vR X (c_X4_allPosts l D g a σ 0 N hW hN (Nat.le_refl _)) hP 1 rfl rfl mM_X7_39 Y_X4_allPosts rfl (by omega) hl.1 rfl (Nat.le_of_ble_eq_true rfl) dX7_fortsWithin_4 ⟨Nat.zero_le _, Nat.zero_le _⟩ (fun r4 hr4 => ?_)
  subst hr4
  refine lv_istore_n (lv' := [(3, .int (nI (2 ^ N 0 0 - 1))), (0, .ref (a 13)), (1, .ref (a (37 + r))), (2, .int (nI S))]) X.1 X.2.1 dX7_fortsWithin_7 rfl hl (by decide) rfl (fun ls hl => ?_)
  refine lv_iload_n X.1 X.2.1 dX7_fortsWithin_8 rfl (lv_at hl 0 rfl) ?_
  refine lv_aload_n X.1 X.2.1 dX7_fortsWithin_9 rfl (lv_at hl 2 rfl) ?_
  refine lv_iload_n X.1 X.2.1 dX7_fortsWithin_10 rfl (lv_at hl 0 rfl) ?_
  refine lv_iload_n X.1 X.2.1 dX7_fortsWithin_11 rfl (lv_at hl 3 rfl) ?_
  refine lv_iconst (v := ((-1))) X.1 X.2.1 dX7_fortsWithin_12 (by decide) ?_
  refine lv_ixor X.1 X.2.1 dX7_fortsWithin_13 ?_
  refine rn_nt X dX7_fortsWithin_14 ?_
  refine lC_r37 X hP hr3 (ln_df_lt (Nat.lt_of_lt_of_le (ln_all_lt _) hp12)) (v := nI (ln_end N r (ln_df (2 ^ N 0 0 - 1) S))) (hE _ (ln_dfa_lt _ _)) dX7_fortsWithin_15 ?_
  refine lv_iconst (v := ((-1))) X.1 X.2.1 dX7_fortsWithin_16 (by decide) ?_
  refine lv_ixor X.1 X.2.1 dX7_fortsWithin_17 ?_
  refine rn_nt X dX7_fortsWithin_18 ?_
  subst hQ0
  exact ln_retR X hr hlk rfl rfl dX7_fortsWithin_19
set_option maxHeartbeats 4000000 in
set_option maxRecDepth 100000 in
theorem c_X7_isFort (l : Launch) (D : va_G) (g : Nat → ClassId) (a : Nat → Nat) (σ : ln_S) (d : Nat) (N : ln_N) (hW : ln_wf N) (hN : ln_nC N σ) (rv bv : Nat) (hV : ln_vs σ rv bv) (hEK : ln_eK N σ rv bv) (r : Nat) (hr2 : r < 2) (S : Nat) (hS : S < 2 ^ N 0 0) (hd : 5 ≤ d) : ln_U l D g (CW a g) yX7_isFort (.code yX7_isFort cX7_isFort 3 (some .boolean)) d [.ref (a 13), .int (nI r), .int (nI S)] σ (fun z τ => z = ln_b (ln_ft N r S) ∧ ln_eK N τ rv bv ∧ ∀ c, c ≠ 9 → c ≠ 37 → c ≠ 38 → c ≠ 39 → τ c = σ c) := by
  have hN12 := hW.n12
  have hp12 := hW.p12
  have hs1 := ln_sub1 (N 0 0)
  refine ln_ofU (by decide +kernel) (Nat.le_of_ble_eq_true rfl) (fun prg env rum sta mid args below meth cod ls A hr hlk X hA hP hDw hSw hl => ?_)
  have hl : lv_has ls 3 [(0, .ref (a 13)), (1, .int (nI r)), (2, .int (nI S))] := hl
  generalize hQ0 : (MQ below (va_Qi (fun z τ => z = ln_b (ln_ft N r S) ∧ ln_eK N τ rv bv ∧ ∀ c, c ≠ 9 → c ≠ 37 → c ≠ 38 → c ≠ 39 → τ c = σ c) (fun τ t => va_P D ln_cl (CW a g τ) t.heap) A) args sta 0 0 A) = Q0
  obtain ⟨H, hH⟩ : ∃ H, H = sta.heap := ⟨_, rfl⟩
  obtain ⟨locs, hlo⟩ : ∃ x : List Loc, x = [] := ⟨_, rfl⟩
  rw [← hH] at hP
  have hSw : va_S A sta.heap H locs := by rw [hH, hlo]; exact hSw
  have goal : W prg l env rum sta mid args below meth cod H locs 0 0 Q0 (F0 mid 0 ls []) := ?_
  · rw [hH, hlo] at goal; exact goal
  clear hlo
  refine lv_iload_n X.1 X.2.1 dX7_isFort_0 rfl (lv_at hl 2 rfl) ?_
  refine rn_eq0 X (ln_31 (ln_n12 hW hS)) (tgt := 25) dX7_isFort_1 (by decide) (fun h1 => ?_) (fun h1 => ?_)
  · skip
    refine lv_iconst (v := nI 0) X.1 X.2.1 dX7_isFort_25 (by decide) ?_
    subst hQ0
    exact ln_retU X hr hlk hP hSw rfl (by first | (subst h1; exact ⟨by rw [ln_ft_0]; rfl, hEK, fun c _ _ _ _ => rfl⟩) | exact ⟨by rw [ln_ft_f hW hr2 hS h1 h18]; rfl, hEK, hfe⟩ | exact ⟨by rw [ln_ft_t hW hr2 hS h1 h18]; rfl, hEK, hfe⟩) dX7_isFort_26
  · skip
    refine lv_aload_n X.1 X.2.1 dX7_isFort_4 rfl (lv_at hl 0 rfl) ?_
    refine lv_aload_n X.1 X.2.1 dX7_isFort_5 rfl (lv_at hl 0 rfl) ?_
    refine gC_13_1 X hP mF_X7_25 dX7_isFort_6 ?_
    refine lv_iload_n X.1 X.2.1 dX7_isFort_9 rfl (lv_at hl 1 rfl) ?_
    refine ln_vF X (CW_ad a g) hA (c_X6_endsOf l D g a σ 4 N hW hN rv bv hV hEK r (by omega) (Nat.le_refl _)) hP hDw hSw 7 rfl rfl mM_X7_29 Y_X6_endsOf rfl (by omega) hl.1 rfl (Nat.le_of_ble_eq_true rfl) dX7_isFort_10 ⟨Nat.zero_le _, Nat.zero_le _⟩ (fun τ10 H locs hr10 hP hDw hSw => ?_)
    obtain ⟨hE, hEK, hfe⟩ := hr10
    have hN : ln_nC N τ10 := hN.of (fun c hc => hfe c (by omega) (by omega) (by omega) (by omega))
    have hV : ln_vs τ10 rv bv := hV.of (hfe 1 (by omega) (by omega) (by omega) (by omega))
    refine lv_iload_n X.1 X.2.1 dX7_isFort_13 rfl (lv_at hl 2 rfl) ?_
    refine ln_vR X (c_X7_fortsWithin l D g a τ10 1 N hW hN r (by omega) hE S (ln_n12 hW hS) (Nat.le_refl _)) hP 13 rfl rfl mM_X7_35 Y_X7_fortsWithin rfl (by omega) hl.1 rfl (Nat.le_of_ble_eq_true rfl) dX7_isFort_14 ⟨Nat.zero_le _, Nat.zero_le _⟩ (fun r14 hr14 => ?_)
    subst hr14
    refine lv_iload_n X.1 X.2.1 dX7_isFort_17 rfl (lv_at hl 2 rfl) ?_
    refine rn_ne X (ln_31 (Nat.lt_of_lt_of_le ln_fw_lt hp12)) (ln_31 (ln_n12 hW hS)) (tgt := 25) dX7_isFort_18 (by decide) (fun h18 => ?_) (fun h18 => ?_)
    · skip
      refine lv_iconst (v := nI 0) X.1 X.2.1 dX7_isFort_25 (by decide) ?_
      subst hQ0
      exact ln_retU X hr hlk hP hSw rfl (by first | (subst h1; exact ⟨by rw [ln_ft_0]; rfl, hEK, fun c _ _ _ _ => rfl⟩) | exact ⟨by rw [ln_ft_f hW hr2 hS h1 h18]; rfl, hEK, hfe⟩ | exact ⟨by rw [ln_ft_t hW hr2 hS h1 h18]; rfl, hEK, hfe⟩) dX7_isFort_26
    · skip
      refine lv_iconst (v := nI 1) X.1 X.2.1 dX7_isFort_21 (by decide) ?_
      refine lv_goto (tgt := 26) X.1 X.2.1 dX7_isFort_22 (by decide) ?_
      subst hQ0
      exact ln_retU X hr hlk hP hSw rfl (by first | (subst h1; exact ⟨by rw [ln_ft_0]; rfl, hEK, fun c _ _ _ _ => rfl⟩) | exact ⟨by rw [ln_ft_f hW hr2 hS h1 h18]; rfl, hEK, hfe⟩ | exact ⟨by rw [ln_ft_t hW hr2 hS h1 h18]; rfl, hEK, hfe⟩) dX7_isFort_26
set_option maxHeartbeats 4000000 in
set_option maxRecDepth 100000 in
theorem c_X7_isLeast (l : Launch) (D : va_G) (g : Nat → ClassId) (a : Nat → Nat) (σ : ln_S) (d : Nat) (N : ln_N) (hW : ln_wf N) (hN : ln_nC N σ) (r : Nat) (hr2 : r < 2) (hE : ln_eT N σ r) (S : Nat) (hS : S < 2 ^ N 0 0) (h0 : S ≠ 0) (hd : 2 ≤ d) : ln_R l D g (CW a g σ) yX7_isLeast (.code yX7_isLeast cX7_isLeast 4 (some .boolean)) d [.ref (a 13), .ref (a (37 + r)), .int (nI S)] (fun z => z = ln_b (ln_lf N r S)) := by
  have hN12 := hW.n12
  have hp12 := hW.p12
  have hs1 := ln_sub1 (N 0 0)
  refine ln_ofR (by decide +kernel) (Nat.le_of_ble_eq_true rfl) (fun prg env rum sta mid args below meth cod ls hr hlk X hP hl => ?_)
  have hl : lv_has ls 4 [(0, .ref (a 13)), (1, .ref (a (37 + r))), (2, .int (nI S))] := hl
  generalize hQ0 : (MQ below (vp_Si (fun z => z = ln_b (ln_lf N r S))) args sta 0 0 (fun _ => False)) = Q0
  refine lv_aload_n X.1 X.2.1 dX7_isLeast_0 rfl (lv_at hl 0 rfl) ?_
  refine lv_aload_n X.1 X.2.1 dX7_isLeast_1 rfl (lv_at hl 1 rfl) ?_
  refine lv_iload_n X.1 X.2.1 dX7_isLeast_2 rfl (lv_at hl 2 rfl) ?_
  refine ln_vR X (c_X7_fortsWithin l D g a σ 1 N hW hN r (by omega) hE S (ln_n12 hW hS) (Nat.le_refl _)) hP 13 rfl rfl mM_X7_35 Y_X7_fortsWithin rfl (by omega) hl.1 rfl (Nat.le_of_ble_eq_true rfl) dX7_isLeast_3 ⟨Nat.zero_le _, Nat.zero_le _⟩ (fun r3 hr3 => ?_)
  subst hr3
  refine lv_iload_n X.1 X.2.1 dX7_isLeast_6 rfl (lv_at hl 2 rfl) ?_
  refine rn_eq X (ln_31 (Nat.lt_of_lt_of_le ln_fw_lt hp12)) (ln_31 (ln_n12 hW hS)) (tgt := 12) dX7_isLeast_7 (by decide) (fun h7 => ?_) (fun h7 => ?_)
  · skip
    refine lv_iconst (v := nI 0) X.1 X.2.1 dX7_isLeast_12 (by decide) ?_
    refine lv_istore_n (lv' := [(3, .int (nI 0)), (0, .ref (a 13)), (1, .ref (a (37 + r))), (2, .int (nI S))]) X.1 X.2.1 dX7_isLeast_13 rfl hl (by decide) rfl (fun ls hl => ?_)
    have L14 : ∀ (K : Nat) (p : Nat), N 0 0 - p < K → (p ≤ N 0 0) → (∀ q, q < p → S.testBit q = true → ln_fw N r (ln_df S (2 ^ q)) = 0) → ∀ ls : Array Slot, lv_has ls 4 [(0, .ref (a 13)), (1, .ref (a (37 + r))), (2, .int (nI S)), (3, .int (nI p))] → W prg l env rum sta mid args below meth cod sta.heap [] 0 0 Q0 (F0 mid 14 ls []) := by
      intro K
      induction K with
      | zero => intro p hm; exact absurd hm (Nat.not_lt_zero _)
      | succ K ih14 =>
        intro p hm14 hp hj ls hl
        refine lv_iload_n X.1 X.2.1 dX7_isLeast_14 rfl (lv_at hl 3 rfl) ?_
        refine lv_aload_n X.1 X.2.1 dX7_isLeast_15 rfl (lv_at hl 0 rfl) ?_
        refine gC_13_0 X hP mF_X7_21 dX7_isLeast_16 ?_
        refine nC_1_0 X hP (v := nI (N 0 0)) hN.n mF_X7_45 dX7_isLeast_19 ?_
        refine rn_ge X (by omega) (by omega) (tgt := 56) dX7_isLeast_22 (by decide) (fun h22 => ?_) (fun h22 => ?_)
        · skip
          refine lv_iconst (v := nI 1) X.1 X.2.1 dX7_isLeast_56 (by decide) ?_
          subst hQ0
          exact ln_retR X hr hlk rfl (by rw [ln_lf_t hW hr2 hS h0 h7 (fun q h1 h2 => hj q (by omega) h2)]; rfl) dX7_isLeast_57
        · skip
          refine lv_iload_n X.1 X.2.1 dX7_isLeast_25 rfl (lv_at hl 2 rfl) ?_
          refine lv_iload_n X.1 X.2.1 dX7_isLeast_26 rfl (lv_at hl 3 rfl) ?_
          refine ln_nR X (c_X9_hasPost l D g 0 S p (ln_31 (ln_n12 hW hS)) (by omega) (Nat.le_refl _)) ln_nil mM_X7_59 Y_X9_hasPost rfl (by omega) hl.1 rfl (Nat.le_of_ble_eq_true rfl) dX7_isLeast_27 ⟨Nat.zero_le _, Nat.zero_le _⟩ (fun r27 hr27 => ?_)
          subst hr27
          refine rn_eqB X (tgt := 50) dX7_isLeast_30 (by decide) (fun h30 => ?_) (fun h30 => ?_)
          · skip
            refine lv_iinc (v := nI (p + 1)) (lv' := [(3, .int (nI (p + 1))), (0, .ref (a 13)), (1, .ref (a (37 + r))), (2, .int (nI S))]) X.1 X.2.1 dX7_isLeast_50 hl (k := 3) rfl rn_inc (by decide) rfl (fun ls hl => ?_)
            refine lv_goto (tgt := 14) X.1 X.2.1 dX7_isLeast_53 (by decide) ?_
            exact ih14 (p + 1) (by omega) (by omega) (fun q h1 h2 => by by_cases e : q = p; (· subst e; first | (rw [h30] at h2; exact absurd h2 (by decide)) | exact h45); (· exact hj q (by omega) h2)) ls (lv_sub hl [1, 2, 3, 0] rfl)
          · skip
            refine lv_aload_n X.1 X.2.1 dX7_isLeast_33 rfl (lv_at hl 0 rfl) ?_
            refine lv_aload_n X.1 X.2.1 dX7_isLeast_34 rfl (lv_at hl 1 rfl) ?_
            refine lv_iload_n X.1 X.2.1 dX7_isLeast_35 rfl (lv_at hl 2 rfl) ?_
            refine lv_iconst (v := nI 1) X.1 X.2.1 dX7_isLeast_36 (by decide) ?_
            refine lv_iload_n X.1 X.2.1 dX7_isLeast_37 rfl (lv_at hl 3 rfl) ?_
            refine rn_shl X (by omega) dX7_isLeast_38 ?_
            refine lv_iconst (v := ((-1))) X.1 X.2.1 dX7_isLeast_39 (by decide) ?_
            refine lv_ixor X.1 X.2.1 dX7_isLeast_40 ?_
            refine rn_nt X dX7_isLeast_41 ?_
            refine ln_vR X (c_X7_fortsWithin l D g a σ 1 N hW hN r (by omega) hE (ln_df S (2 ^ p)) (ln_df_lt (ln_n12 hW hS)) (Nat.le_refl _)) hP 13 rfl rfl mM_X7_35 Y_X7_fortsWithin rfl (by omega) hl.1 rfl (Nat.le_of_ble_eq_true rfl) dX7_isLeast_42 ⟨Nat.zero_le _, Nat.zero_le _⟩ (fun r42 hr42 => ?_)
            subst hr42
            refine rn_eq0 X (ln_31 (Nat.lt_of_lt_of_le ln_fw_lt hp12)) (tgt := 50) dX7_isLeast_45 (by decide) (fun h45 => ?_) (fun h45 => ?_)
            · skip
              refine lv_iinc (v := nI (p + 1)) (lv' := [(3, .int (nI (p + 1))), (0, .ref (a 13)), (1, .ref (a (37 + r))), (2, .int (nI S))]) X.1 X.2.1 dX7_isLeast_50 hl (k := 3) rfl rn_inc (by decide) rfl (fun ls hl => ?_)
              refine lv_goto (tgt := 14) X.1 X.2.1 dX7_isLeast_53 (by decide) ?_
              exact ih14 (p + 1) (by omega) (by omega) (fun q h1 h2 => by by_cases e : q = p; (· subst e; first | (rw [h30] at h2; exact absurd h2 (by decide)) | exact h45); (· exact hj q (by omega) h2)) ls (lv_sub hl [1, 2, 3, 0] rfl)
            · skip
              refine lv_iconst (v := nI 0) X.1 X.2.1 dX7_isLeast_48 (by decide) ?_
              subst hQ0
              exact ln_retR X hr hlk rfl (by rw [ln_lf_f hW hr2 hS h0 (fun q => h45 (q.2 p (by omega) h30))]; rfl) dX7_isLeast_49
    exact L14 _ 0 (Nat.lt_succ_self _) (Nat.zero_le _) (fun q h => absurd h (Nat.not_lt_zero q)) ls (lv_sub hl [1, 2, 3, 0] rfl)
  · skip
    refine lv_iconst (v := nI 0) X.1 X.2.1 dX7_isLeast_10 (by decide) ?_
    subst hQ0
    exact ln_retR X hr hlk rfl (by rw [ln_lf_f hW hr2 hS h0 (fun q => h7 q.1)]; rfl) dX7_isLeast_11
set_option maxHeartbeats 4000000 in
set_option maxRecDepth 100000 in
theorem c_X7_leastFort (l : Launch) (D : va_G) (g : Nat → ClassId) (a : Nat → Nat) (σ : ln_S) (d : Nat) (N : ln_N) (hW : ln_wf N) (hN : ln_nC N σ) (rv bv : Nat) (hV : ln_vs σ rv bv) (hEK : ln_eK N σ rv bv) (r : Nat) (hr2 : r < 2) (kk : Nat) (hkk : kk < 2 ^ 31) (hd : 5 ≤ d) : ln_U l D g (CW a g) yX7_leastFort (.code yX7_leastFort cX7_leastFort 8 (some .int)) d [.ref (a 13), .int (nI r), .int (nI kk)] σ (fun z τ => ln_isK N r kk z ∧ ln_eK N τ rv bv ∧ ∀ c, c ≠ 9 → c ≠ 37 → c ≠ 38 → c ≠ 39 → τ c = σ c) := by
  have hN12 := hW.n12
  have hp12 := hW.p12
  have hs1 := ln_sub1 (N 0 0)
  have hcS1 := ln_cS_1 hW r
  refine ln_ofU (by decide +kernel) (Nat.le_of_ble_eq_true rfl) (fun prg env rum sta mid args below meth cod ls A hr hlk X hA hP hDw hSw hl => ?_)
  have hl : lv_has ls 8 [(0, .ref (a 13)), (1, .int (nI r)), (2, .int (nI kk))] := hl
  generalize hQ0 : (MQ below (va_Qi (fun z τ => ln_isK N r kk z ∧ ln_eK N τ rv bv ∧ ∀ c, c ≠ 9 → c ≠ 37 → c ≠ 38 → c ≠ 39 → τ c = σ c) (fun τ t => va_P D ln_cl (CW a g τ) t.heap) A) args sta 0 0 A) = Q0
  obtain ⟨H, hH⟩ : ∃ H, H = sta.heap := ⟨_, rfl⟩
  obtain ⟨locs, hlo⟩ : ∃ x : List Loc, x = [] := ⟨_, rfl⟩
  rw [← hH] at hP
  have hSw : va_S A sta.heap H locs := by rw [hH, hlo]; exact hSw
  have goal : W prg l env rum sta mid args below meth cod H locs 0 0 Q0 (F0 mid 0 ls []) := ?_
  · rw [hH, hlo] at goal; exact goal
  clear hlo
  refine lv_aload_n X.1 X.2.1 dX7_leastFort_0 rfl (lv_at hl 0 rfl) ?_
  refine gC_13_1 X hP mF_X7_25 dX7_leastFort_1 ?_
  refine lv_iload_n X.1 X.2.1 dX7_leastFort_4 rfl (lv_at hl 1 rfl) ?_
  refine ln_vF X (CW_ad a g) hA (c_X6_endsOf l D g a σ 4 N hW hN rv bv hV hEK r (by omega) (Nat.le_refl _)) hP hDw hSw 7 rfl rfl mM_X7_29 Y_X6_endsOf rfl (by omega) hl.1 rfl (Nat.le_of_ble_eq_true rfl) dX7_leastFort_5 ⟨Nat.zero_le _, Nat.zero_le _⟩ (fun τ5 H locs hr5 hP hDw hSw => ?_)
  obtain ⟨hE, hEK, hfe⟩ := hr5
  have hN : ln_nC N τ5 := hN.of (fun c hc => hfe c (by omega) (by omega) (by omega) (by omega))
  have hV : ln_vs τ5 rv bv := hV.of (hfe 1 (by omega) (by omega) (by omega) (by omega))
  refine lv_astore_n (lv' := [(3, .ref (a (37 + r))), (0, .ref (a 13)), (1, .int (nI r)), (2, .int (nI kk))]) X.1 X.2.1 dX7_leastFort_8 rfl hl (by decide) rfl (fun ls hl => ?_)
  refine lv_aload_n X.1 X.2.1 dX7_leastFort_9 rfl (lv_at hl 1 rfl) ?_
  refine gC_13_0 X hP mF_X7_21 dX7_leastFort_10 ?_
  refine ln_vR X (c_X4_allPosts l D g a τ5 0 N hW hN (Nat.le_refl _)) hP 1 rfl rfl mM_X7_39 Y_X4_allPosts rfl (by omega) hl.1 rfl (Nat.le_of_ble_eq_true rfl) dX7_leastFort_13 ⟨Nat.zero_le _, Nat.zero_le _⟩ (fun r13 hr13 => ?_)
  subst hr13
  refine lv_istore (lv' := [(4, .int (nI (2 ^ N 0 0 - 1))), (3, .ref (a (37 + r))), (0, .ref (a 13)), (1, .int (nI r)), (2, .int (nI kk))]) X.1 X.2.1 dX7_leastFort_16 hl (by decide) rfl (fun ls hl => ?_)
  refine lv_iconst (v := nI 0) X.1 X.2.1 dX7_leastFort_18 (by decide) ?_
  refine lv_istore (lv' := [(5, .int (nI 0)), (4, .int (nI (2 ^ N 0 0 - 1))), (3, .ref (a (37 + r))), (0, .ref (a 13)), (1, .int (nI r)), (2, .int (nI kk))]) X.1 X.2.1 dX7_leastFort_19 hl (by decide) rfl (fun ls hl => ?_)
  refine lv_iconst (v := nI 1) X.1 X.2.1 dX7_leastFort_21 (by decide) ?_
  refine lv_istore (lv' := [(6, .int (nI 1)), (5, .int (nI 0)), (4, .int (nI (2 ^ N 0 0 - 1))), (3, .ref (a (37 + r))), (0, .ref (a 13)), (1, .int (nI r)), (2, .int (nI kk))]) X.1 X.2.1 dX7_leastFort_22 hl (by decide) rfl (fun ls hl => ?_)
  have L24 : ∀ (K : Nat) (z : Nat) (m : Nat), N 0 0 + 1 - z < K → (1 ≤ z ∧ z ≤ N 0 0 + 1) → (m = ln_cS N r z) → (m ≤ kk) → ∀ ls : Array Slot, lv_has ls 8 [(0, .ref (a 13)), (1, .int (nI r)), (2, .int (nI kk)), (3, .ref (a (37 + r))), (4, .int (nI (2 ^ N 0 0 - 1))), (5, .int (nI m)), (6, .int (nI z))] → W prg l env rum sta mid args below meth cod H locs 0 0 Q0 (F0 mid 24 ls []) := by
    intro K
    induction K with
    | zero => intro z m hm; exact absurd hm (Nat.not_lt_zero _)
    | succ K ih24 =>
      intro z m hm24 hz hm hmk ls hl
      refine lv_iload X.1 X.2.1 dX7_leastFort_24 (lv_at hl 6 rfl) ?_
      refine lv_aload_n X.1 X.2.1 dX7_leastFort_26 rfl (lv_at hl 0 rfl) ?_
      refine gC_13_0 X hP mF_X7_21 dX7_leastFort_27 ?_
      refine nC_1_0 X hP (v := nI (N 0 0)) hN.n mF_X7_45 dX7_leastFort_30 ?_
      refine rn_gt X (by omega) (by omega) (tgt := 90) dX7_leastFort_33 (by decide) (fun h33 => ?_) (fun h33 => ?_)
      · skip
        refine lv_iconst (v := ((-1))) X.1 X.2.1 dX7_leastFort_90 (by decide) ?_
        subst hQ0
        exact ln_retU X hr hlk hP hSw rfl ⟨Or.inr ⟨rfl, by rw [show N 0 0 + 1 = z by omega]; omega⟩, hEK, hfe⟩ dX7_leastFort_91
      · skip
        refine lv_iconst (v := nI 1) X.1 X.2.1 dX7_leastFort_36 (by decide) ?_
        refine lv_istore (lv' := [(7, .int (nI 1)), (0, .ref (a 13)), (1, .int (nI r)), (2, .int (nI kk)), (3, .ref (a (37 + r))), (4, .int (nI (2 ^ N 0 0 - 1))), (5, .int (nI m)), (6, .int (nI z))]) X.1 X.2.1 dX7_leastFort_37 hl (by decide) rfl (fun ls hl => ?_)
        have L39 : ∀ (K : Nat) (s : Nat) (m : Nat), 2 ^ N 0 0 - s < K → (1 ≤ s ∧ s ≤ 2 ^ N 0 0) → (m = ln_cS N r z + ln_ct (ln_cz N r z) s) → (m ≤ kk) → ∀ ls : Array Slot, lv_has ls 8 [(0, .ref (a 13)), (1, .int (nI r)), (2, .int (nI kk)), (3, .ref (a (37 + r))), (4, .int (nI (2 ^ N 0 0 - 1))), (5, .int (nI m)), (6, .int (nI z)), (7, .int (nI s))] → W prg l env rum sta mid args below meth cod H locs 0 0 Q0 (F0 mid 39 ls []) := by
          intro K
          induction K with
          | zero => intro s m hm; exact absurd hm (Nat.not_lt_zero _)
          | succ K ih39 =>
            intro s m hm39 hs hm2 hmk2 ls hl
            refine lv_iload X.1 X.2.1 dX7_leastFort_39 (lv_at hl 7 rfl) ?_
            refine lv_iload X.1 X.2.1 dX7_leastFort_41 (lv_at hl 4 rfl) ?_
            refine rn_gt X (by omega) (ln_31 (Nat.lt_of_lt_of_le (Nat.sub_lt (ln_pos2 _) (by decide)) hp12)) (tgt := 84) dX7_leastFort_43 (by decide) (fun h43 => ?_) (fun h43 => ?_)
            · skip
              refine lv_iinc (v := nI (z + 1)) (lv' := [(6, .int (nI (z + 1))), (0, .ref (a 13)), (1, .int (nI r)), (2, .int (nI kk)), (3, .ref (a (37 + r))), (4, .int (nI (2 ^ N 0 0 - 1))), (5, .int (nI m)), (7, .int (nI s))]) X.1 X.2.1 dX7_leastFort_84 hl (k := 6) rfl rn_inc (by decide) rfl (fun ls hl => ?_)
              refine lv_goto (tgt := 24) X.1 X.2.1 dX7_leastFort_87 (by decide) ?_
              exact ih24 (z + 1) _ (by omega) (by omega) (by rw [ln_cS_s, hm2, show s = 2 ^ N 0 0 by omega]) hmk2 ls (lv_sub hl [1, 2, 3, 4, 5, 6, 0] rfl)
            · skip
              refine lv_aload_n X.1 X.2.1 dX7_leastFort_46 rfl (lv_at hl 0 rfl) ?_
              refine lv_aload_n X.1 X.2.1 dX7_leastFort_47 rfl (lv_at hl 3 rfl) ?_
              refine lv_iload X.1 X.2.1 dX7_leastFort_48 (lv_at hl 7 rfl) ?_
              refine ln_vR X (c_X7_isLeast l D g a τ5 2 N hW hN r hr2 hE s (show s < 2 ^ N 0 0 by omega) (by omega) (Nat.le_refl _)) hP 13 rfl rfl mM_X7_49 Y_X7_isLeast rfl (by omega) hl.1 rfl (Nat.le_of_ble_eq_true rfl) dX7_leastFort_50 ⟨Nat.zero_le _, Nat.zero_le _⟩ (fun r50 hr50 => ?_)
              subst hr50
              refine rn_eqB X (tgt := 78) dX7_leastFort_53 (by decide) (fun h53 => ?_) (fun h53 => ?_)
              · skip
                refine lv_iinc (v := nI (s + 1)) (lv' := [(7, .int (nI (s + 1))), (0, .ref (a 13)), (1, .int (nI r)), (2, .int (nI kk)), (3, .ref (a (37 + r))), (4, .int (nI (2 ^ N 0 0 - 1))), (5, .int (nI m)), (6, .int (nI z))]) X.1 X.2.1 dX7_leastFort_78 hl (k := 7) rfl rn_inc (by decide) rfl (fun ls hl => ?_)
                refine lv_goto (tgt := 39) X.1 X.2.1 dX7_leastFort_81 (by decide) ?_
                exact ih39 (s + 1) _ (by omega) ⟨by omega, by omega⟩ (by first | (rw [ln_ct_f (ln_cz_f h53)]; exact hm2) | (rw [ln_ct_f (ln_cz_g h63)]; exact hm2) | (rw [ln_ct_t (ln_cz_t h53 h63), hm2]; omega)) (by omega) ls (lv_sub hl [1, 2, 3, 4, 5, 6, 7, 0] rfl)
              · skip
                refine lv_iload X.1 X.2.1 dX7_leastFort_56 (lv_at hl 7 rfl) ?_
                refine ln_sR X (c_J6_bitCount_0f7a4 l D g 0 s (show s < 4096 by omega) (Nat.le_refl _)) ln_nil mM_X7_53 Y_J6_bitCount_0f7a4 rfl (by omega) hl.1 rfl (Nat.le_of_ble_eq_true rfl) dX7_leastFort_58 ⟨Nat.zero_le _, Nat.zero_le _⟩ (fun r58 hr58 => ?_)
                subst hr58
                refine lv_iload X.1 X.2.1 dX7_leastFort_61 (lv_at hl 6 rfl) ?_
                refine rn_ne X (ln_31 (Nat.lt_of_le_of_lt (ln_pc_le _) (by decide))) (by omega) (tgt := 78) dX7_leastFort_63 (by decide) (fun h63 => ?_) (fun h63 => ?_)
                · skip
                  refine lv_iinc (v := nI (s + 1)) (lv' := [(7, .int (nI (s + 1))), (0, .ref (a 13)), (1, .int (nI r)), (2, .int (nI kk)), (3, .ref (a (37 + r))), (4, .int (nI (2 ^ N 0 0 - 1))), (5, .int (nI m)), (6, .int (nI z))]) X.1 X.2.1 dX7_leastFort_78 hl (k := 7) rfl rn_inc (by decide) rfl (fun ls hl => ?_)
                  refine lv_goto (tgt := 39) X.1 X.2.1 dX7_leastFort_81 (by decide) ?_
                  exact ih39 (s + 1) _ (by omega) ⟨by omega, by omega⟩ (by first | (rw [ln_ct_f (ln_cz_f h53)]; exact hm2) | (rw [ln_ct_f (ln_cz_g h63)]; exact hm2) | (rw [ln_ct_t (ln_cz_t h53 h63), hm2]; omega)) (by omega) ls (lv_sub hl [1, 2, 3, 4, 5, 6, 7, 0] rfl)
                · skip
                  refine lv_iload X.1 X.2.1 dX7_leastFort_66 (lv_at hl 5 rfl) ?_
                  refine lv_iload_n X.1 X.2.1 dX7_leastFort_68 rfl (lv_at hl 2 rfl) ?_
                  refine rn_ne X (by omega) (by omega) (tgt := 75) dX7_leastFort_69 (by decide) (fun h69 => ?_) (fun h69 => ?_)
                  · skip
                    refine lv_iinc (v := nI (m + 1)) (lv' := [(5, .int (nI (m + 1))), (0, .ref (a 13)), (1, .int (nI r)), (2, .int (nI kk)), (3, .ref (a (37 + r))), (4, .int (nI (2 ^ N 0 0 - 1))), (6, .int (nI z)), (7, .int (nI s))]) X.1 X.2.1 dX7_leastFort_75 hl (k := 5) rfl rn_inc (by decide) rfl (fun ls hl => ?_)
                    refine lv_iinc (v := nI (s + 1)) (lv' := [(7, .int (nI (s + 1))), (5, .int (nI (m + 1))), (0, .ref (a 13)), (1, .int (nI r)), (2, .int (nI kk)), (3, .ref (a (37 + r))), (4, .int (nI (2 ^ N 0 0 - 1))), (6, .int (nI z))]) X.1 X.2.1 dX7_leastFort_78 hl (k := 7) rfl rn_inc (by decide) rfl (fun ls hl => ?_)
                    refine lv_goto (tgt := 39) X.1 X.2.1 dX7_leastFort_81 (by decide) ?_
                    exact ih39 (s + 1) _ (by omega) ⟨by omega, by omega⟩ (by first | (rw [ln_ct_f (ln_cz_f h53)]; exact hm2) | (rw [ln_ct_f (ln_cz_g h63)]; exact hm2) | (rw [ln_ct_t (ln_cz_t h53 h63), hm2]; omega)) (by omega) ls (lv_sub hl [2, 3, 4, 5, 6, 1, 7, 0] rfl)
                  · skip
                    refine lv_iload X.1 X.2.1 dX7_leastFort_72 (lv_at hl 7 rfl) ?_
                    subst hQ0
                    exact ln_retU X hr hlk hP hSw rfl ⟨Or.inl ⟨z, s, by omega, by omega, ln_cz_t h53 h63, by omega, rfl⟩, hEK, hfe⟩ dX7_leastFort_74
        exact L39 _ 1 _ (Nat.lt_succ_self _) ⟨Nat.le_refl _, ln_pos2 _⟩ (by rw [ln_ct_1, hm]; rfl) hmk ls (lv_sub hl [1, 2, 3, 4, 5, 6, 7, 0] rfl)
  exact L24 _ 1 0 (Nat.lt_succ_self _) ⟨Nat.le_refl _, by omega⟩ (by omega) (Nat.zero_le _) ls (lv_sub hl [4, 5, 6, 3, 2, 1, 0] rfl)
set_option maxHeartbeats 4000000 in
set_option maxRecDepth 100000 in
theorem c_X7_mostByLowest (l : Launch) (D : va_G) (g : Nat → ClassId) (a : Nat → Nat) (σ : ln_S) (d : Nat) (N : ln_N) (hW : ln_wf N) (hN : ln_nC N σ) (r : Nat) (hr2 : r < 2) (hE : ln_eT N σ r) (S : Nat) (hS : S < 2 ^ N 0 0) (h0 : S ≠ 0) (hft : ln_ft N r S = true) (hM : ln_mst N r (σ 14) S) (hd : 2 ≤ d) : ln_R l D g (CW a g σ) yX7_mostByLowest (.code yX7_mostByLowest cX7_mostByLowest 8 (some .int)) d [.ref (a 13), .ref (a (37 + r)), .int (nI S)] (fun z => ∃ v, v ≤ 12 ∧ z = nI v ∧ ln_isA N r S v) := by
  have hN12 := hW.n12
  have hp12 := hW.p12
  have hs1 := ln_sub1 (N 0 0)
  obtain ⟨l1, hlw, hl12, hlb⟩ := ln_lw_bit (ln_n12 hW hS) h0
  obtain ⟨v0, hv0, hm0, ha0⟩ := hM _ (ln_dfp_lt hlb)
  refine ln_ofR (by decide +kernel) (Nat.le_of_ble_eq_true rfl) (fun prg env rum sta mid args below meth cod ls hr hlk X hP hl => ?_)
  have hl : lv_has ls 8 [(0, .ref (a 13)), (1, .ref (a (37 + r))), (2, .int (nI S))] := hl
  generalize hQ0 : (MQ below (vp_Si (fun z => ∃ v, v ≤ 12 ∧ z = nI v ∧ ln_isA N r S v)) args sta 0 0 (fun _ => False)) = Q0
  refine lv_iload_n X.1 X.2.1 dX7_mostByLowest_0 rfl (lv_at hl 2 rfl) ?_
  refine lv_iload_n X.1 X.2.1 dX7_mostByLowest_1 rfl (lv_at hl 2 rfl) ?_
  refine lv_ineg X.1 X.2.1 dX7_mostByLowest_2 ?_
  refine lv_iand X.1 X.2.1 dX7_mostByLowest_3 ?_
  refine rn_top (y := nI (2 ^ l1)) (by rw [ln_lw_ok (ln_n12 hW hS), hlw]) ?_
  refine lv_istore_n (lv' := [(3, .int (nI (2 ^ l1))), (0, .ref (a 13)), (1, .ref (a (37 + r))), (2, .int (nI S))]) X.1 X.2.1 dX7_mostByLowest_4 rfl hl (by decide) rfl (fun ls hl => ?_)
  refine lv_iload_n X.1 X.2.1 dX7_mostByLowest_5 rfl (lv_at hl 3 rfl) ?_
  refine lv_iload_n X.1 X.2.1 dX7_mostByLowest_6 rfl (lv_at hl 0 rfl) ?_
  refine lv_iconst (v := ((-1))) X.1 X.2.1 dX7_mostByLowest_7 (by decide) ?_
  refine lv_ixor X.1 X.2.1 dX7_mostByLowest_8 ?_
  refine rn_nt X dX7_mostByLowest_9 ?_
  refine lv_istore (lv' := [(4, .int (nI (ln_df S (2 ^ l1)))), (3, .int (nI (2 ^ l1))), (0, .ref (a 13)), (1, .ref (a (37 + r))), (2, .int (nI S))]) X.1 X.2.1 dX7_mostByLowest_10 hl (by decide) rfl (fun ls hl => ?_)
  refine lv_aload_n X.1 X.2.1 dX7_mostByLowest_12 rfl (lv_at hl 2 rfl) ?_
  refine gC_13_2 X hP mF_X7_9 dX7_mostByLowest_13 ?_
  refine lv_iload X.1 X.2.1 dX7_mostByLowest_16 (lv_at hl 0 rfl) ?_
  refine lC_14 X hP (ln_df_lt (ln_n12 hW hS)) (v := nI v0) hm0 dX7_mostByLowest_18 ?_
  refine lv_istore (lv' := [(5, .int (nI v0)), (4, .int (nI (ln_df S (2 ^ l1)))), (3, .int (nI (2 ^ l1))), (0, .ref (a 13)), (1, .ref (a (37 + r))), (2, .int (nI S))]) X.1 X.2.1 dX7_mostByLowest_19 hl (by decide) rfl (fun ls hl => ?_)
  refine lv_iload X.1 X.2.1 dX7_mostByLowest_21 (lv_at hl 1 rfl) ?_
  refine lv_istore (lv' := [(6, .int (nI (ln_df S (2 ^ l1)))), (5, .int (nI v0)), (4, .int (nI (ln_df S (2 ^ l1)))), (3, .int (nI (2 ^ l1))), (0, .ref (a 13)), (1, .ref (a (37 + r))), (2, .int (nI S))]) X.1 X.2.1 dX7_mostByLowest_23 hl (by decide) rfl (fun ls hl => ?_)
  have L25 : ∀ (K : Nat) (o : Nat) (b : Nat), o < K → (ln_sb o (ln_df S (2 ^ l1))) → (v0 ≤ b ∧ b ≤ 13) → (ln_pk N r b S) → (∀ F v, ln_ft N r F = true → F.testBit l1 = true → ln_sb F S → o < ln_df S F → ln_isA N r (ln_df S F) v → 1 + v ≤ b) → ∀ ls : Array Slot, lv_has ls 8 [(0, .ref (a 13)), (1, .ref (a (37 + r))), (2, .int (nI S)), (4, .int (nI (ln_df S (2 ^ l1)))), (5, .int (nI b)), (6, .int (nI o))] → W prg l env rum sta mid args below meth cod sta.heap [] 0 0 Q0 (F0 mid 25 ls []) := by
    intro K
    induction K with
    | zero => intro o b hm; exact absurd hm (Nat.not_lt_zero _)
    | succ K ih25 =>
      intro o b hm25 ho hb hpk hall ls hl
      have ho12 : o < 4096 := Nat.lt_of_le_of_lt (ln_sb_le ho) (ln_df_lt (ln_n12 hW hS))
      refine lv_iload X.1 X.2.1 dX7_mostByLowest_25 (lv_at hl 5 rfl) ?_
      refine rn_le0 X (ln_31 ho12) (tgt := 85) dX7_mostByLowest_27 (by decide) (fun h27 => ?_) (fun h27 => ?_)
      · skip
        refine lv_iload X.1 X.2.1 dX7_mostByLowest_85 (lv_at hl 4 rfl) ?_
        refine lv_iconst (v := nI 1) X.1 X.2.1 dX7_mostByLowest_87 (by decide) ?_
        refine rn_max X (by omega) (by omega) (by decide) (Nat.le_of_ble_eq_true rfl) hl.1 mM_X7_72 (Nat.zero_le _) (Nat.zero_le _) dX7_mostByLowest_88 ?_
        have hnA : ln_isA N r S (max b 1) := ln_isA_class hlb hft ha0 (by omega) (by omega) (by rcases Nat.le_total b 1 with q | q; (· rw [Nat.max_eq_right q]; exact ⟨S, hft, ln_sb_and.mpr (ln_sb_rf S), trivial⟩); (· rw [Nat.max_eq_left q]; exact hpk)) (fun F v f1 f2 f3 f4 f5 => by have := hall F v f1 f2 f3 (by omega) f5; omega) (fun F f1 f2 => by obtain ⟨v, _, _, h⟩ := hM _ (ln_df_ne f1 f2); exact ⟨v, h⟩)
        subst hQ0
        exact ln_retR X hr hlk rfl ⟨_, ln_isA_le12 (ln_n12 hW hS) hnA, rfl, hnA⟩ dX7_mostByLowest_91
      · skip
        obtain ⟨vo, hvo, hmo, hao⟩ := hM o (Nat.lt_of_le_of_lt (ln_sb_le ho) (ln_dfp_lt hlb))
        have hfn : ln_df S o ≠ 0 := fun q => by have c := ln_df_t hlb (show o.testBit l1 = false by cases hq : o.testBit l1 with | false => rfl | true => have := ho l1 hq; rw [ln_df_p, decide_eq_true rfl] at this; simp at this); rw [q, Nat.zero_testBit] at c; exact absurd c (by decide)
        have hfo : ln_fw N r (ln_df S o) = ln_df S o → ln_ft N r (ln_df S o) = true := fun q => (ln_fw_eq hW (by omega) (ln_df_lt hS) hfn).mp q
        refine lv_iload_n X.1 X.2.1 dX7_mostByLowest_30 rfl (lv_at hl 2 rfl) ?_
        refine lv_iload X.1 X.2.1 dX7_mostByLowest_31 (lv_at hl 5 rfl) ?_
        refine lv_iconst (v := ((-1))) X.1 X.2.1 dX7_mostByLowest_33 (by decide) ?_
        refine lv_ixor X.1 X.2.1 dX7_mostByLowest_34 ?_
        refine rn_nt X dX7_mostByLowest_35 ?_
        refine lv_istore (lv' := [(7, .int (nI (ln_df S o))), (0, .ref (a 13)), (1, .ref (a (37 + r))), (2, .int (nI S)), (4, .int (nI (ln_df S (2 ^ l1)))), (5, .int (nI b)), (6, .int (nI o))]) X.1 X.2.1 dX7_mostByLowest_36 hl (by decide) rfl (fun ls hl => ?_)
        refine lv_aload_n X.1 X.2.1 dX7_mostByLowest_38 rfl (lv_at hl 1 rfl) ?_
        refine gC_13_2 X hP mF_X7_9 dX7_mostByLowest_39 ?_
        refine lv_iload X.1 X.2.1 dX7_mostByLowest_42 (lv_at hl 6 rfl) ?_
        refine lC_14 X hP ho12 (v := nI vo) hmo dX7_mostByLowest_44 ?_
        refine lv_iload X.1 X.2.1 dX7_mostByLowest_45 (lv_at hl 5 rfl) ?_
        refine rn_lt X (by omega) (by omega) (tgt := 73) dX7_mostByLowest_47 (by decide) (fun h47 => ?_) (fun h47 => ?_)
        · skip
          refine lv_iload X.1 X.2.1 dX7_mostByLowest_73 (lv_at hl 6 rfl) ?_
          refine lv_iconst (v := nI 1) X.1 X.2.1 dX7_mostByLowest_75 (by decide) ?_
          refine rn_sub X (by omega) dX7_mostByLowest_76 ?_
          refine lv_iload X.1 X.2.1 dX7_mostByLowest_77 (lv_at hl 4 rfl) ?_
          refine rn_and X dX7_mostByLowest_79 ?_
          refine lv_istore (lv' := [(6, .int (nI ((o - 1) &&& (ln_df S (2 ^ l1))))), (7, .int (nI (ln_df S o))), (0, .ref (a 13)), (1, .ref (a (37 + r))), (2, .int (nI S)), (4, .int (nI (ln_df S (2 ^ l1)))), (5, .int (nI b))]) X.1 X.2.1 dX7_mostByLowest_80 hl (by decide) rfl (fun ls hl => ?_)
          refine lv_goto (tgt := 25) X.1 X.2.1 dX7_mostByLowest_82 (by decide) ?_
          exact ih25 _ _ (by have := ln_part_lt (ln_df S (2 ^ l1)) (show 0 < o by omega); omega) (ln_part_sb _ _) (by omega) (by first | exact hpk | exact ⟨ln_df S o, hfo h59, ln_sb_and.mpr (ln_sb_df _ _), by rw [ln_df_df (ln_sb_tr ho (ln_sb_df _ _))]; exact hao.1⟩) (ln_mbl_step hW hr2 hS ho h27 hao (b := b) (by omega) (by first | (intro _; omega) | (intro q; exact absurd ((ln_fw_eq hW (by omega) (ln_df_lt hS) hfn).mpr q) h59)) hall) ls (lv_sub hl [2, 3, 4, 5, 6, 0] rfl)
        · skip
          refine lv_aload_n X.1 X.2.1 dX7_mostByLowest_50 rfl (lv_at hl 1 rfl) ?_
          refine lv_aload_n X.1 X.2.1 dX7_mostByLowest_51 rfl (lv_at hl 2 rfl) ?_
          refine lv_iload X.1 X.2.1 dX7_mostByLowest_52 (lv_at hl 0 rfl) ?_
          refine ln_vR X (c_X7_fortsWithin l D g a σ 1 N hW hN r (by omega) hE (ln_df S o) (ln_df_lt (ln_n12 hW hS)) (Nat.le_refl _)) hP 13 rfl rfl mM_X7_35 Y_X7_fortsWithin rfl (by omega) hl.1 rfl (Nat.le_of_ble_eq_true rfl) dX7_mostByLowest_54 ⟨Nat.zero_le _, Nat.zero_le _⟩ (fun r54 hr54 => ?_)
          subst hr54
          refine lv_iload X.1 X.2.1 dX7_mostByLowest_57 (lv_at hl 0 rfl) ?_
          refine rn_ne X (ln_31 (Nat.lt_of_lt_of_le ln_fw_lt hp12)) (ln_31 (ln_df_lt (ln_n12 hW hS))) (tgt := 73) dX7_mostByLowest_59 (by decide) (fun h59 => ?_) (fun h59 => ?_)
          · skip
            refine lv_iload X.1 X.2.1 dX7_mostByLowest_73 (lv_at hl 6 rfl) ?_
            refine lv_iconst (v := nI 1) X.1 X.2.1 dX7_mostByLowest_75 (by decide) ?_
            refine rn_sub X (by omega) dX7_mostByLowest_76 ?_
            refine lv_iload X.1 X.2.1 dX7_mostByLowest_77 (lv_at hl 4 rfl) ?_
            refine rn_and X dX7_mostByLowest_79 ?_
            refine lv_istore (lv' := [(6, .int (nI ((o - 1) &&& (ln_df S (2 ^ l1))))), (7, .int (nI (ln_df S o))), (0, .ref (a 13)), (1, .ref (a (37 + r))), (2, .int (nI S)), (4, .int (nI (ln_df S (2 ^ l1)))), (5, .int (nI b))]) X.1 X.2.1 dX7_mostByLowest_80 hl (by decide) rfl (fun ls hl => ?_)
            refine lv_goto (tgt := 25) X.1 X.2.1 dX7_mostByLowest_82 (by decide) ?_
            exact ih25 _ _ (by have := ln_part_lt (ln_df S (2 ^ l1)) (show 0 < o by omega); omega) (ln_part_sb _ _) (by omega) (by first | exact hpk | exact ⟨ln_df S o, hfo h59, ln_sb_and.mpr (ln_sb_df _ _), by rw [ln_df_df (ln_sb_tr ho (ln_sb_df _ _))]; exact hao.1⟩) (ln_mbl_step hW hr2 hS ho h27 hao (b := b) (by omega) (by first | (intro _; omega) | (intro q; exact absurd ((ln_fw_eq hW (by omega) (ln_df_lt hS) hfn).mpr q) h59)) hall) ls (lv_sub hl [2, 3, 4, 5, 6, 0] rfl)
          · skip
            refine lv_aload_n X.1 X.2.1 dX7_mostByLowest_62 rfl (lv_at hl 1 rfl) ?_
            refine gC_13_2 X hP mF_X7_9 dX7_mostByLowest_63 ?_
            refine lv_iload X.1 X.2.1 dX7_mostByLowest_66 (lv_at hl 6 rfl) ?_
            refine lC_14 X hP ho12 (v := nI vo) hmo dX7_mostByLowest_68 ?_
            refine lv_iconst (v := nI 1) X.1 X.2.1 dX7_mostByLowest_69 (by decide) ?_
            refine rn_add X dX7_mostByLowest_70 ?_
            refine lv_istore (lv' := [(5, .int (nI (vo + 1))), (7, .int (nI (ln_df S o))), (0, .ref (a 13)), (1, .ref (a (37 + r))), (2, .int (nI S)), (4, .int (nI (ln_df S (2 ^ l1)))), (6, .int (nI o))]) X.1 X.2.1 dX7_mostByLowest_71 hl (by decide) rfl (fun ls hl => ?_)
            refine lv_iload X.1 X.2.1 dX7_mostByLowest_73 (lv_at hl 6 rfl) ?_
            refine lv_iconst (v := nI 1) X.1 X.2.1 dX7_mostByLowest_75 (by decide) ?_
            refine rn_sub X (by omega) dX7_mostByLowest_76 ?_
            refine lv_iload X.1 X.2.1 dX7_mostByLowest_77 (lv_at hl 5 rfl) ?_
            refine rn_and X dX7_mostByLowest_79 ?_
            refine lv_istore (lv' := [(6, .int (nI ((o - 1) &&& (ln_df S (2 ^ l1))))), (5, .int (nI (vo + 1))), (7, .int (nI (ln_df S o))), (0, .ref (a 13)), (1, .ref (a (37 + r))), (2, .int (nI S)), (4, .int (nI (ln_df S (2 ^ l1))))]) X.1 X.2.1 dX7_mostByLowest_80 hl (by decide) rfl (fun ls hl => ?_)
            refine lv_goto (tgt := 25) X.1 X.2.1 dX7_mostByLowest_82 (by decide) ?_
            exact ih25 _ _ (by have := ln_part_lt (ln_df S (2 ^ l1)) (show 0 < o by omega); omega) (ln_part_sb _ _) (by omega) (by first | exact hpk | exact ⟨ln_df S o, hfo h59, ln_sb_and.mpr (ln_sb_df _ _), by rw [ln_df_df (ln_sb_tr ho (ln_sb_df _ _))]; exact hao.1⟩) (ln_mbl_step hW hr2 hS ho h27 hao (b := b) (by omega) (by first | (intro _; omega) | (intro q; exact absurd ((ln_fw_eq hW (by omega) (ln_df_lt hS) hfn).mpr q) h59)) hall) ls (lv_sub hl [3, 4, 5, 6, 1, 0] rfl)
  have ho12 : ln_df S (2 ^ l1) < 4096 := ln_df_lt (ln_n12 hW hS)
  exact L25 _ _ _ (Nat.lt_succ_self _) (ln_sb_rf _) ⟨Nat.le_refl _, by omega⟩ (ln_pk_mono (ln_sb_df _ _) ha0.1) (fun F v f1 f2 f3 f4 f5 => absurd f4 (Nat.not_lt.mpr (ln_sb_le (fun i hi => by rw [ln_df_p, ln_sb_df _ _ i hi]; by_cases e : l1 = i; (· subst e; rw [ln_df_n hi] at f2; exact absurd f2 (by decide)); (· rw [decide_eq_false e]; rfl))))) ls (lv_sub hl [4, 5, 6, 2, 1, 0] rfl)
set_option maxHeartbeats 4000000 in
set_option maxRecDepth 100000 in
theorem c_X7_mostWithin (l : Launch) (D : va_G) (g : Nat → ClassId) (a : Nat → Nat) (σ : ln_S) (d : Nat) (N : ln_N) (hW : ln_wf N) (hN : ln_nC N σ) (r : Nat) (hr2 : r < 2) (hE : ln_eT N σ r) (S : Nat) (hS : S < 2 ^ N 0 0) (hM : ln_mst N r (σ 14) S) (hd : 3 ≤ d) : ln_R l D g (CW a g σ) yX7_mostWithin (.code yX7_mostWithin cX7_mostWithin 4 (some .int)) d [.ref (a 13), .ref (a (37 + r)), .int (nI S)] (fun z => ∃ v, v ≤ 12 ∧ z = nI v ∧ ln_isA N r S v) := by
  have hN12 := hW.n12
  have hp12 := hW.p12
  have hs1 := ln_sub1 (N 0 0)
  refine ln_ofR (by decide +kernel) (Nat.le_of_ble_eq_true rfl) (fun prg env rum sta mid args below meth cod ls hr hlk X hP hl => ?_)
  have hl : lv_has ls 4 [(0, .ref (a 13)), (1, .ref (a (37 + r))), (2, .int (nI S))] := hl
  generalize hQ0 : (MQ below (vp_Si (fun z => ∃ v, v ≤ 12 ∧ z = nI v ∧ ln_isA N r S v)) args sta 0 0 (fun _ => False)) = Q0
  refine lv_iload_n X.1 X.2.1 dX7_mostWithin_0 rfl (lv_at hl 2 rfl) ?_
  refine rn_ne0 X (ln_31 (ln_n12 hW hS)) (tgt := 6) dX7_mostWithin_1 (by decide) (fun h1 => ?_) (fun h1 => ?_)
  · skip
    refine lv_aload_n X.1 X.2.1 dX7_mostWithin_6 rfl (lv_at hl 0 rfl) ?_
    refine lv_aload_n X.1 X.2.1 dX7_mostWithin_7 rfl (lv_at hl 1 rfl) ?_
    refine lv_iload_n X.1 X.2.1 dX7_mostWithin_8 rfl (lv_at hl 2 rfl) ?_
    refine ln_vR X (c_X7_fortsWithin l D g a σ 1 N hW hN r (by omega) hE S (ln_n12 hW hS) (Nat.le_refl _)) hP 13 rfl rfl mM_X7_35 Y_X7_fortsWithin rfl (by omega) hl.1 rfl (Nat.le_of_ble_eq_true rfl) dX7_mostWithin_9 ⟨Nat.zero_le _, Nat.zero_le _⟩ (fun r9 hr9 => ?_)
    subst hr9
    refine lv_istore_n (lv' := [(3, .int (nI (ln_fw N r S))), (0, .ref (a 13)), (1, .ref (a (37 + r))), (2, .int (nI S))]) X.1 X.2.1 dX7_mostWithin_12 rfl hl (by decide) rfl (fun ls hl => ?_)
    refine lv_iload_n X.1 X.2.1 dX7_mostWithin_13 rfl (lv_at hl 0 rfl) ?_
    refine lv_iload_n X.1 X.2.1 dX7_mostWithin_14 rfl (lv_at hl 3 rfl) ?_
    refine rn_ne X (ln_31 (Nat.lt_of_lt_of_le ln_fw_lt hp12)) (ln_31 (ln_n12 hW hS)) (tgt := 27) dX7_mostWithin_15 (by decide) (fun h15 => ?_) (fun h15 => ?_)
    · skip
      obtain ⟨vz, hvz, hmz, haz⟩ := hM _ (ln_sb_lt (ln_fw_sb hS) h15)
      refine lv_aload_n X.1 X.2.1 dX7_mostWithin_27 rfl (lv_at hl 1 rfl) ?_
      refine gC_13_2 X hP mF_X7_9 dX7_mostWithin_28 ?_
      refine lv_iload_n X.1 X.2.1 dX7_mostWithin_31 rfl (lv_at hl 0 rfl) ?_
      refine lC_14 X hP (Nat.lt_of_lt_of_le ln_fw_lt hp12) (v := nI vz) hmz dX7_mostWithin_32 ?_
      subst hQ0
      exact ln_retR X hr hlk rfl (by first | exact ⟨vz, hvz, rfl, haz⟩ | exact ⟨vz, hvz, rfl, ln_isA_fw hW (by omega) hS haz⟩) dX7_mostWithin_33
    · skip
      refine lv_aload_n X.1 X.2.1 dX7_mostWithin_18 rfl (lv_at hl 1 rfl) ?_
      refine lv_aload_n X.1 X.2.1 dX7_mostWithin_19 rfl (lv_at hl 2 rfl) ?_
      refine lv_iload_n X.1 X.2.1 dX7_mostWithin_20 rfl (lv_at hl 3 rfl) ?_
      refine ln_vR X (c_X7_mostByLowest l D g a σ 2 N hW hN r hr2 hE S hS h1 (ln_ft_t hW hr2 hS h1 h15) hM (Nat.le_refl _)) hP 13 rfl rfl mM_X7_69 Y_X7_mostByLowest rfl (by omega) hl.1 rfl (Nat.le_of_ble_eq_true rfl) dX7_mostWithin_21 ⟨Nat.zero_le _, Nat.zero_le _⟩ (fun r21 hr21 => ?_)
      obtain ⟨vz, hvz, rfl, haz⟩ := hr21
      refine lv_goto (tgt := 33) X.1 X.2.1 dX7_mostWithin_24 (by decide) ?_
      subst hQ0
      exact ln_retR X hr hlk rfl (by first | exact ⟨vz, hvz, rfl, haz⟩ | exact ⟨vz, hvz, rfl, ln_isA_fw hW (by omega) hS haz⟩) dX7_mostWithin_33
  · skip
    refine lv_iconst (v := nI 0) X.1 X.2.1 dX7_mostWithin_4 (by decide) ?_
    subst hQ0
    exact ln_retR X hr hlk rfl (by subst h1; exact ⟨0, by decide, rfl, ln_isA_0 N r⟩) dX7_mostWithin_5
set_option maxHeartbeats 4000000 in
set_option maxRecDepth 100000 in
theorem c_X7_mostApart (l : Launch) (D : va_G) (g : Nat → ClassId) (a : Nat → Nat) (σ : ln_S) (d : Nat) (N : ln_N) (hW : ln_wf N) (hN : ln_nC N σ) (rv bv : Nat) (hV : ln_vs σ rv bv) (hEK : ln_eK N σ rv bv) (hAK : ln_aK N σ rv bv) (r : Nat) (hr2 : r < 2) (hd : 5 ≤ d) : ln_U l D g (CW a g) yX7_mostApart (.code yX7_mostApart cX7_mostApart 5 (some .int)) d [.ref (a 13), .int (nI r)] σ (fun z τ => (∃ v, z = nI v ∧ ln_isA N r (2 ^ N 0 0 - 1) v) ∧ ln_eK N τ rv bv ∧ ln_aK N τ rv bv ∧ ∀ c, c ≠ 9 → c ≠ 37 → c ≠ 38 → c ≠ 39 → c ≠ 14 → c ≠ 15 → c ≠ 16 → τ c = σ c) := by
  have hN12 := hW.n12
  have hp12 := hW.p12
  have hs1 := ln_sub1 (N 0 0)
  obtain ⟨e0, he0, hle, himp⟩ := hAK r hr2
  have hvl := ln_ver_lt hV r
  refine ln_ofU (by decide +kernel) (Nat.le_of_ble_eq_true rfl) (fun prg env rum sta mid args below meth cod ls A hr hlk X hA hP hDw hSw hl => ?_)
  have hl : lv_has ls 5 [(0, .ref (a 13)), (1, .int (nI r))] := hl
  generalize hQ0 : (MQ below (va_Qi (fun z τ => (∃ v, z = nI v ∧ ln_isA N r (2 ^ N 0 0 - 1) v) ∧ ln_eK N τ rv bv ∧ ln_aK N τ rv bv ∧ ∀ c, c ≠ 9 → c ≠ 37 → c ≠ 38 → c ≠ 39 → c ≠ 14 → c ≠ 15 → c ≠ 16 → τ c = σ c) (fun τ t => va_P D ln_cl (CW a g τ) t.heap) A) args sta 0 0 A) = Q0
  obtain ⟨H, hH⟩ : ∃ H, H = sta.heap := ⟨_, rfl⟩
  obtain ⟨locs, hlo⟩ : ∃ x : List Loc, x = [] := ⟨_, rfl⟩
  rw [← hH] at hP
  have hSw : va_S A sta.heap H locs := by rw [hH, hlo]; exact hSw
  have goal : W prg l env rum sta mid args below meth cod H locs 0 0 Q0 (F0 mid 0 ls []) := ?_
  · rw [hH, hlo] at goal; exact goal
  clear hlo
  refine lv_aload_n X.1 X.2.1 dX7_mostApart_0 rfl (lv_at hl 0 rfl) ?_
  refine gC_13_4 X hP mF_X7_18 dX7_mostApart_1 ?_
  refine lv_iload_n X.1 X.2.1 dX7_mostApart_4 rfl (lv_at hl 1 rfl) ?_
  refine lC_16 X hP (by omega) (v := nI e0) he0 dX7_mostApart_5 ?_
  refine lv_aload_n X.1 X.2.1 dX7_mostApart_6 rfl (lv_at hl 0 rfl) ?_
  refine gC_13_0 X hP mF_X7_21 dX7_mostApart_7 ?_
  refine lv_iload_n X.1 X.2.1 dX7_mostApart_10 rfl (lv_at hl 1 rfl) ?_
  refine ln_vR X (c_X4_versionOf l D g a σ 0 rv bv hV r (by omega) (Nat.le_refl _)) hP 1 rfl rfl mM_X7_63 Y_X4_versionOf rfl (by omega) hl.1 rfl (Nat.le_of_ble_eq_true rfl) dX7_mostApart_11 ⟨Nat.zero_le _, Nat.zero_le _⟩ (fun r11 hr11 => ?_)
  subst hr11
  refine rn_eq X (by omega) (by omega) (tgt := 89) dX7_mostApart_14 (by decide) (fun h14 => ?_) (fun h14 => ?_)
  · skip
    obtain ⟨va, hva, hma, haa⟩ := himp h14
    refine lv_aload_n X.1 X.2.1 dX7_mostApart_89 rfl (lv_at hl 0 rfl) ?_
    refine gC_13_3 X hP mF_X7_15 dX7_mostApart_90 ?_
    refine lv_iload_n X.1 X.2.1 dX7_mostApart_93 rfl (lv_at hl 1 rfl) ?_
    refine lC_15 X hP (by omega) (v := nI va) hma dX7_mostApart_94 ?_
    subst hQ0
    exact ln_retU X hr hlk hP hSw rfl (by first | exact ⟨⟨va, rfl, haa⟩, hEK, hAK, fun c _ _ _ _ _ _ _ => rfl⟩ | (refine ⟨⟨va, rfl, haa⟩, ?_, ?_, ?_⟩; (· intro q hq; obtain ⟨x, x1, x2, x3⟩ := hEK q hq; exact ⟨x, by rw [hτ3, ln_up_n _ _ (by decide), hτ2, ln_up_n _ _ (by decide), ho 9 (by decide)]; exact x1, x2, fun h T hT => by rw [hτ3, ln_up_n _ _ (by omega), hτ2, ln_up_n _ _ (by omega), ho _ (by omega)]; exact x3 h T hT⟩); (· intro q hq; by_cases e : q = r; (· subst e; exact ⟨_, by rw [hτ3, ln_up_s, ln_upd_s], Nat.le_refl _, fun _ => ⟨va, hva, hma, haa⟩⟩); (· obtain ⟨x, x1, x2, x3⟩ := hAK q hq; refine ⟨x, by rw [hτ3, ln_up_s, ln_upd_n e, hτ2, ln_up_n _ _ (by decide), ho 16 (by decide), hfe 16 (by decide) (by decide) (by decide) (by decide)]; exact x1, x2, fun h => ?_⟩; obtain ⟨z, z1, z2, z3⟩ := x3 h; exact ⟨z, z1, by rw [hτ3, ln_up_n _ _ (by decide), hτ2, ln_up_s, ln_upd_n e, ho 15 (by decide), hfe 15 (by decide) (by decide) (by decide) (by decide)]; exact z2, z3⟩)); (· intro c c1 c2 c3 c4 c5 c6 c7; rw [hτ3, ln_up_n _ _ c7, hτ2, ln_up_n _ _ c6, ho c c5]; exact hfe c c1 c2 c3 c4))) dX7_mostApart_95
  · skip
    refine lv_aload_n X.1 X.2.1 dX7_mostApart_17 rfl (lv_at hl 0 rfl) ?_
    refine gC_13_1 X hP mF_X7_25 dX7_mostApart_18 ?_
    refine lv_iload_n X.1 X.2.1 dX7_mostApart_21 rfl (lv_at hl 1 rfl) ?_
    refine ln_vF X (CW_ad a g) hA (c_X6_endsOf l D g a σ 4 N hW hN rv bv hV hEK r (by omega) (Nat.le_refl _)) hP hDw hSw 7 rfl rfl mM_X7_29 Y_X6_endsOf rfl (by omega) hl.1 rfl (Nat.le_of_ble_eq_true rfl) dX7_mostApart_22 ⟨Nat.zero_le _, Nat.zero_le _⟩ (fun τ22 H locs hr22 hP hDw hSw => ?_)
    obtain ⟨hE, hEK, hfe⟩ := hr22
    have hN : ln_nC N τ22 := hN.of (fun c hc => hfe c (by omega) (by omega) (by omega) (by omega))
    have hV : ln_vs τ22 rv bv := hV.of (hfe 1 (by omega) (by omega) (by omega) (by omega))
    refine lv_astore_n (lv' := [(2, .ref (a (37 + r))), (0, .ref (a 13)), (1, .int (nI r))]) X.1 X.2.1 dX7_mostApart_25 rfl hl (by decide) rfl (fun ls hl => ?_)
    refine lv_aload_n X.1 X.2.1 dX7_mostApart_26 rfl (lv_at hl 1 rfl) ?_
    refine gC_13_0 X hP mF_X7_21 dX7_mostApart_27 ?_
    refine ln_vR X (c_X4_allPosts l D g a τ22 0 N hW hN (Nat.le_refl _)) hP 1 rfl rfl mM_X7_39 Y_X4_allPosts rfl (by omega) hl.1 rfl (Nat.le_of_ble_eq_true rfl) dX7_mostApart_30 ⟨Nat.zero_le _, Nat.zero_le _⟩ (fun r30 hr30 => ?_)
    subst hr30
    refine lv_istore_n (lv' := [(3, .int (nI (2 ^ N 0 0 - 1))), (2, .ref (a (37 + r))), (0, .ref (a 13)), (1, .int (nI r))]) X.1 X.2.1 dX7_mostApart_33 rfl hl (by decide) rfl (fun ls hl => ?_)
    refine lv_iconst (v := nI 0) X.1 X.2.1 dX7_mostApart_34 (by decide) ?_
    refine lv_istore (lv' := [(4, .int (nI 0)), (3, .int (nI (2 ^ N 0 0 - 1))), (2, .ref (a (37 + r))), (0, .ref (a 13)), (1, .int (nI r))]) X.1 X.2.1 dX7_mostApart_35 hl (by decide) rfl (fun ls hl => ?_)
    have L37 : ∀ (K : Nat) (k : Nat) (τ : ln_S) (H : Heap) (locs : List Loc), 2 ^ N 0 0 - k < K → (k ≤ 2 ^ N 0 0) → (ln_mst N r (τ 14) k) → (∀ c, c ≠ 14 → τ c = τ22 c) → va_P D ln_cl (CW a g τ) H → va_D A (CW a g τ) → va_S A sta.heap H locs → ∀ ls : Array Slot, lv_has ls 5 [(0, .ref (a 13)), (1, .int (nI r)), (2, .ref (a (37 + r))), (3, .int (nI (2 ^ N 0 0 - 1))), (4, .int (nI k))] → W prg l env rum sta mid args below meth cod H locs 0 0 Q0 (F0 mid 37 ls []) := by
      intro K
      induction K with
      | zero => intro k τ H locs hm; exact absurd hm (Nat.not_lt_zero _)
      | succ K ih37 =>
        intro k τ H locs hm37 hk hM ho hP hDw hSw ls hl
        have hN : ln_nC N τ := hN.of (fun c hc => ho c (by omega))
        have hE : ln_eT N τ r := fun T hT => by rw [ho _ (by omega)]; exact hE T hT
        refine lv_iload X.1 X.2.1 dX7_mostApart_37 (lv_at hl 4 rfl) ?_
        refine lv_iload_n X.1 X.2.1 dX7_mostApart_39 rfl (lv_at hl 3 rfl) ?_
        refine rn_gt X (by omega) (ln_31 (Nat.lt_of_lt_of_le (Nat.sub_lt (ln_pos2 _) (by decide)) hp12)) (tgt := 63) dX7_mostApart_40 (by decide) (fun h40 => ?_) (fun h40 => ?_)
        · skip
          obtain ⟨va, hva, hma, haa⟩ := hM (2 ^ N 0 0 - 1) (by omega)
          have hV : ln_vs τ rv bv := hV.of (ho 1 (by decide))
          refine lv_aload_n X.1 X.2.1 dX7_mostApart_63 rfl (lv_at hl 0 rfl) ?_
          refine gC_13_3 X hP mF_X7_15 dX7_mostApart_64 ?_
          refine lv_iload_n X.1 X.2.1 dX7_mostApart_67 rfl (lv_at hl 1 rfl) ?_
          refine lv_aload_n X.1 X.2.1 dX7_mostApart_68 rfl (lv_at hl 0 rfl) ?_
          refine gC_13_2 X hP mF_X7_9 dX7_mostApart_69 ?_
          refine lv_iload_n X.1 X.2.1 dX7_mostApart_72 rfl (lv_at hl 3 rfl) ?_
          refine lC_14 X hP (Nat.lt_of_lt_of_le (ln_all_lt _) hp12) (v := nI va) hma dX7_mostApart_73 ?_
          refine sC_15 X hP hDw hSw (by omega) dX7_mostApart_74 (fun H locs hP hDw hSw => ?_)
          obtain ⟨τ2, hτ2⟩ : ∃ z : ln_S, z = (ln_up τ 15 (upd (τ 15) r (nI va))) := ⟨_, rfl⟩
          rw [← hτ2] at hP hDw
          have hV : ln_vs τ2 rv bv := hV.of (by rw [hτ2, ln_up_n _ _ (by decide)])
          refine lv_aload_n X.1 X.2.1 dX7_mostApart_75 rfl (lv_at hl 0 rfl) ?_
          refine gC_13_4 X hP mF_X7_18 dX7_mostApart_76 ?_
          refine lv_iload_n X.1 X.2.1 dX7_mostApart_79 rfl (lv_at hl 1 rfl) ?_
          refine lv_aload_n X.1 X.2.1 dX7_mostApart_80 rfl (lv_at hl 0 rfl) ?_
          refine gC_13_0 X hP mF_X7_21 dX7_mostApart_81 ?_
          refine lv_iload_n X.1 X.2.1 dX7_mostApart_84 rfl (lv_at hl 1 rfl) ?_
          refine ln_vR X (c_X4_versionOf l D g a τ2 0 rv bv hV r (by omega) (Nat.le_refl _)) hP 1 rfl rfl mM_X7_63 Y_X4_versionOf rfl (by omega) hl.1 rfl (Nat.le_of_ble_eq_true rfl) dX7_mostApart_85 ⟨Nat.zero_le _, Nat.zero_le _⟩ (fun r85 hr85 => ?_)
          subst hr85
          refine sC_16 X hP hDw hSw (by omega) dX7_mostApart_88 (fun H locs hP hDw hSw => ?_)
          obtain ⟨τ3, hτ3⟩ : ∃ z : ln_S, z = (ln_up τ2 16 (upd (τ2 16) r (nI (ln_ver rv bv r)))) := ⟨_, rfl⟩
          rw [← hτ3] at hP hDw
          have hma : τ3 15 r = nI va := by rw [hτ3, ln_up_n _ _ (by decide), hτ2, ln_up_s, ln_upd_s]
          refine lv_aload_n X.1 X.2.1 dX7_mostApart_89 rfl (lv_at hl 0 rfl) ?_
          refine gC_13_3 X hP mF_X7_15 dX7_mostApart_90 ?_
          refine lv_iload_n X.1 X.2.1 dX7_mostApart_93 rfl (lv_at hl 1 rfl) ?_
          refine lC_15 X hP (by omega) (v := nI va) hma dX7_mostApart_94 ?_
          subst hQ0
          exact ln_retU X hr hlk hP hSw rfl (by first | exact ⟨⟨va, rfl, haa⟩, hEK, hAK, fun c _ _ _ _ _ _ _ => rfl⟩ | (refine ⟨⟨va, rfl, haa⟩, ?_, ?_, ?_⟩; (· intro q hq; obtain ⟨x, x1, x2, x3⟩ := hEK q hq; exact ⟨x, by rw [hτ3, ln_up_n _ _ (by decide), hτ2, ln_up_n _ _ (by decide), ho 9 (by decide)]; exact x1, x2, fun h T hT => by rw [hτ3, ln_up_n _ _ (by omega), hτ2, ln_up_n _ _ (by omega), ho _ (by omega)]; exact x3 h T hT⟩); (· intro q hq; by_cases e : q = r; (· subst e; exact ⟨_, by rw [hτ3, ln_up_s, ln_upd_s], Nat.le_refl _, fun _ => ⟨va, hva, hma, haa⟩⟩); (· obtain ⟨x, x1, x2, x3⟩ := hAK q hq; refine ⟨x, by rw [hτ3, ln_up_s, ln_upd_n e, hτ2, ln_up_n _ _ (by decide), ho 16 (by decide), hfe 16 (by decide) (by decide) (by decide) (by decide)]; exact x1, x2, fun h => ?_⟩; obtain ⟨z, z1, z2, z3⟩ := x3 h; exact ⟨z, z1, by rw [hτ3, ln_up_n _ _ (by decide), hτ2, ln_up_s, ln_upd_n e, ho 15 (by decide), hfe 15 (by decide) (by decide) (by decide) (by decide)]; exact z2, z3⟩)); (· intro c c1 c2 c3 c4 c5 c6 c7; rw [hτ3, ln_up_n _ _ c7, hτ2, ln_up_n _ _ c6, ho c c5]; exact hfe c c1 c2 c3 c4))) dX7_mostApart_95
        · skip
          refine lv_aload_n X.1 X.2.1 dX7_mostApart_43 rfl (lv_at hl 0 rfl) ?_
          refine gC_13_2 X hP mF_X7_9 dX7_mostApart_44 ?_
          refine lv_iload X.1 X.2.1 dX7_mostApart_47 (lv_at hl 4 rfl) ?_
          refine lv_aload_n X.1 X.2.1 dX7_mostApart_49 rfl (lv_at hl 0 rfl) ?_
          refine lv_aload_n X.1 X.2.1 dX7_mostApart_50 rfl (lv_at hl 2 rfl) ?_
          refine lv_iload X.1 X.2.1 dX7_mostApart_51 (lv_at hl 4 rfl) ?_
          refine ln_vR X (c_X7_mostWithin l D g a τ 3 N hW hN r hr2 hE k (show k < 2 ^ N 0 0 by omega) hM (Nat.le_refl _)) hP 13 rfl rfl mM_X7_66 Y_X7_mostWithin rfl (by omega) hl.1 rfl (Nat.le_of_ble_eq_true rfl) dX7_mostApart_53 ⟨Nat.zero_le _, Nat.zero_le _⟩ (fun r53 hr53 => ?_)
          obtain ⟨vz, hvz, rfl, haz⟩ := hr53
          refine sC_14 X hP hDw hSw (by omega) dX7_mostApart_56 (fun H locs hP hDw hSw => ?_)
          obtain ⟨τ1, hτ1⟩ : ∃ z : ln_S, z = (ln_up τ 14 (upd (τ 14) k (nI vz))) := ⟨_, rfl⟩
          rw [← hτ1] at hP hDw
          refine lv_iinc (v := nI (k + 1)) (lv' := [(4, .int (nI (k + 1))), (0, .ref (a 13)), (1, .int (nI r)), (2, .ref (a (37 + r))), (3, .int (nI (2 ^ N 0 0 - 1)))]) X.1 X.2.1 dX7_mostApart_57 hl (k := 4) rfl rn_inc (by decide) rfl (fun ls hl => ?_)
          refine lv_goto (tgt := 37) X.1 X.2.1 dX7_mostApart_60 (by decide) ?_
          exact ih37 (k + 1) τ1 H locs (by omega) (by omega) (by rw [hτ1, ln_up_s]; exact ln_mst_s hM hvz haz) (fun c hc => by rw [hτ1, ln_up_n _ _ hc]; exact ho c hc) hP hDw hSw ls (lv_sub hl [1, 2, 3, 4, 0] rfl)
    exact L37 _ 0 τ22 H locs (Nat.lt_succ_self _) (Nat.zero_le _) (fun T h => absurd h (Nat.not_lt_zero T)) (fun c _ => rfl) hP hDw hSw ls (lv_sub hl [3, 4, 2, 1, 0] rfl)
