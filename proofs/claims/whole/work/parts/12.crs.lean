def ln_fs (f : Nat → Bool) : Nat → Nat
  | 0 => 0
  | k + 1 => if ln_fs f k < k then ln_fs f k else if f k then k else k + 1
theorem ln_fs_none {f : Nat → Bool} : ∀ {k : Nat}, (∀ j, j < k → f j = false) → ln_fs f k = k
  | 0, _ => rfl
  | k + 1, h => by
    show (if ln_fs f k < k then ln_fs f k else if f k then k else k + 1) = k + 1
    rw [ln_fs_none (fun j hj => h j (by omega)), if_neg (by omega), h k (by omega)]; rfl
theorem ln_fs_eq {f : Nat → Bool} {i : Nat} (hi : f i = true) (hj : ∀ j, j < i → f j = false) : ∀ {k : Nat}, i < k → ln_fs f k = i
  | 0, h => absurd h (Nat.not_lt_zero i)
  | k + 1, h => by
    show (if ln_fs f k < k then ln_fs f k else if f k then k else k + 1) = i
    by_cases hk : i = k
    · subst hk
      rw [ln_fs_none hj, if_neg (by omega), hi]; rfl
    · have h1 := ln_fs_eq hi hj (show i < k by omega)
      rw [h1, if_pos (by omega)]
theorem ln_fs_le (f : Nat → Bool) : ∀ k, ln_fs f k ≤ k
  | 0 => Nat.le_refl 0
  | k + 1 => by
    have h := ln_fs_le f k
    show (if ln_fs f k < k then ln_fs f k else if f k then k else k + 1) ≤ k + 1
    split
    · omega
    · split <;> omega
theorem ln_fs_yes {f : Nat → Bool} : ∀ {k : Nat}, ln_fs f k < k → f (ln_fs f k) = true
  | 0, h => absurd h (Nat.not_lt_zero _)
  | k + 1, h => by
    have e : ln_fs f (k + 1) = if ln_fs f k < k then ln_fs f k else if f k then k else k + 1 := rfl
    rw [e] at h ⊢
    by_cases h1 : ln_fs f k < k
    · rw [if_pos h1]; exact ln_fs_yes h1
    · rw [if_neg h1] at h ⊢
      cases hf : f k with
      | true => simpa using hf
      | false => rw [hf] at h; exact absurd h (by simp)
theorem ln_fs_no {f : Nat → Bool} : ∀ {k j : Nat}, j < ln_fs f k → f j = false
  | 0, j, h => absurd h (Nat.not_lt_zero j)
  | k + 1, j, h => by
    have e : ln_fs f (k + 1) = if ln_fs f k < k then ln_fs f k else if f k then k else k + 1 := rfl
    rw [e] at h
    by_cases h1 : ln_fs f k < k
    · rw [if_pos h1] at h; exact ln_fs_no h
    · rw [if_neg h1] at h
      have h2 : ln_fs f k = k := by have := ln_fs_le f k; omega
      by_cases hj : j < k
      · exact ln_fs_no (k := k) (by omega)
      · cases hf : f k with
        | true => rw [hf] at h; simp at h; omega
        | false => rw [hf] at h; simp at h; rw [show j = k by omega]; exact hf
theorem ln_fs_cong {f g : Nat → Bool} : ∀ {k : Nat}, (∀ j, j < k → f j = g j) → ln_fs f k = ln_fs g k
  | 0, _ => rfl
  | k + 1, h => by
    show (if ln_fs f k < k then ln_fs f k else if f k then k else k + 1) = (if ln_fs g k < k then ln_fs g k else if g k then k else k + 1)
    rw [ln_fs_cong (fun j hj => h j (by omega)), h k (by omega)]
def ln_fr (f : Nat → Bool) (k : Nat) : Int32 := if ln_fs f k < k then nI (ln_fs f k) else -1
theorem ln_fr_eq {f : Nat → Bool} {i k : Nat} (hi : f i = true) (hj : ∀ j, j < i → f j = false) (h : i < k) : nI i = ln_fr f k := by
  unfold ln_fr; rw [ln_fs_eq hi hj h, if_pos h]
theorem ln_fr_none {f : Nat → Bool} {k : Nat} (h : ∀ j, j < k → f j = false) : -1 = ln_fr f k := by
  unfold ln_fr; rw [ln_fs_none h, if_neg (by omega)]
theorem ln_fr_cases (f : Nat → Bool) (k : Nat) : (ln_fr f k = nI (ln_fs f k) ∧ ln_fs f k < k) ∨ (ln_fr f k = -1 ∧ ¬ ln_fs f k < k) := by
  unfold ln_fr
  by_cases h : ln_fs f k < k
  · exact Or.inl ⟨if_pos h, h⟩
  · exact Or.inr ⟨if_neg h, h⟩
def ln_stb (N : ln_N) (r S p : Nat) : Nat → Bool := fun t => (ln_st N r S t).testBit p
def ln_cm (N : ln_N) (r S p : Nat) : Int32 := ln_fr (ln_stb N r S p) (ln_et N r S + 1)
def ln_cb1 (N : ln_N) (on p : Nat) : Nat → Bool := fun q => on.testBit q && decide (ln_df (N 3 q) on = 2 ^ p)
def ln_pw (f : Nat → Bool) (k : Nat) : Nat := if ln_fs f k < k then 2 ^ ln_fs f k else 0
theorem ln_pw_eq {f : Nat → Bool} {i k : Nat} (hi : f i = true) (hj : ∀ j, j < i → f j = false) (h : i < k) : 2 ^ i = ln_pw f k := by
  unfold ln_pw; rw [ln_fs_eq hi hj h, if_pos h]
theorem ln_pw_none {f : Nat → Bool} {k : Nat} (h : ∀ j, j < k → f j = false) : 0 = ln_pw f k := by
  unfold ln_pw; rw [ln_fs_none h, if_neg (by omega)]
def ln_lw (x : Nat) : Nat := ln_pw x.testBit 12
set_option maxRecDepth 100000 in
theorem ln_lw_all : (List.range 4096).all (fun x => decide (nI x &&& (-(nI x)) = nI (ln_lw x))) = true := by decide +kernel
theorem ln_lw_ok {x : Nat} (h : x < 4096) : nI x &&& (-(nI x)) = nI (ln_lw x) := of_decide_eq_true (List.all_eq_true.mp ln_lw_all x (List.mem_range.mpr h))
/-- by what a post was brought on -/
def ln_br (N : ln_N) (r S p : Nat) : Int32 :=
  if ln_fs (ln_stb N r S p) (ln_et N r S + 1) < ln_et N r S + 1 then
    if ln_fs (ln_stb N r S p) (ln_et N r S + 1) = 0 then 0
    else if r = 0 then nI (ln_st N r S (ln_fs (ln_stb N r S p) (ln_et N r S + 1) - 1) &&& N 4 p)
    else if r = 2 ∧ ln_fs (ln_stb N r S p) (ln_et N r S + 1) = 1 then nI (ln_lw (ln_st N r S (ln_fs (ln_stb N r S p) (ln_et N r S + 1) - 1) &&& N 4 p))
    else nI (ln_pw (ln_cb1 N (ln_st N r S (ln_fs (ln_stb N r S p) (ln_et N r S + 1) - 1)) p) (N 0 0))
  else -1
theorem ln_lt_s {f : Nat → Bool} {i : Nat} (h : ∀ j, j < i → f j = false) (h2 : f i = false) : ∀ j, j < i + 1 → f j = false := fun j hj => by
  by_cases e : j = i
  · subst e; exact h2
  · exact h j (by omega)
theorem ln_cb1_t {N : ln_N} {on p q : Nat} (h : on.testBit q = true) (h2 : ln_df (N 3 q) on = 2 ^ p) : ln_cb1 N on p q = true := by unfold ln_cb1; rw [h, decide_eq_true h2]; rfl
theorem ln_cb1_f {N : ln_N} {on p q : Nat} (h : on.testBit q = false) : ln_cb1 N on p q = false := by unfold ln_cb1; rw [h]; rfl
theorem ln_cb1_g {N : ln_N} {on p q : Nat} (h2 : ln_df (N 3 q) on ≠ 2 ^ p) : ln_cb1 N on p q = false := by unfold ln_cb1; rw [decide_eq_false h2, Bool.and_false]
theorem ln_upd_n {f : Nat → Int32} {k j : Nat} {x : Int32} (h : j ≠ k) : upd f k x j = f j := if_neg h
theorem ln_upd_s {f : Nat → Int32} {k : Nat} {x : Int32} : upd f k x k = x := if_pos rfl
set_option maxHeartbeats 4000000 in
set_option maxRecDepth 100000 in
theorem c_X1_onAtEnd (l : Launch) (D : va_G) (g : Nat → ClassId) (a : Nat → Nat) (σ : ln_S) (d : Nat) (N : ln_N) (hW : ln_wf N) (hN : ln_nC N σ) (r S : Nat) (hS : S < 2 ^ N 0 0) (hR : ln_ran N r S (σ 11) (σ 10 0)) (hd : 0 ≤ d) : ln_R l D g (CW a g σ) yX1_onAtEnd (.code yX1_onAtEnd cX1_onAtEnd 1 (some .int)) d [.ref (a 10)] (fun z => z = nI (ln_end N r S)) := by
  have het := ln_et13 N r S
  refine ln_ofR (by decide +kernel) (Nat.le_of_ble_eq_true rfl) (fun prg env rum sta mid args below meth cod ls hr hlk X hP hl => ?_)
  have hl : lv_has ls 1 [(0, .ref (a 10))] := hl
  generalize hQ0 : (MQ below (vp_Si (fun z => z = nI (ln_end N r S))) args sta 0 0 (fun _ => False)) = Q0
  refine lv_aload_n X.1 X.2.1 dX1_onAtEnd_0 rfl (lv_at hl 0 rfl) ?_
  refine gC_10_2 X hP mF_X1_9 dX1_onAtEnd_1 ?_
  refine lv_aload_n X.1 X.2.1 dX1_onAtEnd_4 rfl (lv_at hl 0 rfl) ?_
  refine gC_10_3 X hP (v := nI (ln_et N r S)) hR.1 mF_X1_23 dX1_onAtEnd_5 ?_
  refine lC_11 X hP (by omega) (v := nI (ln_end N r S)) (by rw [hR.2 _ (Nat.le_refl _), ln_st_et]) dX1_onAtEnd_8 ?_
  subst hQ0
  exact ln_retR X hr hlk rfl rfl dX1_onAtEnd_9
set_option maxHeartbeats 4000000 in
set_option maxRecDepth 100000 in
theorem c_X1_tickOf (l : Launch) (D : va_G) (g : Nat → ClassId) (a : Nat → Nat) (σ : ln_S) (d : Nat) (N : ln_N) (hW : ln_wf N) (hN : ln_nC N σ) (r S p : Nat) (hS : S < 2 ^ N 0 0) (hp : p < 12) (hR : ln_ran N r S (σ 11) (σ 10 0)) (hd : 1 ≤ d) : ln_R l D g (CW a g σ) yX1_tickOf (.code yX1_tickOf cX1_tickOf 3 (some .int)) d [.ref (a 10), .int (nI p)] (fun z => z = ln_cm N r S p) := by
  have het := ln_et13 N r S
  refine ln_ofR (by decide +kernel) (Nat.le_of_ble_eq_true rfl) (fun prg env rum sta mid args below meth cod ls hr hlk X hP hl => ?_)
  have hl : lv_has ls 3 [(0, .ref (a 10)), (1, .int (nI p))] := hl
  generalize hQ0 : (MQ below (vp_Si (fun z => z = ln_cm N r S p)) args sta 0 0 (fun _ => False)) = Q0
  refine lv_iconst (v := nI 0) X.1 X.2.1 dX1_tickOf_0 (by decide) ?_
  refine lv_istore_n (lv' := [(2, .int (nI 0)), (0, .ref (a 10)), (1, .int (nI p))]) X.1 X.2.1 dX1_tickOf_1 rfl hl (by decide) rfl (fun ls hl => ?_)
  have L2 : ∀ (K : Nat) (t : Nat), ln_et N r S + 1 - t < K → (t ≤ ln_et N r S + 1) → (∀ j, j < t → ln_stb N r S p j = false) → ∀ ls : Array Slot, lv_has ls 3 [(0, .ref (a 10)), (1, .int (nI p)), (2, .int (nI t))] → W prg l env rum sta mid args below meth cod sta.heap [] 0 0 Q0 (F0 mid 2 ls []) := by
    intro K
    induction K with
    | zero => intro t hm; exact absurd hm (Nat.not_lt_zero _)
    | succ K ih2 =>
      intro t hm2 ht hj ls hl
      refine lv_iload_n X.1 X.2.1 dX1_tickOf_2 rfl (lv_at hl 2 rfl) ?_
      refine lv_aload_n X.1 X.2.1 dX1_tickOf_3 rfl (lv_at hl 0 rfl) ?_
      refine gC_10_3 X hP (v := nI (ln_et N r S)) hR.1 mF_X1_23 dX1_tickOf_4 ?_
      refine rn_gt X (by omega) (by omega) (tgt := 31) dX1_tickOf_7 (by decide) (fun h7 => ?_) (fun h7 => ?_)
      · skip
        refine lv_iconst (v := ((-1))) X.1 X.2.1 dX1_tickOf_31 (by decide) ?_
        subst hQ0
        exact ln_retR X hr hlk rfl (ln_fr_none (fun j hj2 => hj j (by omega))) dX1_tickOf_32
      · skip
        refine lv_aload_n X.1 X.2.1 dX1_tickOf_10 rfl (lv_at hl 0 rfl) ?_
        refine gC_10_2 X hP mF_X1_9 dX1_tickOf_11 ?_
        refine lv_iload_n X.1 X.2.1 dX1_tickOf_14 rfl (lv_at hl 2 rfl) ?_
        refine lC_11 X hP (by omega) (v := nI (ln_st N r S t)) (hR.2 t (by omega)) dX1_tickOf_15 ?_
        refine lv_iload_n X.1 X.2.1 dX1_tickOf_16 rfl (lv_at hl 1 rfl) ?_
        refine ln_nR X (c_X9_hasPost l D g 0 (ln_st N r S t) p (ln_31 (ln_st12 hW r hS t)) (by omega) (Nat.le_refl _)) ln_nil mM_X1_39 Y_X9_hasPost rfl (by omega) hl.1 rfl (Nat.le_of_ble_eq_true rfl) dX1_tickOf_17 ⟨Nat.zero_le _, Nat.zero_le _⟩ (fun r17 hr17 => ?_)
        subst hr17
        refine rn_eqB X (tgt := 25) dX1_tickOf_20 (by decide) (fun h20 => ?_) (fun h20 => ?_)
        · skip
          refine lv_iinc (v := nI (t + 1)) (lv' := [(2, .int (nI (t + 1))), (0, .ref (a 10)), (1, .int (nI p))]) X.1 X.2.1 dX1_tickOf_25 hl (k := 2) rfl rn_inc (by decide) rfl (fun ls hl => ?_)
          refine lv_goto (tgt := 2) X.1 X.2.1 dX1_tickOf_28 (by decide) ?_
          exact ih2 (t + 1) (by omega) (by omega) (ln_lt_s hj h20) ls (lv_sub hl [1, 2, 0] rfl)
        · skip
          refine lv_iload_n X.1 X.2.1 dX1_tickOf_23 rfl (lv_at hl 2 rfl) ?_
          subst hQ0
          exact ln_retR X hr hlk rfl (ln_fr_eq h20 hj (by omega)) dX1_tickOf_24
  exact L2 _ 0 (Nat.lt_succ_self _) (Nat.zero_le _) (fun j hj => absurd hj (Nat.not_lt_zero j)) ls (lv_sub hl [1, 2, 0] rfl)
set_option maxHeartbeats 4000000 in
set_option maxRecDepth 100000 in
theorem c_X1_leastForcing (l : Launch) (D : va_G) (g : Nat → ClassId) (a : Nat → Nat) (σ : ln_S) (d : Nat) (N : ln_N) (hW : ln_wf N) (hN : ln_nC N σ) (p on : Nat) (hp : p < 12) (hS : on < 4096) (hd : 1 ≤ d) : ln_R l D g (CW a g σ) yX1_leastForcing (.code yX1_leastForcing cX1_leastForcing 4 (some .int)) d [.ref (a 10), .int (nI p), .int (nI on)] (fun z => z = nI (ln_pw (ln_cb1 N on p) (N 0 0))) := by
  have hN12 := hW.n12
  have hp12 := hW.p12
  refine ln_ofR (by decide +kernel) (Nat.le_of_ble_eq_true rfl) (fun prg env rum sta mid args below meth cod ls hr hlk X hP hl => ?_)
  have hl : lv_has ls 4 [(0, .ref (a 10)), (1, .int (nI p)), (2, .int (nI on))] := hl
  generalize hQ0 : (MQ below (vp_Si (fun z => z = nI (ln_pw (ln_cb1 N on p) (N 0 0)))) args sta 0 0 (fun _ => False)) = Q0
  refine lv_iconst (v := nI 0) X.1 X.2.1 dX1_leastForcing_0 (by decide) ?_
  refine lv_istore_n (lv' := [(3, .int (nI 0)), (0, .ref (a 10)), (1, .int (nI p)), (2, .int (nI on))]) X.1 X.2.1 dX1_leastForcing_1 rfl hl (by decide) rfl (fun ls hl => ?_)
  have L2 : ∀ (K : Nat) (q : Nat), N 0 0 - q < K → (q ≤ N 0 0) → (∀ j, j < q → ln_cb1 N on p j = false) → ∀ ls : Array Slot, lv_has ls 4 [(0, .ref (a 10)), (1, .int (nI p)), (2, .int (nI on)), (3, .int (nI q))] → W prg l env rum sta mid args below meth cod sta.heap [] 0 0 Q0 (F0 mid 2 ls []) := by
    intro K
    induction K with
    | zero => intro q hm; exact absurd hm (Nat.not_lt_zero _)
    | succ K ih2 =>
      intro q hm2 hq hj ls hl
      refine lv_iload_n X.1 X.2.1 dX1_leastForcing_2 rfl (lv_at hl 3 rfl) ?_
      refine lv_aload_n X.1 X.2.1 dX1_leastForcing_3 rfl (lv_at hl 0 rfl) ?_
      refine gC_10_0 X hP mF_X1_15 dX1_leastForcing_4 ?_
      refine nC_1_0 X hP (v := nI (N 0 0)) hN.n mF_X1_52 dX1_leastForcing_7 ?_
      refine rn_ge X (by omega) (by omega) (tgt := 50) dX1_leastForcing_10 (by decide) (fun h10 => ?_) (fun h10 => ?_)
      · skip
        refine lv_iconst (v := nI 0) X.1 X.2.1 dX1_leastForcing_50 (by decide) ?_
        subst hQ0
        exact ln_retR X hr hlk rfl (by rw [← ln_pw_none (fun j hj2 => hj j (by omega))]) dX1_leastForcing_51
      · skip
        refine lv_iload_n X.1 X.2.1 dX1_leastForcing_13 rfl (lv_at hl 2 rfl) ?_
        refine lv_iload_n X.1 X.2.1 dX1_leastForcing_14 rfl (lv_at hl 3 rfl) ?_
        refine ln_nR X (c_X9_hasPost l D g 0 on q (ln_31 hS) (by omega) (Nat.le_refl _)) ln_nil mM_X1_39 Y_X9_hasPost rfl (by omega) hl.1 rfl (Nat.le_of_ble_eq_true rfl) dX1_leastForcing_15 ⟨Nat.zero_le _, Nat.zero_le _⟩ (fun r15 hr15 => ?_)
        subst hr15
        refine rn_eqB X (tgt := 44) dX1_leastForcing_18 (by decide) (fun h18 => ?_) (fun h18 => ?_)
        · skip
          refine lv_iinc (v := nI (q + 1)) (lv' := [(3, .int (nI (q + 1))), (0, .ref (a 10)), (1, .int (nI p)), (2, .int (nI on))]) X.1 X.2.1 dX1_leastForcing_44 hl (k := 3) rfl rn_inc (by decide) rfl (fun ls hl => ?_)
          refine lv_goto (tgt := 2) X.1 X.2.1 dX1_leastForcing_47 (by decide) ?_
          exact ih2 (q + 1) (by omega) (by omega) (ln_lt_s hj (by first | exact ln_cb1_f h18 | exact ln_cb1_g h37)) ls (lv_sub hl [1, 2, 3, 0] rfl)
        · skip
          refine lv_aload_n X.1 X.2.1 dX1_leastForcing_21 rfl (lv_at hl 0 rfl) ?_
          refine gC_10_0 X hP mF_X1_15 dX1_leastForcing_22 ?_
          refine nC_1_6 X hP mF_X1_55 dX1_leastForcing_25 ?_
          refine lv_iload_n X.1 X.2.1 dX1_leastForcing_28 rfl (lv_at hl 3 rfl) ?_
          refine lC_5 X hP (by omega) (v := nI (N 3 q)) (hN.bh (by omega)) dX1_leastForcing_29 ?_
          refine lv_iload_n X.1 X.2.1 dX1_leastForcing_30 rfl (lv_at hl 2 rfl) ?_
          refine lv_iconst (v := ((-1))) X.1 X.2.1 dX1_leastForcing_31 (by decide) ?_
          refine lv_ixor X.1 X.2.1 dX1_leastForcing_32 ?_
          refine rn_nt X dX1_leastForcing_33 ?_
          refine lv_iconst (v := nI 1) X.1 X.2.1 dX1_leastForcing_34 (by decide) ?_
          refine lv_iload_n X.1 X.2.1 dX1_leastForcing_35 rfl (lv_at hl 1 rfl) ?_
          refine rn_shl X (by omega) dX1_leastForcing_36 ?_
          refine rn_ne X (ln_31 (ln_df_lt (hW.bh12 _))) (ln_31 (ln_p12 (by omega))) (tgt := 44) dX1_leastForcing_37 (by decide) (fun h37 => ?_) (fun h37 => ?_)
          · skip
            refine lv_iinc (v := nI (q + 1)) (lv' := [(3, .int (nI (q + 1))), (0, .ref (a 10)), (1, .int (nI p)), (2, .int (nI on))]) X.1 X.2.1 dX1_leastForcing_44 hl (k := 3) rfl rn_inc (by decide) rfl (fun ls hl => ?_)
            refine lv_goto (tgt := 2) X.1 X.2.1 dX1_leastForcing_47 (by decide) ?_
            exact ih2 (q + 1) (by omega) (by omega) (ln_lt_s hj (by first | exact ln_cb1_f h18 | exact ln_cb1_g h37)) ls (lv_sub hl [1, 2, 3, 0] rfl)
          · skip
            refine lv_iconst (v := nI 1) X.1 X.2.1 dX1_leastForcing_40 (by decide) ?_
            refine lv_iload_n X.1 X.2.1 dX1_leastForcing_41 rfl (lv_at hl 3 rfl) ?_
            refine rn_shl X (by omega) dX1_leastForcing_42 ?_
            subst hQ0
            exact ln_retR X hr hlk rfl (by rw [ln_pw_eq (ln_cb1_t h18 h37) hj (by omega)]) dX1_leastForcing_43
  exact L2 _ 0 (Nat.lt_succ_self _) (Nat.zero_le _) (fun j hj => absurd hj (Nat.not_lt_zero j)) ls (lv_sub hl [1, 2, 3, 0] rfl)
set_option maxHeartbeats 4000000 in
set_option maxRecDepth 100000 in
theorem c_X1_bringersOf (l : Launch) (D : va_G) (g : Nat → ClassId) (a : Nat → Nat) (σ : ln_S) (d : Nat) (N : ln_N) (hW : ln_wf N) (hN : ln_nC N σ) (r S p : Nat) (hr3 : r < 3) (hS : S < 2 ^ N 0 0) (hp : p < N 0 0) (hR : ln_ran N r S (σ 11) (σ 10 0)) (hd : 2 ≤ d) : ln_R l D g (CW a g σ) yX1_bringersOf (.code yX1_bringersOf cX1_bringersOf 6 (some .int)) d [.ref (a 10), .int (nI r), .int (nI p)] (fun z => z = ln_br N r S p) := by
  have hN12 := hW.n12
  have hp12 := hW.p12
  have het := ln_et13 N r S
  refine ln_ofR (by decide +kernel) (Nat.le_of_ble_eq_true rfl) (fun prg env rum sta mid args below meth cod ls hr hlk X hP hl => ?_)
  have hl : lv_has ls 6 [(0, .ref (a 10)), (1, .int (nI r)), (2, .int (nI p))] := hl
  generalize hQ0 : (MQ below (vp_Si (fun z => z = ln_br N r S p)) args sta 0 0 (fun _ => False)) = Q0
  refine lv_aload_n X.1 X.2.1 dX1_bringersOf_0 rfl (lv_at hl 0 rfl) ?_
  refine lv_iload_n X.1 X.2.1 dX1_bringersOf_1 rfl (lv_at hl 2 rfl) ?_
  refine ln_vR X (c_X1_tickOf l D g a σ 1 N hW hN r S p hS (by omega) hR (Nat.le_refl _)) hP 10 rfl rfl mM_X1_43 Y_X1_tickOf rfl (by omega) hl.1 rfl (Nat.le_of_ble_eq_true rfl) dX1_bringersOf_2 ⟨Nat.zero_le _, Nat.zero_le _⟩ (fun r2 hr2 => ?_)
  subst hr2
  rcases ln_fr_cases (ln_stb N r S p) (ln_et N r S + 1) with ⟨ez, c1⟩ | ⟨ez, c1⟩
  · refine rn_top (y := nI (ln_fs (ln_stb N r S p) (ln_et N r S + 1))) ez ?_
    refine lv_istore_n (lv' := [(3, .int (nI (ln_fs (ln_stb N r S p) (ln_et N r S + 1)))), (0, .ref (a 10)), (1, .int (nI r)), (2, .int (nI p))]) X.1 X.2.1 dX1_bringersOf_5 rfl hl (by decide) rfl (fun ls hl => ?_)
    refine lv_iload_n X.1 X.2.1 dX1_bringersOf_6 rfl (lv_at hl 0 rfl) ?_
    refine rn_ge0 X (by omega) (tgt := 12) dX1_bringersOf_7 (by decide) ?_
    refine lv_iload_n X.1 X.2.1 dX1_bringersOf_12 rfl (lv_at hl 0 rfl) ?_
    refine rn_ne0 X (by omega) (tgt := 18) dX1_bringersOf_13 (by decide) (fun h13 => ?_) (fun h13 => ?_)
    · skip
      refine lv_aload_n X.1 X.2.1 dX1_bringersOf_18 rfl (lv_at hl 1 rfl) ?_
      refine gC_10_2 X hP mF_X1_9 dX1_bringersOf_19 ?_
      refine lv_iload_n X.1 X.2.1 dX1_bringersOf_22 rfl (lv_at hl 0 rfl) ?_
      refine lv_iconst (v := nI 1) X.1 X.2.1 dX1_bringersOf_23 (by decide) ?_
      refine rn_sub X (by omega) dX1_bringersOf_24 ?_
      refine lC_11 X hP (by omega) (v := nI (ln_st N r S (ln_fs (ln_stb N r S p) (ln_et N r S + 1) - 1))) (hR.2 _ (by omega)) dX1_bringersOf_25 ?_
      refine lv_istore (lv' := [(4, .int (nI (ln_st N r S (ln_fs (ln_stb N r S p) (ln_et N r S + 1) - 1)))), (3, .int (nI (ln_fs (ln_stb N r S p) (ln_et N r S + 1)))), (0, .ref (a 10)), (1, .int (nI r)), (2, .int (nI p))]) X.1 X.2.1 dX1_bringersOf_26 hl (by decide) rfl (fun ls hl => ?_)
      refine lv_iload X.1 X.2.1 dX1_bringersOf_28 (lv_at hl 0 rfl) ?_
      refine lv_aload_n X.1 X.2.1 dX1_bringersOf_30 rfl (lv_at hl 2 rfl) ?_
      refine gC_10_0 X hP mF_X1_15 dX1_bringersOf_31 ?_
      refine nC_1_7 X hP mF_X1_46 dX1_bringersOf_34 ?_
      refine lv_iload_n X.1 X.2.1 dX1_bringersOf_37 rfl (lv_at hl 4 rfl) ?_
      refine lC_6 X hP (by omega) (v := nI (N 4 p)) (hN.ah (by omega)) dX1_bringersOf_38 ?_
      refine rn_and X dX1_bringersOf_39 ?_
      refine lv_istore (lv' := [(5, .int (nI ((ln_st N r S (ln_fs (ln_stb N r S p) (ln_et N r S + 1) - 1)) &&& (N 4 p)))), (4, .int (nI (ln_st N r S (ln_fs (ln_stb N r S p) (ln_et N r S + 1) - 1)))), (3, .int (nI (ln_fs (ln_stb N r S p) (ln_et N r S + 1)))), (0, .ref (a 10)), (1, .int (nI r)), (2, .int (nI p))]) X.1 X.2.1 dX1_bringersOf_40 hl (by decide) rfl (fun ls hl => ?_)
      refine lv_iload_n X.1 X.2.1 dX1_bringersOf_42 rfl (lv_at hl 4 rfl) ?_
      refine rn_ne0 X (by omega) (tgt := 49) dX1_bringersOf_43 (by decide) (fun h43 => ?_) (fun h43 => ?_)
      · skip
        refine lv_iload_n X.1 X.2.1 dX1_bringersOf_49 rfl (lv_at hl 4 rfl) ?_
        refine lv_iconst (v := nI 2) X.1 X.2.1 dX1_bringersOf_50 (by decide) ?_
        refine rn_ne X (by omega) (by decide) (tgt := 68) dX1_bringersOf_51 (by decide) (fun h51 => ?_) (fun h51 => ?_)
        · skip
          refine lv_aload_n X.1 X.2.1 dX1_bringersOf_68 rfl (lv_at hl 3 rfl) ?_
          refine lv_iload_n X.1 X.2.1 dX1_bringersOf_69 rfl (lv_at hl 5 rfl) ?_
          refine lv_iload X.1 X.2.1 dX1_bringersOf_70 (lv_at hl 1 rfl) ?_
          refine ln_vR X (c_X1_leastForcing l D g a σ 1 N hW hN p (ln_st N r S (ln_fs (ln_stb N r S p) (ln_et N r S + 1) - 1)) (by omega) (ln_st12 hW r hS _) (Nat.le_refl _)) hP 10 rfl rfl mM_X1_49 Y_X1_leastForcing rfl (by omega) hl.1 rfl (Nat.le_of_ble_eq_true rfl) dX1_bringersOf_72 ⟨Nat.zero_le _, Nat.zero_le _⟩ (fun r72 hr72 => ?_)
          subst hr72
          subst hQ0
          exact ln_retR X hr hlk rfl (by unfold ln_br; rw [if_pos c1, if_neg h13, if_neg h43]; first | rw [if_neg (show ¬ (r = 2 ∧ ln_fs (ln_stb N r S p) (ln_et N r S + 1) = 1) by omega)] | rw [if_pos (show r = 2 ∧ ln_fs (ln_stb N r S p) (ln_et N r S + 1) = 1 from And.intro h51 h56)]) dX1_bringersOf_75
        · skip
          refine lv_iload_n X.1 X.2.1 dX1_bringersOf_54 rfl (lv_at hl 2 rfl) ?_
          refine lv_iconst (v := nI 1) X.1 X.2.1 dX1_bringersOf_55 (by decide) ?_
          refine rn_ne X (by omega) (by decide) (tgt := 68) dX1_bringersOf_56 (by decide) (fun h56 => ?_) (fun h56 => ?_)
          · skip
            refine lv_aload_n X.1 X.2.1 dX1_bringersOf_68 rfl (lv_at hl 3 rfl) ?_
            refine lv_iload_n X.1 X.2.1 dX1_bringersOf_69 rfl (lv_at hl 5 rfl) ?_
            refine lv_iload X.1 X.2.1 dX1_bringersOf_70 (lv_at hl 1 rfl) ?_
            refine ln_vR X (c_X1_leastForcing l D g a σ 1 N hW hN p (ln_st N r S (ln_fs (ln_stb N r S p) (ln_et N r S + 1) - 1)) (by omega) (ln_st12 hW r hS _) (Nat.le_refl _)) hP 10 rfl rfl mM_X1_49 Y_X1_leastForcing rfl (by omega) hl.1 rfl (Nat.le_of_ble_eq_true rfl) dX1_bringersOf_72 ⟨Nat.zero_le _, Nat.zero_le _⟩ (fun r72 hr72 => ?_)
            subst hr72
            subst hQ0
            exact ln_retR X hr hlk rfl (by unfold ln_br; rw [if_pos c1, if_neg h13, if_neg h43]; first | rw [if_neg (show ¬ (r = 2 ∧ ln_fs (ln_stb N r S p) (ln_et N r S + 1) = 1) by omega)] | rw [if_pos (show r = 2 ∧ ln_fs (ln_stb N r S p) (ln_et N r S + 1) = 1 from And.intro h51 h56)]) dX1_bringersOf_75
          · skip
            refine lv_iload X.1 X.2.1 dX1_bringersOf_59 (lv_at hl 0 rfl) ?_
            refine lv_iload X.1 X.2.1 dX1_bringersOf_61 (lv_at hl 0 rfl) ?_
            refine lv_ineg X.1 X.2.1 dX1_bringersOf_63 ?_
            refine lv_iand X.1 X.2.1 dX1_bringersOf_64 ?_
            refine rn_top (y := nI (ln_lw (ln_st N r S (ln_fs (ln_stb N r S p) (ln_et N r S + 1) - 1) &&& N 4 p))) (ln_lw_ok (ln_and_lt (ln_st12 hW r hS _))) ?_
            refine lv_goto (tgt := 75) X.1 X.2.1 dX1_bringersOf_65 (by decide) ?_
            subst hQ0
            exact ln_retR X hr hlk rfl (by unfold ln_br; rw [if_pos c1, if_neg h13, if_neg h43]; first | rw [if_neg (show ¬ (r = 2 ∧ ln_fs (ln_stb N r S p) (ln_et N r S + 1) = 1) by omega)] | rw [if_pos (show r = 2 ∧ ln_fs (ln_stb N r S p) (ln_et N r S + 1) = 1 from And.intro h51 h56)]) dX1_bringersOf_75
      · skip
        refine lv_iload X.1 X.2.1 dX1_bringersOf_46 (lv_at hl 0 rfl) ?_
        subst hQ0
        exact ln_retR X hr hlk rfl (by unfold ln_br; rw [if_pos c1, if_neg h13, if_pos h43]) dX1_bringersOf_48
    · skip
      refine lv_iconst (v := nI 0) X.1 X.2.1 dX1_bringersOf_16 (by decide) ?_
      subst hQ0
      exact ln_retR X hr hlk rfl (by unfold ln_br; rw [if_pos c1, if_pos h13]; rfl) dX1_bringersOf_17
  · refine rn_top (y := ((-1))) ez ?_
    refine lv_istore_n (lv' := [(3, .int ((-1))), (0, .ref (a 10)), (1, .int (nI r)), (2, .int (nI p))]) X.1 X.2.1 dX1_bringersOf_5 rfl hl (by decide) rfl (fun ls hl => ?_)
    refine lv_iload_n X.1 X.2.1 dX1_bringersOf_6 rfl (lv_at hl 0 rfl) ?_
    refine lv_if_ge (tgt := 12) X.1 X.2.1 dX1_bringersOf_7 (by decide) (fun h7 => absurd h7 (by decide)) (fun h7 => ?_)
    refine lv_iconst (v := ((-1))) X.1 X.2.1 dX1_bringersOf_10 (by decide) ?_
    subst hQ0
    exact ln_retR X hr hlk rfl (by unfold ln_br; rw [if_neg c1]) dX1_bringersOf_11
set_option maxHeartbeats 4000000 in
set_option maxRecDepth 100000 in
theorem c_X1_follow (l : Launch) (D : va_G) (g : Nat → ClassId) (a : Nat → Nat) (σ : ln_S) (d : Nat) (N : ln_N) (hW : ln_wf N) (hN : ln_nC N σ) (r S : Nat) (hr3 : r < 3) (hS : S < 2 ^ N 0 0) (hd : 3 ≤ d) : ln_V l D g (CW a g) yX1_follow (.code yX1_follow cX1_follow 6 none) d [.ref (a 10), .int (nI r), .int (nI S)] σ (fun τ => ln_ran N r S (τ 11) (τ 10 0) ∧ ∀ c, c ≠ 10 → c ≠ 11 → τ c = σ c) := by
  have hN12 := hW.n12
  have hp12 := hW.p12
  refine ln_ofV (by decide +kernel) (Nat.le_of_ble_eq_true rfl) (fun prg env rum sta mid args below meth cod ls A hr hlk X hA hP hDw hSw hl => ?_)
  have hl : lv_has ls 6 [(0, .ref (a 10)), (1, .int (nI r)), (2, .int (nI S))] := hl
  generalize hQ0 : (MQ below (va_Qv (fun τ => ln_ran N r S (τ 11) (τ 10 0) ∧ ∀ c, c ≠ 10 → c ≠ 11 → τ c = σ c) (fun τ t => va_P D ln_cl (CW a g τ) t.heap) A) args sta 0 0 A) = Q0
  obtain ⟨H, hH⟩ : ∃ H, H = sta.heap := ⟨_, rfl⟩
  obtain ⟨locs, hlo⟩ : ∃ x : List Loc, x = [] := ⟨_, rfl⟩
  rw [← hH] at hP
  have hSw : va_S A sta.heap H locs := by rw [hH, hlo]; exact hSw
  have goal : W prg l env rum sta mid args below meth cod H locs 0 0 Q0 (F0 mid 0 ls []) := ?_
  · rw [hH, hlo] at goal; exact goal
  clear hlo
  refine lv_aload_n X.1 X.2.1 dX1_follow_0 rfl (lv_at hl 0 rfl) ?_
  refine gC_10_2 X hP mF_X1_9 dX1_follow_1 ?_
  refine lv_iconst (v := nI 0) X.1 X.2.1 dX1_follow_4 (by decide) ?_
  refine lv_iload_n X.1 X.2.1 dX1_follow_5 rfl (lv_at hl 2 rfl) ?_
  refine sC_11 X hP hDw hSw (by decide) dX1_follow_6 (fun H locs hP hDw hSw => ?_)
  obtain ⟨σ1, hσ1⟩ : ∃ z : ln_S, z = (ln_up σ 11 (upd (σ 11) 0 (nI S))) := ⟨_, rfl⟩
  rw [← hσ1] at hP hDw
  refine lv_aload_n X.1 X.2.1 dX1_follow_7 rfl (lv_at hl 0 rfl) ?_
  refine lv_iconst (v := nI 0) X.1 X.2.1 dX1_follow_8 (by decide) ?_
  refine pC_10_3 X hP hDw hSw mF_X1_23 dX1_follow_9 (fun H locs hP hDw hSw => ?_)
  obtain ⟨σ2, hσ2⟩ : ∃ z : ln_S, z = (ln_up σ1 10 (upd (σ1 10) 0 (nI 0))) := ⟨_, rfl⟩
  rw [← hσ2] at hP hDw
  refine lv_iconst (v := nI 1) X.1 X.2.1 dX1_follow_12 (by decide) ?_
  refine lv_istore_n (lv' := [(3, .int (nI 1)), (0, .ref (a 10)), (1, .int (nI r)), (2, .int (nI S))]) X.1 X.2.1 dX1_follow_13 rfl hl (by decide) rfl (fun ls hl => ?_)
  have L14 : ∀ (K : Nat) (t : Nat) (τ : ln_S) (H : Heap) (locs : List Loc), 13 - t < K → (t ≤ 13) → (∀ j, j ≤ t → τ 11 j = nI (ln_st N r S j)) → (τ 10 0 = nI (ln_lc (ln_st N r S) t)) → (∀ c, c ≠ 10 → c ≠ 11 → τ c = σ c) → va_P D ln_cl (CW a g τ) H → va_D A (CW a g τ) → va_S A sta.heap H locs → ∀ ls : Array Slot, lv_has ls 6 [(0, .ref (a 10)), (1, .int (nI r)), (3, .int (nI (t + 1)))] → W prg l env rum sta mid args below meth cod H locs 0 0 Q0 (F0 mid 14 ls []) := by
    intro K
    induction K with
    | zero => intro t τ H locs hm; exact absurd hm (Nat.not_lt_zero _)
    | succ K ih14 =>
      intro t τ H locs hm14 ht hj he ho hP hDw hSw ls hl
      have hN : ln_nC N τ := hN.of (fun c hc => ho c (by omega) (by omega))
      refine lv_iload_n X.1 X.2.1 dX1_follow_14 rfl (lv_at hl 2 rfl) ?_
      refine lv_aload_n X.1 X.2.1 dX1_follow_15 rfl (lv_at hl 0 rfl) ?_
      refine gC_10_2 X hP mF_X1_9 dX1_follow_16 ?_
      refine va_alen X.1 X.2.1 X.2.2.2.2.1 hP 11 0 rfl rfl (v := nI 14) rfl dX1_follow_19 ?_
      refine rn_ge X (by omega) (by decide) (tgt := 114) dX1_follow_20 (by decide) (fun h20 => ?_) (fun h20 => ?_)
      · skip
        subst hQ0
        exact ln_retV X hr hlk hP hSw (by rw [show t = 13 by omega] at he hj; exact ⟨⟨he, fun j hq => hj j (by have := ln_et13 N r S; omega)⟩, ho⟩) dX1_follow_114
      · skip
        have ht12 : t ≤ 12 := by omega
        refine lv_aload_n X.1 X.2.1 dX1_follow_23 rfl (lv_at hl 0 rfl) ?_
        refine gC_10_2 X hP mF_X1_9 dX1_follow_24 ?_
        refine lv_iload_n X.1 X.2.1 dX1_follow_27 rfl (lv_at hl 2 rfl) ?_
        refine lv_iconst (v := nI 1) X.1 X.2.1 dX1_follow_28 (by decide) ?_
        refine rn_sub X (by omega) dX1_follow_29 ?_
        refine rn_top (y := nI t) rfl ?_
        refine lC_11 X hP (by omega) (v := nI (ln_st N r S t)) (hj t (Nat.le_refl t)) dX1_follow_30 ?_
        refine lv_istore (lv' := [(4, .int (nI (ln_st N r S t))), (0, .ref (a 10)), (1, .int (nI r)), (3, .int (nI (t + 1)))]) X.1 X.2.1 dX1_follow_31 hl (by decide) rfl (fun ls hl => ?_)
        refine lv_iload_n X.1 X.2.1 dX1_follow_33 rfl (lv_at hl 2 rfl) ?_
        refine lv_iconst (v := nI 2) X.1 X.2.1 dX1_follow_34 (by decide) ?_
        refine rn_ne X (by omega) (by decide) (tgt := 47) dX1_follow_35 (by decide) (fun h35 => ?_) (fun h35 => ?_)
        · skip
          refine lv_iconst (v := nI 0) X.1 X.2.1 dX1_follow_47 (by decide) ?_
          refine lv_istore (lv' := [(5, .int (nI 0)), (4, .int (nI (ln_st N r S t))), (0, .ref (a 10)), (1, .int (nI r)), (3, .int (nI (t + 1)))]) X.1 X.2.1 dX1_follow_48 hl (by decide) rfl (fun ls hl => ?_)
          refine lv_aload_n X.1 X.2.1 dX1_follow_50 rfl (lv_at hl 2 rfl) ?_
          refine gC_10_2 X hP mF_X1_9 dX1_follow_51 ?_
          refine lv_iload_n X.1 X.2.1 dX1_follow_54 rfl (lv_at hl 4 rfl) ?_
          refine lv_iload X.1 X.2.1 dX1_follow_55 (lv_at hl 0 rfl) ?_
          refine rn_eq0 X (by decide) (tgt := 72) dX1_follow_57 (by decide) (fun _ => ?_) (fun q => absurd (q) (by decide))
          refine lv_aload_n X.1 X.2.1 dX1_follow_72 rfl (lv_at hl 2 rfl) ?_
          refine gC_10_1 X hP mF_X1_19 dX1_follow_73 ?_
          refine lv_iload_n X.1 X.2.1 dX1_follow_76 rfl (lv_at hl 3 rfl) ?_
          refine lv_iload X.1 X.2.1 dX1_follow_77 (lv_at hl 1 rfl) ?_
          refine ln_vR X (c_X6_afterTick l D g a τ 2 N hW hN r (ln_st N r S t) (by omega) (ln_st12 hW r hS t) (Nat.le_refl _)) hP 7 rfl rfl mM_X1_33 Y_X6_afterTick rfl (by omega) hl.1 rfl (Nat.le_of_ble_eq_true rfl) dX1_follow_79 ⟨Nat.zero_le _, Nat.zero_le _⟩ (fun r79 hr79 => ?_)
          subst hr79
          refine rn_top (y := nI (ln_st N r S (t + 1))) (by show nI (ln_tp N r (ln_st N r S t)) = nI (ln_tk N r (t + 1) (ln_st N r S t)); unfold ln_tk; rw [if_neg (by omega)]) ?_
          refine sC_11 X hP hDw hSw (by omega) dX1_follow_82 (fun H locs hP hDw hSw => ?_)
          obtain ⟨τ1, hτ1⟩ : ∃ z : ln_S, z = (ln_up τ 11 (upd (τ 11) (t + 1) (nI (ln_st N r S (t + 1))))) := ⟨_, rfl⟩
          rw [← hτ1] at hP hDw
          have hj1 : ∀ j, j ≤ t + 1 → τ1 11 j = nI (ln_st N r S j) := fun j hj2 => by
                                  rw [hτ1, ln_up_s]
                                  by_cases e : j = t + 1
                                  · subst e; exact ln_upd_s
                                  · rw [ln_upd_n e]; exact hj j (by omega)
          have he1 : τ1 10 0 = nI (ln_lc (ln_st N r S) t) := by rw [hτ1, ln_up_n _ _ (by decide)]; exact he
          have ho1 : ∀ c, c ≠ 10 → c ≠ 11 → τ1 c = σ c := fun c h1 h2 => by rw [hτ1, ln_up_n _ _ h2]; exact ho c h1 h2
          refine lv_aload_n X.1 X.2.1 dX1_follow_83 rfl (lv_at hl 2 rfl) ?_
          refine gC_10_2 X hP mF_X1_9 dX1_follow_84 ?_
          refine lv_iload_n X.1 X.2.1 dX1_follow_87 rfl (lv_at hl 4 rfl) ?_
          refine lC_11 X hP (by omega) (v := nI (ln_st N r S (t + 1))) (hj1 _ (Nat.le_refl _)) dX1_follow_88 ?_
          refine lv_iload X.1 X.2.1 dX1_follow_89 (lv_at hl 1 rfl) ?_
          refine rn_eq X (ln_31 (ln_st12 hW r hS (t + 1))) (ln_31 (ln_st12 hW r hS t)) (tgt := 102) dX1_follow_91 (by decide) (fun h91 => ?_) (fun h91 => ?_)
          · skip
            refine lv_iload X.1 X.2.1 dX1_follow_102 (lv_at hl 0 rfl) ?_
            refine rn_ne0 X (by decide) (tgt := 108) dX1_follow_104 (by decide) (fun q => absurd q (by decide)) (fun _ => ?_)
            subst hQ0
            exact ln_retV X hr hlk hP hSw ⟨⟨by rw [he1, (ln_stop ht12 (by omega) h91).1], fun j hq => hj1 j (by have := ln_lc_le (ln_st N r S) t; rw [← (ln_stop ht12 (by omega) h91).1] at hq; omega)⟩, ho1⟩ dX1_follow_107
          · skip
            refine lv_aload_n X.1 X.2.1 dX1_follow_94 rfl (lv_at hl 2 rfl) ?_
            refine lv_iload_n X.1 X.2.1 dX1_follow_95 rfl (lv_at hl 4 rfl) ?_
            refine pC_10_3 X hP hDw hSw mF_X1_23 dX1_follow_96 (fun H locs hP hDw hSw => ?_)
            obtain ⟨τ2, hτ2⟩ : ∃ z : ln_S, z = (ln_up τ1 10 (upd (τ1 10) 0 (nI (t + 1)))) := ⟨_, rfl⟩
            rw [← hτ2] at hP hDw
            have hj2 : ∀ j, j ≤ t + 1 → τ2 11 j = nI (ln_st N r S j) := fun j hq => by rw [hτ2, ln_up_n _ _ (by decide)]; exact hj1 j hq
            have he2 : τ2 10 0 = nI (ln_lc (ln_st N r S) (t + 1)) := by rw [hτ2, ln_up_s, ln_upd_s, ln_lc_n h91]
            have ho2 : ∀ c, c ≠ 10 → c ≠ 11 → τ2 c = σ c := fun c h1 h2 => by rw [hτ2, ln_up_n _ _ h1]; exact ho1 c h1 h2
            refine lv_goto (tgt := 108) X.1 X.2.1 dX1_follow_99 (by decide) ?_
            refine lv_iinc (v := nI (t + 1 + 1)) (lv' := [(3, .int (nI (t + 1 + 1))), (5, .int (nI 0)), (4, .int (nI (ln_st N r S t))), (0, .ref (a 10)), (1, .int (nI r))]) X.1 X.2.1 dX1_follow_108 hl (k := 4) rfl rn_inc (by decide) rfl (fun ls hl => ?_)
            refine lv_goto (tgt := 14) X.1 X.2.1 dX1_follow_111 (by decide) ?_
            exact ih14 (t + 1) τ2 H locs (by omega) (by omega) (by first | exact hj2 | exact hj1) (by first | exact he2 | (rw [he1, ln_lc_s h91])) (by first | exact ho2 | exact ho1) hP hDw hSw ls (lv_sub hl [3, 4, 0] rfl)
        · skip
          refine lv_iload_n X.1 X.2.1 dX1_follow_38 rfl (lv_at hl 3 rfl) ?_
          refine lv_iconst (v := nI 1) X.1 X.2.1 dX1_follow_39 (by decide) ?_
          refine rn_ne X (by omega) (by decide) (tgt := 47) dX1_follow_40 (by decide) (fun h40 => ?_) (fun h40 => ?_)
          · skip
            refine lv_iconst (v := nI 0) X.1 X.2.1 dX1_follow_47 (by decide) ?_
            refine lv_istore (lv' := [(5, .int (nI 0)), (4, .int (nI (ln_st N r S t))), (0, .ref (a 10)), (1, .int (nI r)), (3, .int (nI (t + 1)))]) X.1 X.2.1 dX1_follow_48 hl (by decide) rfl (fun ls hl => ?_)
            refine lv_aload_n X.1 X.2.1 dX1_follow_50 rfl (lv_at hl 2 rfl) ?_
            refine gC_10_2 X hP mF_X1_9 dX1_follow_51 ?_
            refine lv_iload_n X.1 X.2.1 dX1_follow_54 rfl (lv_at hl 4 rfl) ?_
            refine lv_iload X.1 X.2.1 dX1_follow_55 (lv_at hl 0 rfl) ?_
            refine rn_eq0 X (by decide) (tgt := 72) dX1_follow_57 (by decide) (fun _ => ?_) (fun q => absurd (q) (by decide))
            refine lv_aload_n X.1 X.2.1 dX1_follow_72 rfl (lv_at hl 2 rfl) ?_
            refine gC_10_1 X hP mF_X1_19 dX1_follow_73 ?_
            refine lv_iload_n X.1 X.2.1 dX1_follow_76 rfl (lv_at hl 3 rfl) ?_
            refine lv_iload X.1 X.2.1 dX1_follow_77 (lv_at hl 1 rfl) ?_
            refine ln_vR X (c_X6_afterTick l D g a τ 2 N hW hN r (ln_st N r S t) (by omega) (ln_st12 hW r hS t) (Nat.le_refl _)) hP 7 rfl rfl mM_X1_33 Y_X6_afterTick rfl (by omega) hl.1 rfl (Nat.le_of_ble_eq_true rfl) dX1_follow_79 ⟨Nat.zero_le _, Nat.zero_le _⟩ (fun r79 hr79 => ?_)
            subst hr79
            refine rn_top (y := nI (ln_st N r S (t + 1))) (by show nI (ln_tp N r (ln_st N r S t)) = nI (ln_tk N r (t + 1) (ln_st N r S t)); unfold ln_tk; rw [if_neg (by omega)]) ?_
            refine sC_11 X hP hDw hSw (by omega) dX1_follow_82 (fun H locs hP hDw hSw => ?_)
            obtain ⟨τ1, hτ1⟩ : ∃ z : ln_S, z = (ln_up τ 11 (upd (τ 11) (t + 1) (nI (ln_st N r S (t + 1))))) := ⟨_, rfl⟩
            rw [← hτ1] at hP hDw
            have hj1 : ∀ j, j ≤ t + 1 → τ1 11 j = nI (ln_st N r S j) := fun j hj2 => by
                                  rw [hτ1, ln_up_s]
                                  by_cases e : j = t + 1
                                  · subst e; exact ln_upd_s
                                  · rw [ln_upd_n e]; exact hj j (by omega)
            have he1 : τ1 10 0 = nI (ln_lc (ln_st N r S) t) := by rw [hτ1, ln_up_n _ _ (by decide)]; exact he
            have ho1 : ∀ c, c ≠ 10 → c ≠ 11 → τ1 c = σ c := fun c h1 h2 => by rw [hτ1, ln_up_n _ _ h2]; exact ho c h1 h2
            refine lv_aload_n X.1 X.2.1 dX1_follow_83 rfl (lv_at hl 2 rfl) ?_
            refine gC_10_2 X hP mF_X1_9 dX1_follow_84 ?_
            refine lv_iload_n X.1 X.2.1 dX1_follow_87 rfl (lv_at hl 4 rfl) ?_
            refine lC_11 X hP (by omega) (v := nI (ln_st N r S (t + 1))) (hj1 _ (Nat.le_refl _)) dX1_follow_88 ?_
            refine lv_iload X.1 X.2.1 dX1_follow_89 (lv_at hl 1 rfl) ?_
            refine rn_eq X (ln_31 (ln_st12 hW r hS (t + 1))) (ln_31 (ln_st12 hW r hS t)) (tgt := 102) dX1_follow_91 (by decide) (fun h91 => ?_) (fun h91 => ?_)
            · skip
              refine lv_iload X.1 X.2.1 dX1_follow_102 (lv_at hl 0 rfl) ?_
              refine rn_ne0 X (by decide) (tgt := 108) dX1_follow_104 (by decide) (fun q => absurd q (by decide)) (fun _ => ?_)
              subst hQ0
              exact ln_retV X hr hlk hP hSw ⟨⟨by rw [he1, (ln_stop ht12 (by omega) h91).1], fun j hq => hj1 j (by have := ln_lc_le (ln_st N r S) t; rw [← (ln_stop ht12 (by omega) h91).1] at hq; omega)⟩, ho1⟩ dX1_follow_107
            · skip
              refine lv_aload_n X.1 X.2.1 dX1_follow_94 rfl (lv_at hl 2 rfl) ?_
              refine lv_iload_n X.1 X.2.1 dX1_follow_95 rfl (lv_at hl 4 rfl) ?_
              refine pC_10_3 X hP hDw hSw mF_X1_23 dX1_follow_96 (fun H locs hP hDw hSw => ?_)
              obtain ⟨τ2, hτ2⟩ : ∃ z : ln_S, z = (ln_up τ1 10 (upd (τ1 10) 0 (nI (t + 1)))) := ⟨_, rfl⟩
              rw [← hτ2] at hP hDw
              have hj2 : ∀ j, j ≤ t + 1 → τ2 11 j = nI (ln_st N r S j) := fun j hq => by rw [hτ2, ln_up_n _ _ (by decide)]; exact hj1 j hq
              have he2 : τ2 10 0 = nI (ln_lc (ln_st N r S) (t + 1)) := by rw [hτ2, ln_up_s, ln_upd_s, ln_lc_n h91]
              have ho2 : ∀ c, c ≠ 10 → c ≠ 11 → τ2 c = σ c := fun c h1 h2 => by rw [hτ2, ln_up_n _ _ h1]; exact ho1 c h1 h2
              refine lv_goto (tgt := 108) X.1 X.2.1 dX1_follow_99 (by decide) ?_
              refine lv_iinc (v := nI (t + 1 + 1)) (lv' := [(3, .int (nI (t + 1 + 1))), (5, .int (nI 0)), (4, .int (nI (ln_st N r S t))), (0, .ref (a 10)), (1, .int (nI r))]) X.1 X.2.1 dX1_follow_108 hl (k := 4) rfl rn_inc (by decide) rfl (fun ls hl => ?_)
              refine lv_goto (tgt := 14) X.1 X.2.1 dX1_follow_111 (by decide) ?_
              exact ih14 (t + 1) τ2 H locs (by omega) (by omega) (by first | exact hj2 | exact hj1) (by first | exact he2 | (rw [he1, ln_lc_s h91])) (by first | exact ho2 | exact ho1) hP hDw hSw ls (lv_sub hl [3, 4, 0] rfl)
          · skip
            refine lv_iconst (v := nI 1) X.1 X.2.1 dX1_follow_43 (by decide) ?_
            refine lv_goto (tgt := 48) X.1 X.2.1 dX1_follow_44 (by decide) ?_
            refine lv_istore (lv' := [(5, .int (nI 1)), (4, .int (nI (ln_st N r S t))), (0, .ref (a 10)), (1, .int (nI r)), (3, .int (nI (t + 1)))]) X.1 X.2.1 dX1_follow_48 hl (by decide) rfl (fun ls hl => ?_)
            refine lv_aload_n X.1 X.2.1 dX1_follow_50 rfl (lv_at hl 2 rfl) ?_
            refine gC_10_2 X hP mF_X1_9 dX1_follow_51 ?_
            refine lv_iload_n X.1 X.2.1 dX1_follow_54 rfl (lv_at hl 4 rfl) ?_
            refine lv_iload X.1 X.2.1 dX1_follow_55 (lv_at hl 0 rfl) ?_
            refine rn_eq0 X (by decide) (tgt := 72) dX1_follow_57 (by decide) (fun q => absurd q (by decide)) (fun _ => ?_)
            refine lv_aload_n X.1 X.2.1 dX1_follow_60 rfl (lv_at hl 2 rfl) ?_
            refine gC_10_0 X hP mF_X1_15 dX1_follow_61 ?_
            refine lv_iload X.1 X.2.1 dX1_follow_64 (lv_at hl 1 rfl) ?_
            refine ln_vR X (c_X4_withBehind l D g a τ 1 N hW hN (ln_st N r S t) (ln_st12 hW r hS t) (Nat.le_refl _)) hP 1 rfl rfl mM_X1_27 Y_X4_withBehind rfl (by omega) hl.1 rfl (Nat.le_of_ble_eq_true rfl) dX1_follow_66 ⟨Nat.zero_le _, Nat.zero_le _⟩ (fun r66 hr66 => ?_)
            subst hr66
            refine rn_top (y := nI (ln_st N r S (t + 1))) (by show nI (ln_wb N (ln_st N r S t)) = nI (ln_tk N r (t + 1) (ln_st N r S t)); unfold ln_tk; rw [if_pos ⟨h35, h40⟩]) ?_
            refine lv_goto (tgt := 82) X.1 X.2.1 dX1_follow_69 (by decide) ?_
            refine sC_11 X hP hDw hSw (by omega) dX1_follow_82 (fun H locs hP hDw hSw => ?_)
            obtain ⟨τ1, hτ1⟩ : ∃ z : ln_S, z = (ln_up τ 11 (upd (τ 11) (t + 1) (nI (ln_st N r S (t + 1))))) := ⟨_, rfl⟩
            rw [← hτ1] at hP hDw
            have hj1 : ∀ j, j ≤ t + 1 → τ1 11 j = nI (ln_st N r S j) := fun j hj2 => by
                                  rw [hτ1, ln_up_s]
                                  by_cases e : j = t + 1
                                  · subst e; exact ln_upd_s
                                  · rw [ln_upd_n e]; exact hj j (by omega)
            have he1 : τ1 10 0 = nI (ln_lc (ln_st N r S) t) := by rw [hτ1, ln_up_n _ _ (by decide)]; exact he
            have ho1 : ∀ c, c ≠ 10 → c ≠ 11 → τ1 c = σ c := fun c h1 h2 => by rw [hτ1, ln_up_n _ _ h2]; exact ho c h1 h2
            refine lv_aload_n X.1 X.2.1 dX1_follow_83 rfl (lv_at hl 2 rfl) ?_
            refine gC_10_2 X hP mF_X1_9 dX1_follow_84 ?_
            refine lv_iload_n X.1 X.2.1 dX1_follow_87 rfl (lv_at hl 4 rfl) ?_
            refine lC_11 X hP (by omega) (v := nI (ln_st N r S (t + 1))) (hj1 _ (Nat.le_refl _)) dX1_follow_88 ?_
            refine lv_iload X.1 X.2.1 dX1_follow_89 (lv_at hl 1 rfl) ?_
            refine rn_eq X (ln_31 (ln_st12 hW r hS (t + 1))) (ln_31 (ln_st12 hW r hS t)) (tgt := 102) dX1_follow_91 (by decide) (fun h91 => ?_) (fun h91 => ?_)
            · skip
              refine lv_iload X.1 X.2.1 dX1_follow_102 (lv_at hl 0 rfl) ?_
              refine rn_ne0 X (by decide) (tgt := 108) dX1_follow_104 (by decide) (fun _ => ?_) (fun q => absurd q (by decide))
              refine lv_iinc (v := nI (t + 1 + 1)) (lv' := [(3, .int (nI (t + 1 + 1))), (5, .int (nI 1)), (4, .int (nI (ln_st N r S t))), (0, .ref (a 10)), (1, .int (nI r))]) X.1 X.2.1 dX1_follow_108 hl (k := 4) rfl rn_inc (by decide) rfl (fun ls hl => ?_)
              refine lv_goto (tgt := 14) X.1 X.2.1 dX1_follow_111 (by decide) ?_
              exact ih14 (t + 1) τ1 H locs (by omega) (by omega) (by first | exact hj2 | exact hj1) (by first | exact he2 | (rw [he1, ln_lc_s h91])) (by first | exact ho2 | exact ho1) hP hDw hSw ls (lv_sub hl [3, 4, 0] rfl)
            · skip
              refine lv_aload_n X.1 X.2.1 dX1_follow_94 rfl (lv_at hl 2 rfl) ?_
              refine lv_iload_n X.1 X.2.1 dX1_follow_95 rfl (lv_at hl 4 rfl) ?_
              refine pC_10_3 X hP hDw hSw mF_X1_23 dX1_follow_96 (fun H locs hP hDw hSw => ?_)
              obtain ⟨τ2, hτ2⟩ : ∃ z : ln_S, z = (ln_up τ1 10 (upd (τ1 10) 0 (nI (t + 1)))) := ⟨_, rfl⟩
              rw [← hτ2] at hP hDw
              have hj2 : ∀ j, j ≤ t + 1 → τ2 11 j = nI (ln_st N r S j) := fun j hq => by rw [hτ2, ln_up_n _ _ (by decide)]; exact hj1 j hq
              have he2 : τ2 10 0 = nI (ln_lc (ln_st N r S) (t + 1)) := by rw [hτ2, ln_up_s, ln_upd_s, ln_lc_n h91]
              have ho2 : ∀ c, c ≠ 10 → c ≠ 11 → τ2 c = σ c := fun c h1 h2 => by rw [hτ2, ln_up_n _ _ h1]; exact ho1 c h1 h2
              refine lv_goto (tgt := 108) X.1 X.2.1 dX1_follow_99 (by decide) ?_
              refine lv_iinc (v := nI (t + 1 + 1)) (lv' := [(3, .int (nI (t + 1 + 1))), (5, .int (nI 1)), (4, .int (nI (ln_st N r S t))), (0, .ref (a 10)), (1, .int (nI r))]) X.1 X.2.1 dX1_follow_108 hl (k := 4) rfl rn_inc (by decide) rfl (fun ls hl => ?_)
              refine lv_goto (tgt := 14) X.1 X.2.1 dX1_follow_111 (by decide) ?_
              exact ih14 (t + 1) τ2 H locs (by omega) (by omega) (by first | exact hj2 | exact hj1) (by first | exact he2 | (rw [he1, ln_lc_s h91])) (by first | exact ho2 | exact ho1) hP hDw hSw ls (lv_sub hl [3, 4, 0] rfl)
  exact L14 _ 0 σ2 H locs (Nat.lt_succ_self _) (by decide) (fun j hj => by rw [show j = 0 by omega, hσ2, hσ1]; rfl) (by rw [hσ2]; rfl) (fun c h1 h2 => by rw [hσ2, hσ1, ln_up_n _ _ h1, ln_up_n _ _ h2]) hP hDw hSw ls (lv_sub hl [1, 2, 0] rfl)
