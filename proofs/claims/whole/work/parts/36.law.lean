section LNM
variable {p : Program} {l : Launch} {e : Env} {s : State} {m : MethodId} {below : List Frame} {meth : Method} {c : Code}
variable {D : va_G} {g : Nat → ClassId} {A : Nat → Prop} {b0 L : Nat} {xs : Nat → Int32} {a b : Nat → Nat}
set_option maxHeartbeats 4000000 in
set_option maxRecDepth 100000 in
theorem lw_loop (X : ln_X p room_1 s m c cL_law 4 RL D g 34) (hA : ∀ q, s.heap.size ≤ q → A q) (hX : va_X b0 L xs s s.heap) (hbl : b0 < s.heap.size) (hbA : ¬ A b0) (hap : ln_ap (CW a g) (MW b g)) (hr : meth.sig.returnType = ret) (hlk : meth.locks = false) (hL : L ≤ 2048) (hAs : ∀ q, A q → s.heap.size ≤ q) :
    ∀ (n i v : Nat) (N : ln_N) (H : Heap) (locs : List Loc) (ls : Array Slot), i ≤ L → L + 1 ≤ i + n → v ≤ i + 1 → ln_J s D g A a b N v H locs → lv_has ls 4 [(0, .ref b0), (1, .ref (a 0)), (2, .ref (b 0)), (3, .int (nI i))] → W p l e room_1 s m #[Value.ref b0] below meth c H locs 99400 8804048 (lw_Z below #[Value.ref b0] s) (F0 m 18 ls []) := by
  intro n
  induction n with
  | zero => intro i v N H locs ls h1 h2; exact absurd h2 (by omega)
  | succ n ih =>
    intro i v N H locs ls hi hin hv hJ hl
    have hS : va_S A s.heap H locs := by obtain ⟨σ, τ, -, -, -, -, -, -, h⟩ := hJ; exact h
    have hf : (99400 : Nat) ≤ room_1.cells ∧ (8804048 : Nat) ≤ room_1.slots := ⟨Nat.le_refl _, Nat.le_refl _⟩
    refine lv_iload_n X.1 X.2.1 dL_law_18 rfl (lv_at hl 3 rfl) ?_
    refine lv_aload_n X.1 X.2.1 dL_law_19 rfl (lv_at hl 0 rfl) ?_
    refine va_slen X.1 X.2.1 hX hbl hbA hS dL_law_20 ?_
    refine lv_iconst (v := nI 4) X.1 X.2.1 dL_law_21 (by decide +kernel) ?_
    refine lv_isub X.1 X.2.1 dL_law_22 ?_
    refine lv_icmp_gt (tgt := 943) X.1 X.2.1 dL_law_23 (by decide) (fun _ => ?_) (fun h9 => ?_)
    · refine lv_iconst (v := 1) X.1 X.2.1 dL_law_943 (by decide) ?_
      refine va_forget (fun q hq => hAs _ (hS.2.2 q hq)) ?_
      exact lw_ret X.1 X.2.1 hr hlk dL_law_944
    · have hi4 : i + 4 ≤ L := by
        have := mt (ln_sub4 hL (by omega)).mpr h9
        omega
      refine lv_aload_n X.1 X.2.1 dL_law_26 rfl (lv_at hl 0 rfl) ?_
      refine lv_iload_n X.1 X.2.1 dL_law_27 rfl (lv_at hl 3 rfl) ?_
      refine va_sld X.1 X.2.1 hX hbl hbA hS (vp_in_nI (show i < L by omega) (by omega)) dL_law_28 ?_
      rw [nI_clamp (show i < 2 ^ 31 by omega)]
      refine lv_bipush (v := nI 31) X.1 X.2.1 dL_law_29 (by decide +kernel) ?_
      refine lv_iand X.1 X.2.1 dL_law_31 ?_
      obtain ⟨j, hj, hx⟩ := ln_and31 (xs i)
      rw [hx]
      have kk : ∀ (N1 : ln_N) (v1 : Nat) (H1 : Heap) (locs1 : List Loc), v1 ≤ v + 1 → ln_J s D g A a b N1 v1 H1 locs1 → W p l e room_1 s m #[Value.ref b0] below meth c H1 locs1 99400 8804048 (lw_Z below #[Value.ref b0] s) (F0 m 937 ls []) := by
        intro N1 v1 H1 locs1 hv1 hJ1
        refine lv_iinc (v := nI (i + 4)) (lv' := [(3, .int (nI (i + 4))), (0, .ref b0), (1, .ref (a 0)), (2, .ref (b 0))]) X.1 X.2.1 dL_law_937 hl (k := 3) rfl (by rw [show Int32.ofInt 4 = nI 4 by decide +kernel, nI_add]) (by decide) rfl (fun ls hl => ?_)
        refine lv_goto (tgt := 18) X.1 X.2.1 dL_law_940 (by decide) ?_
        exact ih (i + 4) v1 N1 H1 locs1 ls (by omega) (by omega) (by omega) hJ1 (lv_sub hl [1, 2, 3, 0] rfl)
      rcases (show j = 0 ∨ j = 1 ∨ j = 2 ∨ j = 3 ∨ j = 4 ∨ j = 5 ∨ j = 6 ∨ j = 7 ∨ j = 8 ∨ j = 9 ∨ j = 10 ∨ j = 11 ∨ j = 12 ∨ j = 13 ∨ j = 14 ∨ j = 15 ∨ j = 16 ∨ j = 17 ∨ j = 18 ∨ j = 19 ∨ j = 20 ∨ j = 21 ∨ j = 22 ∨ j = 23 ∨ j = 24 ∨ j = 25 ∨ j = 26 ∨ 27 ≤ j by omega) with rfl | rfl | rfl | rfl | rfl | rfl | rfl | rfl | rfl | rfl | rfl | rfl | rfl | rfl | rfl | rfl | rfl | rfl | rfl | rfl | rfl | rfl | rfl | rfl | rfl | rfl | rfl | h27
      · refine lv_tableIn (off := 124) (tgt := 156) X.1 X.2.1 dL_law_32 (by decide +kernel) (by decide +kernel) (by decide +kernel) (by decide) ?_
        exact lw_post X hA hX hbl hbA hap hf hL hi4 (by omega) hJ hl kk
      · refine lv_tableIn (off := 137) (tgt := 169) X.1 X.2.1 dL_law_32 (by decide +kernel) (by decide +kernel) (by decide +kernel) (by decide) ?_
        exact lw_road X hA hX hbl hbA hap hf hL hi4 (by omega) hJ hl kk
      · refine lv_tableIn (off := 180) (tgt := 212) X.1 X.2.1 dL_law_32 (by decide +kernel) (by decide +kernel) (by decide +kernel) (by decide) ?_
        exact lw_bar X hA hX hbl hbA hap hf hL hi4 (by omega) hJ hl kk
      · refine lv_tableIn (off := 213) (tgt := 245) X.1 X.2.1 dL_law_32 (by decide +kernel) (by decide +kernel) (by decide +kernel) (by decide) ?_
        exact lw_price X hA hX hbl hbA hap hf hL hi4 (by omega) hJ hl kk
      · refine lv_tableIn (off := 246) (tgt := 278) X.1 X.2.1 dL_law_32 (by decide +kernel) (by decide +kernel) (by decide +kernel) (by decide) ?_
        exact lw_of X hA hX hbl hbA hap hf hL hi4 (by omega) hJ hl kk
      · refine lv_tableIn (off := 279) (tgt := 311) X.1 X.2.1 dL_law_32 (by decide +kernel) (by decide +kernel) (by decide +kernel) (by decide) ?_
        exact lw_go X hA hX hbl hbA hap hf hL hi4 (by omega) hJ hl kk
      · refine lv_tableIn (off := 312) (tgt := 344) X.1 X.2.1 dL_law_32 (by decide +kernel) (by decide +kernel) (by decide +kernel) (by decide) ?_
        exact lw_ticks X hA hX hbl hbA hap hf hL hi4 (by omega) hJ hl kk
      · refine lv_tableIn (off := 345) (tgt := 377) X.1 X.2.1 dL_law_32 (by decide +kernel) (by decide +kernel) (by decide +kernel) (by decide) ?_
        exact lw_when X hA hX hbl hbA hap hf hL hi4 (by omega) hJ hl kk
      · refine lv_tableIn (off := 388) (tgt := 420) X.1 X.2.1 dL_law_32 (by decide +kernel) (by decide +kernel) (by decide +kernel) (by decide) ?_
        exact lw_brought X hA hX hbl hbA hap hf hL hi4 (by omega) hJ hl kk
      · refine lv_tableIn (off := 431) (tgt := 463) X.1 X.2.1 dL_law_32 (by decide +kernel) (by decide +kernel) (by decide +kernel) (by decide) ?_
        exact lw_fort X hA hX hbl hbA hap hf hL hi4 (by omega) hJ hl kk
      · refine lv_tableIn (off := 464) (tgt := 496) X.1 X.2.1 dL_law_32 (by decide +kernel) (by decide +kernel) (by decide +kernel) (by decide) ?_
        exact lw_forts X hA hX hbl hbA hap hf hL hi4 (by omega) hJ hl kk
      · refine lv_tableIn (off := 497) (tgt := 529) X.1 X.2.1 dL_law_32 (by decide +kernel) (by decide +kernel) (by decide +kernel) (by decide) ?_
        exact lw_apart X hA hX hbl hbA hap hf hL hi4 (by omega) hJ hl kk
      · refine lv_tableIn (off := 520) (tgt := 552) X.1 X.2.1 dL_law_32 (by decide +kernel) (by decide +kernel) (by decide +kernel) (by decide) ?_
        exact lw_least X hA hX hbl hbA hap hf hL hi4 (by omega) hJ hl kk
      · refine lv_tableIn (off := 543) (tgt := 575) X.1 X.2.1 dL_law_32 (by decide +kernel) (by decide +kernel) (by decide +kernel) (by decide) ?_
        exact lw_many X hA hX hbl hbA hap hf hL hi4 (by omega) hJ hl kk
      · refine lv_tableIn (off := 566) (tgt := 598) X.1 X.2.1 dL_law_32 (by decide +kernel) (by decide +kernel) (by decide +kernel) (by decide) ?_
        exact lw_cheapest X hA hX hbl hbA hap hf hL hi4 (by omega) hJ hl kk
      · refine lv_tableIn (off := 589) (tgt := 621) X.1 X.2.1 dL_law_32 (by decide +kernel) (by decide +kernel) (by decide +kernel) (by decide) ?_
        exact lw_pared X hA hX hbl hbA hap hf hL hi4 (by omega) hJ hl kk
      · refine lv_tableIn (off := 612) (tgt := 644) X.1 X.2.1 dL_law_32 (by decide +kernel) (by decide +kernel) (by decide +kernel) (by decide) ?_
        exact lw_burn X hA hX hbl hbA hap hf hL hi4 (by omega) hJ hl kk
      · refine lv_tableIn (off := 625) (tgt := 657) X.1 X.2.1 dL_law_32 (by decide +kernel) (by decide +kernel) (by decide +kernel) (by decide) ?_
        exact lw_hand X hA hX hbl hbA hap hf hL hi4 (by omega) hJ hl kk
      · refine lv_tableIn (off := 648) (tgt := 680) X.1 X.2.1 dL_law_32 (by decide +kernel) (by decide +kernel) (by decide +kernel) (by decide) ?_
        exact lw_burnt X hA hX hbl hbA hap hf hL hi4 (by omega) hJ hl kk
      · refine lv_tableIn (off := 701) (tgt := 733) X.1 X.2.1 dL_law_32 (by decide +kernel) (by decide +kernel) (by decide +kernel) (by decide) ?_
        exact lw_save X hA hX hbl hbA hap hf hL hi4 (by omega) hJ hl kk
      · refine lv_tableIn (off := 724) (tgt := 756) X.1 X.2.1 dL_law_32 (by decide +kernel) (by decide +kernel) (by decide +kernel) (by decide) ?_
        exact lw_wall X hA hX hbl hbA hap hf hL hi4 (by omega) hJ hl kk
      · refine lv_tableIn (off := 757) (tgt := 789) X.1 X.2.1 dL_law_32 (by decide +kernel) (by decide +kernel) (by decide +kernel) (by decide) ?_
        exact lw_holds X hA hX hbl hbA hap hf hL hi4 (by omega) hJ hl kk
      · refine lv_tableIn (off := 780) (tgt := 812) X.1 X.2.1 dL_law_32 (by decide +kernel) (by decide +kernel) (by decide +kernel) (by decide) ?_
        exact lw_guards X hA hX hbl hbA hap hf hL hi4 (by omega) hJ hl kk
      · refine lv_tableIn (off := 793) (tgt := 825) X.1 X.2.1 dL_law_32 (by decide +kernel) (by decide +kernel) (by decide +kernel) (by decide) ?_
        exact lw_answer X hA hX hbl hbA hap hf hL hi4 (by omega) hJ hl kk
      · refine lv_tableIn (off := 826) (tgt := 858) X.1 X.2.1 dL_law_32 (by decide +kernel) (by decide +kernel) (by decide +kernel) (by decide) ?_
        exact lw_win X hA hX hbl hbA hap hf hL hi4 (by omega) hJ hl kk
      · refine lv_tableIn (off := 859) (tgt := 891) X.1 X.2.1 dL_law_32 (by decide +kernel) (by decide +kernel) (by decide +kernel) (by decide) ?_
        exact lw_first X hA hX hbl hbA hap hf hL hi4 (by omega) hJ hl kk
      · refine lv_tableIn (off := 892) (tgt := 924) X.1 X.2.1 dL_law_32 (by decide +kernel) (by decide +kernel) (by decide +kernel) (by decide) ?_
        exact lw_count X hA hX hbl hbA hap hf hL hi4 (by omega) hJ hl kk
      · refine lv_tableOut (tgt := 937) X.1 X.2.1 dL_law_32 (Or.inr (by rw [nI_toInt (show j < 2 ^ 31 by omega)]; omega)) (by decide) ?_
        exact kk N v H locs (Nat.le_succ v) hJ
end LNM
set_option maxHeartbeats 4000000 in
set_option maxRecDepth 100000 in
/-- THE LAW, from its entry -/
theorem whole_start {p : Program} {e : Env} {s : State} {m : MethodId} {below : List Frame} {meth : Method} {c : Code} (l : Launch) {b L : Nat} {xs : Nat → Int32} (hL : L ≤ 2048) (C0 : lw_At p s m meth c b L xs) : W p l e room_1 s m #[Value.ref b] below meth c s.heap [] 0 0 (lw_Z below #[Value.ref b] s) (entryFrame m ([Value.ref b] : List Value).toArray 4) := by
  obtain ⟨hx, hb, hr, hml, hown, hts, hX, hbl, hlocks, hgv⟩ := C0
  obtain ⟨D, g, hK⟩ := ln_K0 hts
  have hO := ln_O_of hts
  have X : ln_X p room_1 s m c cL_law 4 RL D g 34 := ⟨hx, hb, hml, hown, hK, ln_G_of hts, by decide, by decide⟩
  have hA : ∀ q : Nat, s.heap.size ≤ q → (fun q : Nat => s.heap.size ≤ q) q := fun _ h => h
  have hbA : ¬ (fun q : Nat => s.heap.size ≤ q) b := Nat.not_le.mpr hbl
  have hS : va_S (fun q : Nat => s.heap.size ≤ q) s.heap s.heap [] := va_S.rf
  have hP : va_P D ln_cl [] s.heap := ln_nil
  have hD : va_D (fun q : Nat => s.heap.size ≤ q) [] := ⟨fun i j p q h => by simp at h, fun k q h => by simp at h⟩
  have hl := lv_entry ([.ref b]) (n := 4) (Nat.le_of_ble_eq_true rfl)
  rw [lg_entry_eq]
  generalize (lg_sl ([.ref b]) ++ List.replicate (4 - (lg_sl ([.ref b])).length) Slot.unset).toArray = ls at hl ⊢
  have hl : lv_has ls 4 [(0, .ref b)] := hl
  refine ln_new X hP hD hS hA (ci := 9) rfl kl_X9 tyX9 tyX9_ok mL_L_7 mN_X9 mI_X9 df_X9 (Nat.le_of_ble_eq_true rfl) (Nat.le_of_ble_eq_true rfl) dL_law_0 (fun q1 H1 hP1 hD1 hS1 => ?_)
  refine lv_dup hx hb dL_law_3 rfl ?_
  refine ln_vK X hO hA (ws := []) (As := []) (c_X9_init l D g q1 33 (by decide)) hP1 hD1 hS1 mM_L_9 YI_X9 rfl (by decide) hl.1 rfl (Nat.le_of_ble_eq_true rfl) dL_law_4 ⟨(Nat.le_of_ble_eq_true rfl), (Nat.le_of_ble_eq_true rfl)⟩ (fun a H locs ha hP hD hS => ?_)
  have hP : va_P D ln_cl (CW a g ln_s0) H := hP
  have hD : va_D (fun q : Nat => s.heap.size ≤ q) (CW a g ln_s0) := hD
  subst ha
  refine lv_astore_n (lv' := [(1, .ref (a 0)), (0, .ref b)]) hx hb dL_law_7 rfl hl (by decide) rfl (fun ls hl => ?_)
  refine ln_new X hP hD hS hA (ci := 10) rfl kl_X10 tyX10 tyX10_ok mL_L_10 mN_X10 mI_X10 df_X10 (Nat.le_of_ble_eq_true rfl) (Nat.le_of_ble_eq_true rfl) dL_law_8 (fun q2 H2 hP2 hD2 hS2 => ?_)
  refine lv_dup hx hb dL_law_11 rfl ?_
  refine ln_vK X hO hA (ws := CW a g ln_s0) (As := []) (c_X10_init l D g q2 33 (by decide)) hP2 hD2 hS2 mM_L_12 YI_X10 rfl (by decide) hl.1 rfl (Nat.le_of_ble_eq_true rfl) dL_law_12 ⟨(Nat.le_of_ble_eq_true rfl), (Nat.le_of_ble_eq_true rfl)⟩ (fun a2 H3 locs3 ha hP3 hD3 hS3 => ?_)
  subst ha
  obtain ⟨hPC, hPM⟩ := ln_apP hP3
  obtain ⟨hDC, hDM, hap⟩ := ln_apD hD3
  refine lv_astore_n (lv' := [(2, .ref (a2 0)), (1, .ref (a 0)), (0, .ref b)]) hx hb dL_law_15 rfl hl (by decide) rfl (fun ls hl => ?_)
  refine lv_iconst (v := nI 0) hx hb dL_law_16 (by decide +kernel) ?_
  refine lv_istore_n (lv' := [(3, .int (nI 0)), (2, .ref (a2 0)), (1, .ref (a 0)), (0, .ref b)]) hx hb dL_law_17 rfl hl (by decide) rfl (fun ls hl => ?_)
  refine W.widen (k := 99400) (n := 8804048) (Nat.le_of_ble_eq_true rfl) (Nat.le_of_ble_eq_true rfl) ?_
  exact lw_loop X hA hX hbl hbA (ln_ap_of (CW_ad a g) (MW_ad a2 g) hap) hr hlocks hL (fun q h => h) (L + 1) 0 1 (fun _ _ => 0) H3 locs3 ls (Nat.zero_le L) (by omega) (Nat.le_refl 1) ⟨ln_s0, fun _ _ => 0, ln_CI_0, ln_MI_0, hPC, hDC, hPM, hDM, hS3⟩ (lv_sub hl [3, 2, 1, 0] rfl)
