theorem ln_mn_t {g : Nat → Nat} {c : Nat → Bool} {k : Nat} (h : c k = true) (h2 : g k < ln_mn g c k) : ln_mn g c (k + 1) = g k := if_pos ⟨h, h2⟩
theorem ln_mn_f {g : Nat → Nat} {c : Nat → Bool} {k : Nat} (h : c k = false) : ln_mn g c (k + 1) = ln_mn g c k := if_neg (fun q => by rw [h] at q; exact absurd q.1 (by decide))
theorem ln_mn_g {g : Nat → Nat} {c : Nat → Bool} {k : Nat} (h2 : ln_mn g c k ≤ g k) : ln_mn g c (k + 1) = ln_mn g c k := if_neg (fun q => by have := q.2; omega)
theorem ln_mn_m (g : Nat → Nat) (c : Nat → Bool) : ∀ k, ln_mn g c k ≤ 1000000
  | 0 => Nat.le_refl _
  | k + 1 => by
    have h := ln_mn_m g c k
    show (if c k = true ∧ g k < ln_mn g c k then g k else ln_mn g c k) ≤ 1000000
    split <;> omega
theorem ln_bt_4 {N : ln_N} (hW : ln_wf N) {S : Nat} (hS : S < 2 ^ N 0 0) (h0 : S ≠ 2 ^ N 0 0 - 1) (h : ln_wb N S ≠ 2 ^ N 0 0 - 1) : ln_mn (fun p => 1 + ln_bt N (ln_wb N S ||| 2 ^ p)) (fun p => !(ln_wb N S).testBit p) (N 0 0) = ln_bt N S := by
  obtain ⟨h1, h2, h3⟩ := ln_bp_ok hW (ln_wb_lt hW hS) h
  have h4 := ln_bt_3 hW hS h0 h
  have h5 := ln_bt12 hW hS
  apply Nat.le_antisymm
  · rw [h4]
    exact ln_mn_le (g := fun p => 1 + ln_bt N (ln_wb N S ||| 2 ^ p)) h1 (ln_notb.mpr h2)
  · refine ln_mn_ge (by omega) (fun p hp hc => ?_)
    have h6 : ln_mn (fun p => ln_bt N (ln_wb N S ||| 2 ^ p)) (fun p => !(ln_wb N S).testBit p) (N 0 0) ≤ ln_bt N (ln_wb N S ||| 2 ^ p) := ln_mn_le (g := fun p => ln_bt N (ln_wb N S ||| 2 ^ p)) hp hc
    rw [h4, h3]
    show 1 + _ ≤ 1 + _
    omega
theorem ln_bpf_a {N : ln_N} {R p : Nat} (h : R.testBit p = true) : ln_bpf N R p = false := by unfold ln_bpf; rw [h]; rfl
theorem ln_bpf_b {N : ln_N} (hW : ln_wf N) {S p : Nat} (hS : S < 2 ^ N 0 0) (h0 : S ≠ 2 ^ N 0 0 - 1) (h : ln_wb N S ≠ 2 ^ N 0 0 - 1) (h2 : 1 + ln_bt N (ln_wb N S ||| 2 ^ p) ≠ ln_bt N S) : ln_bpf N (ln_wb N S) p = false := by
  unfold ln_bpf
  rw [decide_eq_false (fun q => h2 (by rw [ln_bt_2 hW hS h0 h, q])), Bool.and_false]
theorem ln_bpf_c {N : ln_N} (hW : ln_wf N) {S p : Nat} (hS : S < 2 ^ N 0 0) (h0 : S ≠ 2 ^ N 0 0 - 1) (h : ln_wb N S ≠ 2 ^ N 0 0 - 1) (hb : (ln_wb N S).testBit p = false) (h2 : 1 + ln_bt N (ln_wb N S ||| 2 ^ p) = ln_bt N S) : ln_bpf N (ln_wb N S) p = true := by
  unfold ln_bpf
  rw [ln_bt_2 hW hS h0 h] at h2
  rw [hb, decide_eq_true (show ln_bt N (ln_wb N S ||| 2 ^ p) = _ by omega)]; rfl
theorem ln_fs_min {f : Nat → Bool} {k p : Nat} (h : ln_fs f k < k) (hj : ∀ j, j < p → f j = false) : p ≤ ln_fs f k := by
  refine Classical.byContradiction (fun q => ?_)
  have := hj _ (show ln_fs f k < p by omega)
  rw [ln_fs_yes h] at this
  exact absurd this (by decide)
set_option maxHeartbeats 4000000 in
set_option maxRecDepth 100000 in
theorem c_X10_burns (l : Launch) (D : va_G) (g : Nat → ClassId) (a : Nat → Nat) (σ : ln_S) (d : Nat) (N : ln_N) (hW : ln_wf N) (hN : ln_nM N σ) (E : Nat) (hK : ln_MK N σ E) (hEr : 8 ≠ E) (hd : 2 ≤ d) : ln_V l D g (MW a g) yX10_burns (.code yX10_burns cX10_burns 4 none) d [.ref (a 0)] σ (fun τ => ln_nM N τ ∧ ln_MK N τ E ∧ ln_mT N τ 8 ∧ ∀ c, c ≠ 0 → c ≠ 9 → τ c = σ c) := by
  have hN12 := hW.n12
  have hp12 := hW.p12
  have hs1 := ln_sub1 (N 0 0)
  obtain ⟨K, hK1, hK2, hK3⟩ := hK
  refine ln_ofV (by decide +kernel) (Nat.le_of_ble_eq_true rfl) (fun prg env rum sta mid args below meth cod ls A hr hlk X hA hP hDw hSw hl => ?_)
  have hl : lv_has ls 4 [(0, .ref (a 0))] := hl
  generalize hQ0 : (MQ below (va_Qv (fun τ => ln_nM N τ ∧ ln_MK N τ E ∧ ln_mT N τ 8 ∧ ∀ c, c ≠ 0 → c ≠ 9 → τ c = σ c) (fun τ t => va_P D ln_cl (MW a g τ) t.heap) A) args sta 0 0 A) = Q0
  obtain ⟨H, hH⟩ : ∃ H, H = sta.heap := ⟨_, rfl⟩
  obtain ⟨locs, hlo⟩ : ∃ x : List Loc, x = [] := ⟨_, rfl⟩
  rw [← hH] at hP
  have hSw : va_S A sta.heap H locs := by rw [hH, hlo]; exact hSw
  have goal : W prg l env rum sta mid args below meth cod H locs 0 0 Q0 (F0 mid 0 ls []) := ?_
  · rw [hH, hlo] at goal; exact goal
  clear hlo
  refine lv_aload_n X.1 X.2.1 dX10_burns_0 rfl (lv_at hl 0 rfl) ?_
  refine lv_bipush (v := nI 8) X.1 X.2.1 dX10_burns_1 (by decide) ?_
  refine ln_vU X (MW_ad a g) hA (c_X10_isKnown l D g a σ 0 K 8 hK1 hK2 (by omega) (Nat.le_refl _)) hP hDw hSw 0 rfl rfl mM_X10_84 Y_X10_isKnown rfl (by omega) hl.1 rfl (Nat.le_of_ble_eq_true rfl) dX10_burns_3 ⟨Nat.zero_le _, Nat.zero_le _⟩ (fun r3 τ3 H locs hr3 hP hDw hSw => ?_)
  obtain ⟨hz3, hτ3⟩ := hr3
  subst hz3
  have hN3 : ln_nM N τ3 := by rw [hτ3]; exact hN.up0 (by decide) _
  have h31 : τ3 0 1 = nI (K ||| 2 ^ 8) := by rw [hτ3]; rfl
  have ho3 : ∀ c, c ≠ 0 → τ3 c = σ c := fun c hc => by rw [hτ3, ln_up_n _ _ hc]
  refine rn_eqB X (tgt := 10) dX10_burns_6 (by decide) (fun h6 => ?_) (fun h6 => ?_)
  · skip
    refine lv_aload_n X.1 X.2.1 dX10_burns_10 rfl (lv_at hl 0 rfl) ?_
    refine ln_vR X (c_X10_all l D g a τ3 0 N hW hN3 (Nat.le_refl _)) hP 0 rfl rfl mM_X10_87 Y_X10_all rfl (by omega) hl.1 rfl (Nat.le_of_ble_eq_true rfl) dX10_burns_11 ⟨Nat.zero_le _, Nat.zero_le _⟩ (fun r11 hr11 => ?_)
    subst hr11
    refine rn_top (y := (nI (2 ^ N 0 0) - 1)) (ln_m1p _) ?_
    refine lv_istore_n (lv' := [(1, .int (nI (2 ^ N 0 0) - 1)), (0, .ref (a 0))]) X.1 X.2.1 dX10_burns_14 rfl hl (by decide) rfl (fun ls hl => ?_)
    have L15 : ∀ (K : Nat) (k : Nat) (τ : ln_S) (H : Heap) (locs : List Loc), k < K → (k ≤ 2 ^ N 0 0) → (∀ T, k ≤ T → T < 2 ^ N 0 0 → τ 9 T = nI (ln_bt N T)) → (∀ c, c ≠ 9 → τ c = τ3 c) → va_P D ln_cl (MW a g τ) H → va_D A (MW a g τ) → va_S A sta.heap H locs → ∀ ls : Array Slot, lv_has ls 4 [(0, .ref (a 0)), (1, .int (nI k - 1))] → W prg l env rum sta mid args below meth cod H locs 0 0 Q0 (F0 mid 15 ls []) := by
      intro K
      induction K with
      | zero => intro k τ H locs hm; exact absurd hm (Nat.not_lt_zero _)
      | succ K ih15 =>
        intro k τ H locs hm15 hk hT ho hP hDw hSw ls hl
        have hN : ln_nM N τ := hN3.of (by rw [ho 0 (by decide)]) (fun c h1 h2 => ho c (by omega))
        refine lv_iload_n X.1 X.2.1 dX10_burns_15 rfl (lv_at hl 1 rfl) ?_
        rcases ln_m1_cases k with ⟨ek, e1⟩ | ⟨j, ek, e1⟩
        · refine rn_top (y := ((-1))) e1 ?_
          refine lv_if_lt (tgt := 140) X.1 X.2.1 dX10_burns_16 (by decide) (fun h16 => ?_) (fun h16 => absurd (by decide) h16)
          subst hQ0
          exact ln_retV X hr hlk hP hSw (by subst ek; have hTT : ln_mT N τ 8 := (by rw [ln_mT_b]; exact fun T h2 => hT T (Nat.zero_le _) h2); exact ⟨hN, ln_MK_put hK2 (by decide) hK3 (by rw [ho 0 (by decide)]; exact h31) (fun _ => hTT) (fun k hk h => h.of (fun c hc => (ho c (by omega)).trans (ho3 c (by omega)))), hTT, fun c h1 h2 => (ho c h2).trans (ho3 c h1)⟩) dX10_burns_140
        · refine rn_top (y := nI j) e1 ?_
          subst ek
          rw [nI_pred] at hl
          refine rn_lt0 X (ln_31 (show j < 4096 by omega)) (tgt := 140) dX10_burns_16 (by decide) ?_
          refine lv_iload_n X.1 X.2.1 dX10_burns_19 rfl (lv_at hl 1 rfl) ?_
          refine lv_aload_n X.1 X.2.1 dX10_burns_20 rfl (lv_at hl 0 rfl) ?_
          refine lv_iload_n X.1 X.2.1 dX10_burns_21 rfl (lv_at hl 1 rfl) ?_
          refine ln_vR X (c_X10_allBehind l D g a τ 1 N hW hN j (show j < 4096 by omega) (Nat.le_refl _)) hP 0 rfl rfl mM_X10_74 Y_X10_allBehind rfl (by omega) hl.1 rfl (Nat.le_of_ble_eq_true rfl) dX10_burns_22 ⟨Nat.zero_le _, Nat.zero_le _⟩ (fun r22 hr22 => ?_)
          subst hr22
          refine rn_or X dX10_burns_25 ?_
          refine rn_top (y := nI (ln_wb N j)) rfl ?_
          refine lv_istore_n (lv' := [(2, .int (nI (ln_wb N j))), (0, .ref (a 0)), (1, .int (nI j))]) X.1 X.2.1 dX10_burns_26 rfl hl (by decide) rfl (fun ls hl => ?_)
          refine lv_iload_n X.1 X.2.1 dX10_burns_27 rfl (lv_at hl 2 rfl) ?_
          refine lv_aload_n X.1 X.2.1 dX10_burns_28 rfl (lv_at hl 1 rfl) ?_
          refine ln_vR X (c_X10_all l D g a τ 0 N hW hN (Nat.le_refl _)) hP 0 rfl rfl mM_X10_87 Y_X10_all rfl (by omega) hl.1 rfl (Nat.le_of_ble_eq_true rfl) dX10_burns_29 ⟨Nat.zero_le _, Nat.zero_le _⟩ (fun r29 hr29 => ?_)
          subst hr29
          refine rn_ne X (ln_31 (show j < 4096 by omega)) (ln_31 (Nat.lt_of_lt_of_le (Nat.sub_lt (ln_pos2 _) (by decide)) hp12)) (tgt := 45) dX10_burns_32 (by decide) (fun h32 => ?_) (fun h32 => ?_)
          · skip
            refine lv_iload_n X.1 X.2.1 dX10_burns_45 rfl (lv_at hl 0 rfl) ?_
            refine lv_aload_n X.1 X.2.1 dX10_burns_46 rfl (lv_at hl 1 rfl) ?_
            refine ln_vR X (c_X10_all l D g a τ 0 N hW hN (Nat.le_refl _)) hP 0 rfl rfl mM_X10_87 Y_X10_all rfl (by omega) hl.1 rfl (Nat.le_of_ble_eq_true rfl) dX10_burns_47 ⟨Nat.zero_le _, Nat.zero_le _⟩ (fun r47 hr47 => ?_)
            subst hr47
            refine rn_ne X (ln_31 (ln_n12 hW (ln_wb_lt hW (show j < 2 ^ N 0 0 by omega)))) (ln_31 (Nat.lt_of_lt_of_le (Nat.sub_lt (ln_pos2 _) (by decide)) hp12)) (tgt := 63) dX10_burns_50 (by decide) (fun h50 => ?_) (fun h50 => ?_)
            · skip
              refine lv_aload_n X.1 X.2.1 dX10_burns_63 rfl (lv_at hl 1 rfl) ?_
              refine gM_0_11 X hP mF_X10_35 dX10_burns_64 ?_
              refine lv_iload_n X.1 X.2.1 dX10_burns_67 rfl (lv_at hl 2 rfl) ?_
              refine lv_ldc (v := nI 1000000) X.1 X.2.1 X.2.2.2.1 (X.ts args mK_X10_123 rfl) dX10_burns_68 ?_
              refine sM_9 X hP hDw hSw (show j < 4096 by omega) dX10_burns_70 (fun H locs hP hDw hSw => ?_)
              obtain ⟨τ9, hτ9⟩ : ∃ z : ln_S, z = (ln_up τ 9 (upd (τ 9) j (nI 1000000))) := ⟨_, rfl⟩
              rw [← hτ9] at hP hDw
              refine lv_iconst (v := nI 0) X.1 X.2.1 dX10_burns_71 (by decide) ?_
              refine lv_istore_n (lv' := [(3, .int (nI 0)), (2, .int (nI (ln_wb N j))), (0, .ref (a 0)), (1, .int (nI j))]) X.1 X.2.1 dX10_burns_72 rfl hl (by decide) rfl (fun ls hl => ?_)
              have L73 : ∀ (K : Nat) (p : Nat) (τ : ln_S) (H : Heap) (locs : List Loc), N 0 0 - p < K → (p ≤ N 0 0) → (τ 9 j = nI (ln_mn (fun p => 1 + ln_bt N (ln_wb N j ||| 2 ^ p)) (fun p => !(ln_wb N j).testBit p) p)) → (∀ T, j < T → T < 2 ^ N 0 0 → τ 9 T = nI (ln_bt N T)) → (∀ c, c ≠ 9 → τ c = τ3 c) → va_P D ln_cl (MW a g τ) H → va_D A (MW a g τ) → va_S A sta.heap H locs → ∀ ls : Array Slot, lv_has ls 4 [(0, .ref (a 0)), (1, .int (nI j)), (2, .int (nI (ln_wb N j))), (3, .int (nI p))] → W prg l env rum sta mid args below meth cod H locs 0 0 Q0 (F0 mid 73 ls []) := by
                intro K
                induction K with
                | zero => intro p τ H locs hm; exact absurd hm (Nat.not_lt_zero _)
                | succ K ih73 =>
                  intro p τ H locs hm73 hp hV hT2 ho2 hP hDw hSw ls hl
                  have hN : ln_nM N τ := hN3.of (by rw [ho2 0 (by decide)]) (fun c h1 h2 => ho2 c (by omega))
                  have hmm := ln_mn_m (fun p => 1 + ln_bt N (ln_wb N j ||| 2 ^ p)) (fun p => !(ln_wb N j).testBit p) p
                  refine lv_iload_n X.1 X.2.1 dX10_burns_73 rfl (lv_at hl 3 rfl) ?_
                  refine lv_aload_n X.1 X.2.1 dX10_burns_74 rfl (lv_at hl 0 rfl) ?_
                  refine gM_0_0 X hP (v := nI (N 0 0)) hN.n mF_X10_48 dX10_burns_75 ?_
                  refine rn_ge X (by omega) (by omega) (tgt := 134) dX10_burns_78 (by decide) (fun h78 => ?_) (fun h78 => ?_)
                  · skip
                    refine lv_iinc (v := (nI j - 1)) (lv' := [(1, .int (nI j - 1)), (0, .ref (a 0)), (2, .int (nI (ln_wb N j))), (3, .int (nI p))]) X.1 X.2.1 dX10_burns_134 hl (k := 1) rfl rn_inn (by decide) rfl (fun ls hl => ?_)
                    refine lv_goto (tgt := 15) X.1 X.2.1 dX10_burns_137 (by decide) ?_
                    exact ih15 j τ H locs (by omega) (by omega) (by first | exact hT1 | exact (fun T h1 h2 => by by_cases e : T = j; (· subst e; rw [hV, show p = N 0 0 by omega, ln_bt_4 hW (by omega) h32 h50]); (· exact hT2 T (by omega) h2))) (by first | exact ho1 | exact ho2) hP hDw hSw ls (lv_sub hl [1, 0] rfl)
                  · skip
                    refine lv_iload_n X.1 X.2.1 dX10_burns_81 rfl (lv_at hl 2 rfl) ?_
                    refine lv_iload_n X.1 X.2.1 dX10_burns_82 rfl (lv_at hl 3 rfl) ?_
                    refine ln_sR X (c_X10_has l D g 0 (ln_wb N j) p (ln_31 (ln_n12 hW (ln_wb_lt hW (show j < 2 ^ N 0 0 by omega)))) (by omega) (Nat.le_refl _)) ln_nil mM_X10_70 Y_X10_has rfl (by omega) hl.1 rfl (Nat.le_of_ble_eq_true rfl) dX10_burns_83 ⟨Nat.zero_le _, Nat.zero_le _⟩ (fun r83 hr83 => ?_)
                    subst hr83
                    refine rn_neB X (tgt := 128) dX10_burns_86 (by decide) (fun h86 => ?_) (fun h86 => ?_)
                    · skip
                      refine lv_iinc (v := nI (p + 1)) (lv' := [(3, .int (nI (p + 1))), (0, .ref (a 0)), (1, .int (nI j)), (2, .int (nI (ln_wb N j)))]) X.1 X.2.1 dX10_burns_128 hl (k := 3) rfl rn_inc (by decide) rfl (fun ls hl => ?_)
                      refine lv_goto (tgt := 73) X.1 X.2.1 dX10_burns_131 (by decide) ?_
                      exact ih73 (p + 1) τ H locs (by omega) (by omega) (by first | (rw [ln_mn_f (by rw [h86]; rfl)]; exact hV) | (rw [ln_mn_g h107]; exact hV) | (rw [hτ8, ln_up_s, ln_upd_s, ln_mn_t (ln_notb.mpr h86) h107])) (by first | exact hT2 | exact (fun T h1 h2 => by rw [hτ8, ln_up_s, ln_upd_n (by omega)]; exact hT2 T h1 h2)) (by first | exact ho2 | exact (fun c hc => by rw [hτ8, ln_up_n _ _ hc]; exact ho2 c hc)) hP hDw hSw ls (lv_sub hl [1, 2, 3, 0] rfl)
                    · skip
                      have hg12 : ln_bt N (ln_wb N j ||| 2 ^ p) ≤ 12 := ln_bt12 hW (ln_put_lt (ln_wb_lt hW (show j < 2 ^ N 0 0 by omega)) (by omega))
                      have hgt : j < ln_wb N j ||| 2 ^ p := Nat.lt_of_le_of_lt (ln_sb_le (ln_sb_or j _)) (ln_sb_put h86)
                      refine lv_iconst (v := nI 1) X.1 X.2.1 dX10_burns_89 (by decide) ?_
                      refine lv_aload_n X.1 X.2.1 dX10_burns_90 rfl (lv_at hl 0 rfl) ?_
                      refine gM_0_11 X hP mF_X10_35 dX10_burns_91 ?_
                      refine lv_iload_n X.1 X.2.1 dX10_burns_94 rfl (lv_at hl 2 rfl) ?_
                      refine lv_iconst (v := nI 1) X.1 X.2.1 dX10_burns_95 (by decide) ?_
                      refine lv_iload_n X.1 X.2.1 dX10_burns_96 rfl (lv_at hl 3 rfl) ?_
                      refine rn_shl X (by omega) dX10_burns_97 ?_
                      refine rn_or X dX10_burns_98 ?_
                      refine lM_9 X hP (ln_n12 hW (ln_put_lt (ln_wb_lt hW (show j < 2 ^ N 0 0 by omega)) (by omega))) (v := nI (ln_bt N (ln_wb N j ||| 2 ^ p))) (hT2 _ hgt (ln_put_lt (ln_wb_lt hW (show j < 2 ^ N 0 0 by omega)) (by omega))) dX10_burns_99 ?_
                      refine rn_add X dX10_burns_100 ?_
                      refine lv_aload_n X.1 X.2.1 dX10_burns_101 rfl (lv_at hl 0 rfl) ?_
                      refine gM_0_11 X hP mF_X10_35 dX10_burns_102 ?_
                      refine lv_iload_n X.1 X.2.1 dX10_burns_105 rfl (lv_at hl 1 rfl) ?_
                      refine lM_9 X hP (show j < 4096 by omega) (v := nI (ln_mn (fun p => 1 + ln_bt N (ln_wb N j ||| 2 ^ p)) (fun p => !(ln_wb N j).testBit p) p)) hV dX10_burns_106 ?_
                      refine rn_ge X (by omega) (by omega) (tgt := 128) dX10_burns_107 (by decide) (fun h107 => ?_) (fun h107 => ?_)
                      · skip
                        refine lv_iinc (v := nI (p + 1)) (lv' := [(3, .int (nI (p + 1))), (0, .ref (a 0)), (1, .int (nI j)), (2, .int (nI (ln_wb N j)))]) X.1 X.2.1 dX10_burns_128 hl (k := 3) rfl rn_inc (by decide) rfl (fun ls hl => ?_)
                        refine lv_goto (tgt := 73) X.1 X.2.1 dX10_burns_131 (by decide) ?_
                        exact ih73 (p + 1) τ H locs (by omega) (by omega) (by first | (rw [ln_mn_f (by rw [h86]; rfl)]; exact hV) | (rw [ln_mn_g h107]; exact hV) | (rw [hτ8, ln_up_s, ln_upd_s, ln_mn_t (ln_notb.mpr h86) h107])) (by first | exact hT2 | exact (fun T h1 h2 => by rw [hτ8, ln_up_s, ln_upd_n (by omega)]; exact hT2 T h1 h2)) (by first | exact ho2 | exact (fun c hc => by rw [hτ8, ln_up_n _ _ hc]; exact ho2 c hc)) hP hDw hSw ls (lv_sub hl [1, 2, 3, 0] rfl)
                      · skip
                        refine lv_aload_n X.1 X.2.1 dX10_burns_110 rfl (lv_at hl 0 rfl) ?_
                        refine gM_0_11 X hP mF_X10_35 dX10_burns_111 ?_
                        refine lv_iload_n X.1 X.2.1 dX10_burns_114 rfl (lv_at hl 1 rfl) ?_
                        refine lv_iconst (v := nI 1) X.1 X.2.1 dX10_burns_115 (by decide) ?_
                        refine lv_aload_n X.1 X.2.1 dX10_burns_116 rfl (lv_at hl 0 rfl) ?_
                        refine gM_0_11 X hP mF_X10_35 dX10_burns_117 ?_
                        refine lv_iload_n X.1 X.2.1 dX10_burns_120 rfl (lv_at hl 2 rfl) ?_
                        refine lv_iconst (v := nI 1) X.1 X.2.1 dX10_burns_121 (by decide) ?_
                        refine lv_iload_n X.1 X.2.1 dX10_burns_122 rfl (lv_at hl 3 rfl) ?_
                        refine rn_shl X (by omega) dX10_burns_123 ?_
                        refine rn_or X dX10_burns_124 ?_
                        refine lM_9 X hP (ln_n12 hW (ln_put_lt (ln_wb_lt hW (show j < 2 ^ N 0 0 by omega)) (by omega))) (v := nI (ln_bt N (ln_wb N j ||| 2 ^ p))) (hT2 _ hgt (ln_put_lt (ln_wb_lt hW (show j < 2 ^ N 0 0 by omega)) (by omega))) dX10_burns_125 ?_
                        refine rn_add X dX10_burns_126 ?_
                        refine sM_9 X hP hDw hSw (show j < 4096 by omega) dX10_burns_127 (fun H locs hP hDw hSw => ?_)
                        obtain ⟨τ8, hτ8⟩ : ∃ z : ln_S, z = (ln_up τ 9 (upd (τ 9) j (nI (1 + (ln_bt N (ln_wb N j ||| 2 ^ p)))))) := ⟨_, rfl⟩
                        rw [← hτ8] at hP hDw
                        refine lv_iinc (v := nI (p + 1)) (lv' := [(3, .int (nI (p + 1))), (0, .ref (a 0)), (1, .int (nI j)), (2, .int (nI (ln_wb N j)))]) X.1 X.2.1 dX10_burns_128 hl (k := 3) rfl rn_inc (by decide) rfl (fun ls hl => ?_)
                        refine lv_goto (tgt := 73) X.1 X.2.1 dX10_burns_131 (by decide) ?_
                        exact ih73 (p + 1) τ8 H locs (by omega) (by omega) (by first | (rw [ln_mn_f (by rw [h86]; rfl)]; exact hV) | (rw [ln_mn_g h107]; exact hV) | (rw [hτ8, ln_up_s, ln_upd_s, ln_mn_t (ln_notb.mpr h86) h107])) (by first | exact hT2 | exact (fun T h1 h2 => by rw [hτ8, ln_up_s, ln_upd_n (by omega)]; exact hT2 T h1 h2)) (by first | exact ho2 | exact (fun c hc => by rw [hτ8, ln_up_n _ _ hc]; exact ho2 c hc)) hP hDw hSw ls (lv_sub hl [1, 2, 3, 0] rfl)
              exact L73 _ 0 τ9 H locs (Nat.lt_succ_self _) (Nat.zero_le _) (by rw [hτ9, ln_up_s, ln_upd_s]; rfl) (fun T h1 h2 => by rw [hτ9, ln_up_s, ln_upd_n (by omega)]; exact hT T (by omega) h2) (fun c hc => by rw [hτ9, ln_up_n _ _ hc]; exact ho c hc) hP hDw hSw ls (lv_sub hl [2, 3, 1, 0] rfl)
            · skip
              refine lv_aload_n X.1 X.2.1 dX10_burns_53 rfl (lv_at hl 1 rfl) ?_
              refine gM_0_11 X hP mF_X10_35 dX10_burns_54 ?_
              refine lv_iload_n X.1 X.2.1 dX10_burns_57 rfl (lv_at hl 2 rfl) ?_
              refine lv_iconst (v := nI 1) X.1 X.2.1 dX10_burns_58 (by decide) ?_
              refine sM_9 X hP hDw hSw (show j < 4096 by omega) dX10_burns_59 (fun H locs hP hDw hSw => ?_)
              obtain ⟨τ6, hτ6⟩ : ∃ z : ln_S, z = (ln_up τ 9 (upd (τ 9) j (nI 1))) := ⟨_, rfl⟩
              rw [← hτ6] at hP hDw
              have hT1 : ∀ T, j ≤ T → T < 2 ^ N 0 0 → τ6 9 T = nI (ln_bt N T) := fun T h1 h2 => by rw [hτ6, ln_up_s]; by_cases e : T = j; (· subst e; rw [ln_upd_s, ln_bt_1 hW h2 h32 h50]); (· rw [ln_upd_n e]; exact hT T (by omega) h2)
              have ho1 : ∀ c, c ≠ 9 → τ6 c = τ3 c := fun c hc => by rw [hτ6, ln_up_n _ _ hc]; exact ho c hc
              refine lv_goto (tgt := 134) X.1 X.2.1 dX10_burns_60 (by decide) ?_
              refine lv_iinc (v := (nI j - 1)) (lv' := [(1, .int (nI j - 1)), (2, .int (nI (ln_wb N j))), (0, .ref (a 0))]) X.1 X.2.1 dX10_burns_134 hl (k := 2) rfl rn_inn (by decide) rfl (fun ls hl => ?_)
              refine lv_goto (tgt := 15) X.1 X.2.1 dX10_burns_137 (by decide) ?_
              exact ih15 j τ6 H locs (by omega) (by omega) (by first | exact hT1 | exact (fun T h1 h2 => by by_cases e : T = j; (· subst e; rw [hV, show p = N 0 0 by omega, ln_bt_4 hW (by omega) h32 h50]); (· exact hT2 T (by omega) h2))) (by first | exact ho1 | exact ho2) hP hDw hSw ls (lv_sub hl [2, 0] rfl)
          · skip
            refine lv_aload_n X.1 X.2.1 dX10_burns_35 rfl (lv_at hl 1 rfl) ?_
            refine gM_0_11 X hP mF_X10_35 dX10_burns_36 ?_
            refine lv_iload_n X.1 X.2.1 dX10_burns_39 rfl (lv_at hl 2 rfl) ?_
            refine lv_iconst (v := nI 0) X.1 X.2.1 dX10_burns_40 (by decide) ?_
            refine sM_9 X hP hDw hSw (show j < 4096 by omega) dX10_burns_41 (fun H locs hP hDw hSw => ?_)
            obtain ⟨τ5, hτ5⟩ : ∃ z : ln_S, z = (ln_up τ 9 (upd (τ 9) j (nI 0))) := ⟨_, rfl⟩
            rw [← hτ5] at hP hDw
            have hT1 : ∀ T, j ≤ T → T < 2 ^ N 0 0 → τ5 9 T = nI (ln_bt N T) := fun T h1 h2 => by rw [hτ5, ln_up_s, show T = j by omega, ln_upd_s, h32, ln_bt_all hW]
            have ho1 : ∀ c, c ≠ 9 → τ5 c = τ3 c := fun c hc => by rw [hτ5, ln_up_n _ _ hc]; exact ho c hc
            refine lv_goto (tgt := 134) X.1 X.2.1 dX10_burns_42 (by decide) ?_
            refine lv_iinc (v := (nI j - 1)) (lv' := [(1, .int (nI j - 1)), (2, .int (nI (ln_wb N j))), (0, .ref (a 0))]) X.1 X.2.1 dX10_burns_134 hl (k := 2) rfl rn_inn (by decide) rfl (fun ls hl => ?_)
            refine lv_goto (tgt := 15) X.1 X.2.1 dX10_burns_137 (by decide) ?_
            exact ih15 j τ5 H locs (by omega) (by omega) (by first | exact hT1 | exact (fun T h1 h2 => by by_cases e : T = j; (· subst e; rw [hV, show p = N 0 0 by omega, ln_bt_4 hW (by omega) h32 h50]); (· exact hT2 T (by omega) h2))) (by first | exact ho1 | exact ho2) hP hDw hSw ls (lv_sub hl [2, 0] rfl)
    exact L15 _ (2 ^ N 0 0) τ3 H locs (Nat.lt_succ_self _) (Nat.le_refl _) (fun T h1 h2 => absurd h2 (by omega)) (fun c _ => rfl) hP hDw hSw ls (lv_sub hl [1, 0] rfl)
  · skip
    subst hQ0
    exact ln_retV X hr hlk hP hSw ⟨hN3, ln_MK_put hK2 (by decide) hK3 h31 (fun _ => (hK3 _ hEr h6).of (fun c hc => ho3 c (by omega))) (fun k _ hk => hk.of (fun c hc => ho3 c (by omega))), (hK3 _ hEr h6).of (fun c hc => ho3 c (by omega)), fun c h1 _ => ho3 c h1⟩ dX10_burns_9
set_option maxHeartbeats 4000000 in
set_option maxRecDepth 100000 in
theorem c_X10_burn (l : Launch) (D : va_G) (g : Nat → ClassId) (a : Nat → Nat) (σ : ln_S) (d : Nat) (N : ln_N) (hI : ln_MI N σ)  (hd : 3 ≤ d) : ln_U l D g (MW a g) yX10_burn (.code yX10_burn cX10_burn 1 (some .int)) d [.ref (a 0)] σ (fun z τ => ln_MI N τ ∧ z = nI (ln_bt N 0)) := by
  obtain ⟨hW, hN, hK⟩ := hI
  obtain ⟨E, hE99⟩ : ∃ E, E = 99 := ⟨_, rfl⟩
  rw [← hE99] at hK
  have hN12 := hW.n12
  have hp12 := hW.p12
  have hs1 := ln_sub1 (N 0 0)
  refine ln_ofU (by decide +kernel) (Nat.le_of_ble_eq_true rfl) (fun prg env rum sta mid args below meth cod ls A hr hlk X hA hP hDw hSw hl => ?_)
  have hl : lv_has ls 1 [(0, .ref (a 0))] := hl
  generalize hQ0 : (MQ below (va_Qi (fun z τ => ln_MI N τ ∧ z = nI (ln_bt N 0)) (fun τ t => va_P D ln_cl (MW a g τ) t.heap) A) args sta 0 0 A) = Q0
  obtain ⟨H, hH⟩ : ∃ H, H = sta.heap := ⟨_, rfl⟩
  obtain ⟨locs, hlo⟩ : ∃ x : List Loc, x = [] := ⟨_, rfl⟩
  rw [← hH] at hP
  have hSw : va_S A sta.heap H locs := by rw [hH, hlo]; exact hSw
  have goal : W prg l env rum sta mid args below meth cod H locs 0 0 Q0 (F0 mid 0 ls []) := ?_
  · rw [hH, hlo] at goal; exact goal
  clear hlo
  refine lv_aload_n X.1 X.2.1 dX10_burn_0 rfl (lv_at hl 0 rfl) ?_
  refine ln_vV X (MW_ad a g) hA (c_X10_burns l D g a σ 2 N hW hN E hK (by omega) (Nat.le_refl _)) hP hDw hSw 0 rfl rfl mM_X10_124 Y_X10_burns rfl (by omega) hl.1 rfl (Nat.le_of_ble_eq_true rfl) dX10_burn_1 ⟨Nat.zero_le _, Nat.zero_le _⟩ (fun τ1 H locs hr1 hP hDw hSw => ?_)
  obtain ⟨hN, hK, hT, hfb⟩ := hr1
  rw [ln_mT_b] at hT
  refine lv_aload_n X.1 X.2.1 dX10_burn_4 rfl (lv_at hl 0 rfl) ?_
  refine gM_0_11 X hP mF_X10_35 dX10_burn_5 ?_
  refine lv_iconst (v := nI 0) X.1 X.2.1 dX10_burn_8 (by decide) ?_
  refine lM_9 X hP (by decide) (v := nI (ln_bt N 0)) (hT 0 (ln_pos2 _)) dX10_burn_9 ?_
  subst hQ0
  exact ln_retU X hr hlk hP hSw rfl ⟨⟨hW, hN, by rw [hE99] at hK; exact hK⟩, rfl⟩ dX10_burn_10
set_option maxHeartbeats 4000000 in
set_option maxRecDepth 100000 in
theorem c_X10_hand (l : Launch) (D : va_G) (g : Nat → ClassId) (a : Nat → Nat) (σ : ln_S) (d : Nat) (N : ln_N) (hI : ln_MI N σ) (x : Int32) (hd : 3 ≤ d) : ln_U l D g (MW a g) yX10_hand (.code yX10_hand cX10_hand 6 (some .int)) d [.ref (a 0), .int x] σ (fun z τ => ln_MI N τ ∧ z = ln_hl N x 12 0 0) := by
  obtain ⟨hW, hN, hK⟩ := hI
  obtain ⟨E, hE99⟩ : ∃ E, E = 99 := ⟨_, rfl⟩
  rw [← hE99] at hK
  have hN12 := hW.n12
  have hp12 := hW.p12
  have hs1 := ln_sub1 (N 0 0)
  refine ln_ofU (by decide +kernel) (Nat.le_of_ble_eq_true rfl) (fun prg env rum sta mid args below meth cod ls A hr hlk X hA hP hDw hSw hl => ?_)
  have hl : lv_has ls 6 [(0, .ref (a 0)), (1, .int x)] := hl
  generalize hQ0 : (MQ below (va_Qi (fun z τ => ln_MI N τ ∧ z = ln_hl N x 12 0 0) (fun τ t => va_P D ln_cl (MW a g τ) t.heap) A) args sta 0 0 A) = Q0
  obtain ⟨H, hH⟩ : ∃ H, H = sta.heap := ⟨_, rfl⟩
  obtain ⟨locs, hlo⟩ : ∃ x : List Loc, x = [] := ⟨_, rfl⟩
  rw [← hH] at hP
  have hSw : va_S A sta.heap H locs := by rw [hH, hlo]; exact hSw
  have goal : W prg l env rum sta mid args below meth cod H locs 0 0 Q0 (F0 mid 0 ls []) := ?_
  · rw [hH, hlo] at goal; exact goal
  clear hlo
  refine lv_aload_n X.1 X.2.1 dX10_hand_0 rfl (lv_at hl 0 rfl) ?_
  refine ln_vV X (MW_ad a g) hA (c_X10_burns l D g a σ 2 N hW hN E hK (by omega) (Nat.le_refl _)) hP hDw hSw 0 rfl rfl mM_X10_124 Y_X10_burns rfl (by omega) hl.1 rfl (Nat.le_of_ble_eq_true rfl) dX10_hand_1 ⟨Nat.zero_le _, Nat.zero_le _⟩ (fun τ1 H locs hr1 hP hDw hSw => ?_)
  obtain ⟨hN, hK, hT, hfb⟩ := hr1
  rw [ln_mT_b] at hT
  refine lv_iconst (v := nI 0) X.1 X.2.1 dX10_hand_4 (by decide) ?_
  refine lv_istore_n (lv' := [(2, .int (nI 0)), (0, .ref (a 0)), (1, .int x)]) X.1 X.2.1 dX10_hand_5 rfl hl (by decide) rfl (fun ls hl => ?_)
  refine lv_iconst (v := nI 0) X.1 X.2.1 dX10_hand_6 (by decide) ?_
  refine lv_istore_n (lv' := [(3, .int (nI 0)), (2, .int (nI 0)), (0, .ref (a 0)), (1, .int x)]) X.1 X.2.1 dX10_hand_7 rfl hl (by decide) rfl (fun ls hl => ?_)
  have L8 : ∀ (K : Nat) (k : Nat) (on : Nat), 12 - k < K → (on < 2 ^ N 0 0) → (k ≤ ln_pc on) → (ln_hl N x (12 - k) k on = ln_hl N x 12 0 0) → ∀ ls : Array Slot, lv_has ls 6 [(0, .ref (a 0)), (1, .int x), (2, .int (nI on)), (3, .int (nI k))] → W prg l env rum sta mid args below meth cod H locs 0 0 Q0 (F0 mid 8 ls []) := by
    intro K
    induction K with
    | zero => intro k on hm; exact absurd hm (Nat.not_lt_zero _)
    | succ K ih8 =>
      intro k on hm8 hon hkp hh ls hl
      have hpo := ln_pc_le on
      refine lv_iload_n X.1 X.2.1 dX10_hand_8 rfl (lv_at hl 2 rfl) ?_
      refine lv_aload_n X.1 X.2.1 dX10_hand_9 rfl (lv_at hl 0 rfl) ?_
      refine ln_vR X (c_X10_all l D g a τ1 0 N hW hN (Nat.le_refl _)) hP 0 rfl rfl mM_X10_87 Y_X10_all rfl (by omega) hl.1 rfl (Nat.le_of_ble_eq_true rfl) dX10_hand_10 ⟨Nat.zero_le _, Nat.zero_le _⟩ (fun r10 hr10 => ?_)
      subst hr10
      refine rn_eq X (ln_31 (ln_n12 hW hon)) (ln_31 (Nat.lt_of_lt_of_le (Nat.sub_lt (ln_pos2 _) (by decide)) hp12)) (tgt := 100) dX10_hand_13 (by decide) (fun h13 => ?_) (fun h13 => ?_)
      · skip
        refine lv_iconst (v := ((-1))) X.1 X.2.1 dX10_hand_100 (by decide) ?_
        subst hQ0
        exact ln_retU X hr hlk hP hSw rfl ⟨⟨hW, hN, by rw [hE99] at hK; exact hK⟩, by rw [← hh, ln_hl_a (by rw [h13]; exact ln_wb_all hW)]⟩ dX10_hand_101
      · skip
        have hpa := ln_pc_all hW (show on < 2 ^ N 0 0 - 1 by omega)
        have hpa2 := ln_pc_le (2 ^ N 0 0 - 1)
        refine lv_iload_n X.1 X.2.1 dX10_hand_16 rfl (lv_at hl 2 rfl) ?_
        refine lv_aload_n X.1 X.2.1 dX10_hand_17 rfl (lv_at hl 0 rfl) ?_
        refine lv_iload_n X.1 X.2.1 dX10_hand_18 rfl (lv_at hl 2 rfl) ?_
        refine ln_vR X (c_X10_allBehind l D g a τ1 1 N hW hN on (ln_n12 hW hon) (Nat.le_refl _)) hP 0 rfl rfl mM_X10_74 Y_X10_allBehind rfl (by omega) hl.1 rfl (Nat.le_of_ble_eq_true rfl) dX10_hand_19 ⟨Nat.zero_le _, Nat.zero_le _⟩ (fun r19 hr19 => ?_)
        subst hr19
        refine rn_or X dX10_hand_22 ?_
        refine rn_top (y := nI (ln_wb N on)) rfl ?_
        refine lv_istore (lv' := [(4, .int (nI (ln_wb N on))), (0, .ref (a 0)), (1, .int x), (2, .int (nI on)), (3, .int (nI k))]) X.1 X.2.1 dX10_hand_23 hl (by decide) rfl (fun ls hl => ?_)
        refine lv_iload X.1 X.2.1 dX10_hand_25 (lv_at hl 0 rfl) ?_
        refine lv_aload_n X.1 X.2.1 dX10_hand_27 rfl (lv_at hl 1 rfl) ?_
        refine ln_vR X (c_X10_all l D g a τ1 0 N hW hN (Nat.le_refl _)) hP 0 rfl rfl mM_X10_87 Y_X10_all rfl (by omega) hl.1 rfl (Nat.le_of_ble_eq_true rfl) dX10_hand_28 ⟨Nat.zero_le _, Nat.zero_le _⟩ (fun r28 hr28 => ?_)
        subst hr28
        refine rn_ne X (ln_31 (ln_n12 hW (ln_wb_lt hW hon))) (ln_31 (Nat.lt_of_lt_of_le (Nat.sub_lt (ln_pos2 _) (by decide)) hp12)) (tgt := 36) dX10_hand_31 (by decide) (fun h31 => ?_) (fun h31 => ?_)
        · skip
          obtain ⟨hbp1, hbp2, hbp3⟩ := ln_bp_ok hW (ln_wb_lt hW hon) h31
          refine lv_iconst (v := nI 0) X.1 X.2.1 dX10_hand_36 (by decide) ?_
          refine lv_istore (lv' := [(5, .int (nI 0)), (4, .int (nI (ln_wb N on))), (0, .ref (a 0)), (1, .int x), (2, .int (nI on)), (3, .int (nI k))]) X.1 X.2.1 dX10_hand_37 hl (by decide) rfl (fun ls hl => ?_)
          have L39 : ∀ (K : Nat) (p : Nat), N 0 0 - p < K → (p ≤ ln_bp N (ln_wb N on)) → (∀ j, j < p → ln_bpf N (ln_wb N on) j = false) → ∀ ls : Array Slot, lv_has ls 6 [(0, .ref (a 0)), (1, .int x), (2, .int (nI on)), (3, .int (nI k)), (4, .int (nI (ln_wb N on))), (5, .int (nI p))] → W prg l env rum sta mid args below meth cod H locs 0 0 Q0 (F0 mid 39 ls []) := by
            intro K
            induction K with
            | zero => intro p hm; exact absurd hm (Nat.not_lt_zero _)
            | succ K ih39 =>
              intro p hm39 hp hj ls hl
              refine lv_iload X.1 X.2.1 dX10_hand_39 (lv_at hl 4 rfl) ?_
              refine lv_iload X.1 X.2.1 dX10_hand_41 (lv_at hl 5 rfl) ?_
              refine ln_sR X (c_X10_has l D g 0 (ln_wb N on) p (ln_31 (ln_n12 hW (ln_wb_lt hW hon))) (by omega) (Nat.le_refl _)) ln_nil mM_X10_70 Y_X10_has rfl (by omega) hl.1 rfl (Nat.le_of_ble_eq_true rfl) dX10_hand_43 ⟨Nat.zero_le _, Nat.zero_le _⟩ (fun r43 hr43 => ?_)
              subst hr43
              refine rn_neB X (tgt := 72) dX10_hand_46 (by decide) (fun h46 => ?_) (fun h46 => ?_)
              · skip
                refine lv_iinc (v := nI (p + 1)) (lv' := [(5, .int (nI (p + 1))), (0, .ref (a 0)), (1, .int x), (2, .int (nI on)), (3, .int (nI k)), (4, .int (nI (ln_wb N on)))]) X.1 X.2.1 dX10_hand_72 hl (k := 5) rfl rn_inc (by decide) rfl (fun ls hl => ?_)
                refine lv_goto (tgt := 39) X.1 X.2.1 dX10_hand_75 (by decide) ?_
                exact ih39 (p + 1) (by omega) (by have z := ln_fs_min hbp1 (ln_lt_s hj (by first | exact ln_bpf_a h46 | exact ln_bpf_b hW hon h13 h31 h69)); exact z) (ln_lt_s hj (by first | exact ln_bpf_a h46 | exact ln_bpf_b hW hon h13 h31 h69)) ls (lv_sub hl [1, 2, 3, 4, 5, 0] rfl)
              · skip
                have hg12 : ln_bt N (ln_wb N on ||| 2 ^ p) ≤ 12 := ln_bt12 hW (ln_put_lt (ln_wb_lt hW hon) (by omega))
                have ho12 := ln_bt12 hW hon
                refine lv_iconst (v := nI 1) X.1 X.2.1 dX10_hand_49 (by decide) ?_
                refine lv_aload_n X.1 X.2.1 dX10_hand_50 rfl (lv_at hl 0 rfl) ?_
                refine gM_0_11 X hP mF_X10_35 dX10_hand_51 ?_
                refine lv_iload X.1 X.2.1 dX10_hand_54 (lv_at hl 4 rfl) ?_
                refine lv_iconst (v := nI 1) X.1 X.2.1 dX10_hand_56 (by decide) ?_
                refine lv_iload X.1 X.2.1 dX10_hand_57 (lv_at hl 5 rfl) ?_
                refine rn_shl X (by omega) dX10_hand_59 ?_
                refine rn_or X dX10_hand_60 ?_
                refine lM_9 X hP (ln_n12 hW (ln_put_lt (ln_wb_lt hW hon) (by omega))) (v := nI (ln_bt N (ln_wb N on ||| 2 ^ p))) (hT _ (ln_put_lt (ln_wb_lt hW hon) (by omega))) dX10_hand_61 ?_
                refine rn_add X dX10_hand_62 ?_
                refine lv_aload_n X.1 X.2.1 dX10_hand_63 rfl (lv_at hl 0 rfl) ?_
                refine gM_0_11 X hP mF_X10_35 dX10_hand_64 ?_
                refine lv_iload_n X.1 X.2.1 dX10_hand_67 rfl (lv_at hl 2 rfl) ?_
                refine lM_9 X hP (ln_n12 hW hon) (v := nI (ln_bt N on)) (hT _ hon) dX10_hand_68 ?_
                refine rn_eq X (by omega) (by omega) (tgt := 78) dX10_hand_69 (by decide) (fun h69 => ?_) (fun h69 => ?_)
                · skip
                  have hpe : p = ln_bp N (ln_wb N on) := (ln_fs_eq (ln_bpf_c hW hon h13 h31 h46 h69) hj (by omega)).symm
                  refine lv_iload_n X.1 X.2.1 dX10_hand_78 rfl (lv_at hl 3 rfl) ?_
                  refine lv_iload_n X.1 X.2.1 dX10_hand_79 rfl (lv_at hl 1 rfl) ?_
                  refine lv_icmp_ne (tgt := 86) X.1 X.2.1 dX10_hand_80 (by decide) (fun h80 => ?_) (fun h80 => ?_)
                  · skip
                    refine lv_iinc (v := nI (k + 1)) (lv' := [(3, .int (nI (k + 1))), (0, .ref (a 0)), (1, .int x), (2, .int (nI on)), (4, .int (nI (ln_wb N on))), (5, .int (nI p))]) X.1 X.2.1 dX10_hand_86 hl (k := 3) rfl rn_inc (by decide) rfl (fun ls hl => ?_)
                    refine lv_iload X.1 X.2.1 dX10_hand_89 (lv_at hl 4 rfl) ?_
                    refine lv_iconst (v := nI 1) X.1 X.2.1 dX10_hand_91 (by decide) ?_
                    refine lv_iload X.1 X.2.1 dX10_hand_92 (lv_at hl 5 rfl) ?_
                    refine rn_shl X (by omega) dX10_hand_94 ?_
                    refine rn_or X dX10_hand_95 ?_
                    refine lv_istore_n (lv' := [(2, .int (nI ((ln_wb N on) ||| (2 ^ p)))), (3, .int (nI (k + 1))), (0, .ref (a 0)), (1, .int x), (4, .int (nI (ln_wb N on))), (5, .int (nI p))]) X.1 X.2.1 dX10_hand_96 rfl hl (by decide) rfl (fun ls hl => ?_)
                    refine lv_goto (tgt := 8) X.1 X.2.1 dX10_hand_97 (by decide) ?_
                    exact ih8 (k + 1) _ (by omega) (ln_put_lt (ln_wb_lt hW hon) (by omega)) (by have := ln_pc_put hW (ln_wb_lt hW hon) (show p < N 0 0 by omega) (ln_sb_or on _) h46; omega) (by rw [hpe, ← hh, show 12 - k = (12 - (k + 1)) + 1 by omega, ln_hl_c h31 h80]) ls (lv_sub hl [2, 3, 0, 1] rfl)
                  · skip
                    refine lv_iload X.1 X.2.1 dX10_hand_83 (lv_at hl 5 rfl) ?_
                    subst hQ0
                    exact ln_retU X hr hlk hP hSw rfl ⟨⟨hW, hN, by rw [hE99] at hK; exact hK⟩, by rw [← hh, show 12 - k = (12 - (k + 1)) + 1 by omega, ln_hl_b h31 h80, hpe]⟩ dX10_hand_85
                · skip
                  refine lv_iinc (v := nI (p + 1)) (lv' := [(5, .int (nI (p + 1))), (0, .ref (a 0)), (1, .int x), (2, .int (nI on)), (3, .int (nI k)), (4, .int (nI (ln_wb N on)))]) X.1 X.2.1 dX10_hand_72 hl (k := 5) rfl rn_inc (by decide) rfl (fun ls hl => ?_)
                  refine lv_goto (tgt := 39) X.1 X.2.1 dX10_hand_75 (by decide) ?_
                  exact ih39 (p + 1) (by omega) (by have z := ln_fs_min hbp1 (ln_lt_s hj (by first | exact ln_bpf_a h46 | exact ln_bpf_b hW hon h13 h31 h69)); exact z) (ln_lt_s hj (by first | exact ln_bpf_a h46 | exact ln_bpf_b hW hon h13 h31 h69)) ls (lv_sub hl [1, 2, 3, 4, 5, 0] rfl)
          exact L39 _ 0 (Nat.lt_succ_self _) (Nat.zero_le _) (fun j h => absurd h (Nat.not_lt_zero j)) ls (lv_sub hl [2, 3, 4, 5, 1, 0] rfl)
        · skip
          refine lv_iconst (v := ((-1))) X.1 X.2.1 dX10_hand_34 (by decide) ?_
          subst hQ0
          exact ln_retU X hr hlk hP hSw rfl ⟨⟨hW, hN, by rw [hE99] at hK; exact hK⟩, by rw [← hh, ln_hl_a h31]⟩ dX10_hand_35
  exact L8 _ 0 0 (Nat.lt_succ_self _) (ln_pos2 _) (Nat.zero_le _) rfl ls (lv_sub hl [2, 3, 1, 0] rfl)
set_option maxHeartbeats 4000000 in
set_option maxRecDepth 100000 in
theorem c_X10_burnt (l : Launch) (D : va_G) (g : Nat → ClassId) (a : Nat → Nat) (σ : ln_S) (d : Nat) (N : ln_N) (hW : ln_wf N) (hN : ln_nM N σ) (q : Nat) (hq : q < 2 ^ 63) (hd : 2 ≤ d) : ln_R l D g (MW a g σ) yX10_burnt (.code yX10_burnt cX10_burnt 9 (some .int)) d [.ref (a 0), .long (lN q)] (fun z => z = ln_bn N 13 0 0 q) := by
  have hN12 := hW.n12
  have hp12 := hW.p12
  have hs1 := ln_sub1 (N 0 0)
  refine ln_ofR (by decide +kernel) (Nat.le_of_ble_eq_true rfl) (fun prg env rum sta mid args below meth cod ls hr hlk X hP hl => ?_)
  have hl : lv_has ls 9 [(0, .ref (a 0)), (1, .long (lN q))] := hl
  generalize hQ0 : (MQ below (vp_Si (fun z => z = ln_bn N 13 0 0 q)) args sta 0 0 (fun _ => False)) = Q0
  refine lv_lload_n X.1 X.2.1 dX10_burnt_0 rfl (lv_at hl 1 rfl) ?_
  refine lv_lconst (v := lN 0) X.1 X.2.1 dX10_burnt_1 (by decide) ?_
  refine rn_lcmp0 X (by omega) dX10_burnt_2 ?_
  refine rn_ge0 X (by split <;> decide) (tgt := 9) dX10_burnt_3 (by decide) ?_
  refine lv_lload_n X.1 X.2.1 dX10_burnt_9 rfl (lv_at hl 1 rfl) ?_
  refine lv_lstore_n (lv' := [(3, .long (lN q)), (0, .ref (a 0)), (1, .long (lN q))]) X.1 X.2.1 dX10_burnt_10 rfl hl (by decide) rfl (fun ls hl => ?_)
  refine lv_iconst (v := nI 0) X.1 X.2.1 dX10_burnt_11 (by decide) ?_
  refine lv_istore (lv' := [(5, .int (nI 0)), (3, .long (lN q)), (0, .ref (a 0)), (1, .long (lN q))]) X.1 X.2.1 dX10_burnt_12 hl (by decide) rfl (fun ls hl => ?_)
  refine lv_iconst (v := nI 0) X.1 X.2.1 dX10_burnt_14 (by decide) ?_
  refine lv_istore (lv' := [(6, .int (nI 0)), (5, .int (nI 0)), (3, .long (lN q)), (0, .ref (a 0)), (1, .long (lN q))]) X.1 X.2.1 dX10_burnt_15 hl (by decide) rfl (fun ls hl => ?_)
  have L17 : ∀ (K : Nat) (k : Nat) (on : Nat) (u : Nat), 13 - k < K → (on < 2 ^ N 0 0) → (k ≤ ln_pc on) → (u < 2 ^ 63) → (ln_bn N (13 - k) k on u = ln_bn N 13 0 0 q) → ∀ ls : Array Slot, lv_has ls 9 [(0, .ref (a 0)), (3, .long (lN u)), (5, .int (nI on)), (6, .int (nI k))] → W prg l env rum sta mid args below meth cod sta.heap [] 0 0 Q0 (F0 mid 17 ls []) := by
    intro K
    induction K with
    | zero => intro k on u hm; exact absurd hm (Nat.not_lt_zero _)
    | succ K ih17 =>
      intro k on u hm17 hon hkp hu hh ls hl
      have hpo := ln_pc_le on
      refine lv_iload X.1 X.2.1 dX10_burnt_17 (lv_at hl 2 rfl) ?_
      refine lv_aload_n X.1 X.2.1 dX10_burnt_19 rfl (lv_at hl 0 rfl) ?_
      refine ln_vR X (c_X10_all l D g a σ 0 N hW hN (Nat.le_refl _)) hP 0 rfl rfl mM_X10_87 Y_X10_all rfl (by omega) hl.1 rfl (Nat.le_of_ble_eq_true rfl) dX10_burnt_20 ⟨Nat.zero_le _, Nat.zero_le _⟩ (fun r20 hr20 => ?_)
      subst hr20
      refine rn_eq X (ln_31 (ln_n12 hW hon)) (ln_31 (Nat.lt_of_lt_of_le (Nat.sub_lt (ln_pos2 _) (by decide)) hp12)) (tgt := 124) dX10_burnt_23 (by decide) (fun h23 => ?_) (fun h23 => ?_)
      · skip
        refine lv_iload X.1 X.2.1 dX10_burnt_124 (lv_at hl 3 rfl) ?_
        subst hQ0
        exact ln_retR X hr hlk rfl (by rw [← hh, show 13 - k = (12 - k) + 1 by omega, ln_bn_a h23]) dX10_burnt_126
      · skip
        have hpa := ln_pc_all hW (show on < 2 ^ N 0 0 - 1 by omega)
        have hpa2 := ln_pc_le (2 ^ N 0 0 - 1)
        refine lv_iinc (v := nI (k + 1)) (lv' := [(6, .int (nI (k + 1))), (0, .ref (a 0)), (3, .long (lN u)), (5, .int (nI on))]) X.1 X.2.1 dX10_burnt_26 hl (k := 3) rfl rn_inc (by decide) rfl (fun ls hl => ?_)
        refine lv_iload X.1 X.2.1 dX10_burnt_29 (lv_at hl 3 rfl) ?_
        refine lv_istore (lv' := [(7, .int (nI on)), (6, .int (nI (k + 1))), (0, .ref (a 0)), (3, .long (lN u)), (5, .int (nI on))]) X.1 X.2.1 dX10_burnt_31 hl (by decide) rfl (fun ls hl => ?_)
        refine lv_iload X.1 X.2.1 dX10_burnt_33 (lv_at hl 4 rfl) ?_
        refine lv_aload_n X.1 X.2.1 dX10_burnt_35 rfl (lv_at hl 2 rfl) ?_
        refine lv_iload X.1 X.2.1 dX10_burnt_36 (lv_at hl 4 rfl) ?_
        refine ln_vR X (c_X10_allBehind l D g a σ 1 N hW hN on (ln_n12 hW hon) (Nat.le_refl _)) hP 0 rfl rfl mM_X10_74 Y_X10_allBehind rfl (by omega) hl.1 rfl (Nat.le_of_ble_eq_true rfl) dX10_burnt_38 ⟨Nat.zero_le _, Nat.zero_le _⟩ (fun r38 hr38 => ?_)
        subst hr38
        refine rn_or X dX10_burnt_41 ?_
        refine rn_top (y := nI (ln_wb N on)) rfl ?_
        refine lv_istore (lv' := [(5, .int (nI (ln_wb N on))), (7, .int (nI on)), (6, .int (nI (k + 1))), (0, .ref (a 0)), (3, .long (lN u))]) X.1 X.2.1 dX10_burnt_42 hl (by decide) rfl (fun ls hl => ?_)
        refine lv_iload X.1 X.2.1 dX10_burnt_44 (lv_at hl 0 rfl) ?_
        refine lv_aload_n X.1 X.2.1 dX10_burnt_46 rfl (lv_at hl 3 rfl) ?_
        refine ln_vR X (c_X10_all l D g a σ 0 N hW hN (Nat.le_refl _)) hP 0 rfl rfl mM_X10_87 Y_X10_all rfl (by omega) hl.1 rfl (Nat.le_of_ble_eq_true rfl) dX10_burnt_47 ⟨Nat.zero_le _, Nat.zero_le _⟩ (fun r47 hr47 => ?_)
        subst hr47
        refine rn_ne X (ln_31 (ln_n12 hW (ln_wb_lt hW hon))) (ln_31 (Nat.lt_of_lt_of_le (Nat.sub_lt (ln_pos2 _) (by decide)) hp12)) (tgt := 56) dX10_burnt_50 (by decide) (fun h50 => ?_) (fun h50 => ?_)
        · skip
          refine lv_lload_n X.1 X.2.1 dX10_burnt_56 rfl (lv_at hl 4 rfl) ?_
          refine lv_lconst (v := lN 0) X.1 X.2.1 dX10_burnt_57 (by decide) ?_
          refine rn_lcmp0 X (by omega) dX10_burnt_58 ?_
          refine rn_le0 X (by split <;> decide) (tgt := 112) dX10_burnt_59 (by decide) (fun h59 => ?_) (fun h59 => ?_)
          · skip
            have hu0 : u = 0 := ln_ite0 h59
            refine lv_iload X.1 X.2.1 dX10_burnt_112 (lv_at hl 0 rfl) ?_
            refine lv_iload X.1 X.2.1 dX10_burnt_114 (lv_at hl 1 rfl) ?_
            refine rn_ne X (ln_31 (ln_n12 hW (ln_wb_lt hW hon))) (ln_31 (ln_n12 hW hon)) (tgt := 121) dX10_burnt_116 (by decide) (fun h116 => ?_) (fun h116 => ?_)
            · skip
              refine lv_goto (tgt := 17) X.1 X.2.1 dX10_burnt_121 (by decide) ?_
              exact ih17 (k + 1) _ _ (by omega) (by first | exact (ln_wb_lt hW hon) | exact ln_put_lt (ln_wb_lt hW hon) hjn) (by first | (have := ln_pc_put hW (ln_wb_lt hW hon) hjn (ln_sb_or on _) h94; omega) | (have := ln_pc_lt (ln_sb_or on (ln_bhs N on (N 0 0))) (ln_n12 hW (ln_wb_lt hW hon)) (fun z => h116 z.symm); have z2 : ln_pc on < ln_pc (ln_wb N on) := this; omega)) (by omega) (by rw [← hh, show 13 - k = (13 - (k + 1)) + 1 by omega]; first | rw [ln_bn_e h23 (Or.inr hu0) h116] | rw [ln_bn_b h23 h50 hu0 ek hjn h94]) ls (lv_sub hl [3, 4, 0, 2] rfl)
            · skip
              refine lv_iconst (v := ((-1))) X.1 X.2.1 dX10_burnt_119 (by decide) ?_
              subst hQ0
              exact ln_retR X hr hlk rfl (by rw [← hh, show 13 - k = (13 - (k + 1)) + 1 by omega, ln_bn_d h23 (Or.inr hu0) h116]) dX10_burnt_120
          · skip
            have hu0 : u ≠ 0 := ln_ite1 h59
            refine lv_lload_n X.1 X.2.1 dX10_burnt_62 rfl (lv_at hl 4 rfl) ?_
            refine lv_ldc2 X.1 X.2.1 X.2.2.2.1 (X.ts args mK_X10_127 rfl) dX10_burnt_63 ?_
            refine rn_lrem X (by omega) dX10_burnt_66 ?_
            refine rn_l2i X dX10_burnt_67 ?_
            refine lv_iconst (v := nI 1) X.1 X.2.1 dX10_burnt_68 (by decide) ?_
            refine lv_isub X.1 X.2.1 dX10_burnt_69 ?_
            rcases ln_m1_cases (u % 13) with ⟨ek, e1⟩ | ⟨j, ek, e1⟩
            · refine rn_top (y := ((-1))) e1 ?_
              refine lv_istore (lv' := [(8, .int ((-1))), (5, .int (nI (ln_wb N on))), (7, .int (nI on)), (6, .int (nI (k + 1))), (0, .ref (a 0)), (3, .long (lN u))]) X.1 X.2.1 dX10_burnt_70 hl (by decide) rfl (fun ls hl => ?_)
              refine lv_lload_n X.1 X.2.1 dX10_burnt_72 rfl (lv_at hl 5 rfl) ?_
              refine lv_ldc2 X.1 X.2.1 X.2.2.2.1 (X.ts args mK_X10_127 rfl) dX10_burnt_73 ?_
              refine rn_ldiv X (by omega) dX10_burnt_76 ?_
              refine lv_lstore_n (lv' := [(3, .long (lN (u / 13))), (8, .int ((-1))), (5, .int (nI (ln_wb N on))), (7, .int (nI on)), (6, .int (nI (k + 1))), (0, .ref (a 0))]) X.1 X.2.1 dX10_burnt_77 rfl hl (by decide) rfl (fun ls hl => ?_)
              refine lv_aload_n X.1 X.2.1 dX10_burnt_78 rfl (lv_at hl 5 rfl) ?_
              refine lv_iload X.1 X.2.1 dX10_burnt_79 (lv_at hl 1 rfl) ?_
              refine ln_vR X (c_X10_isPost l D g a σ 1 N hW hN (((-1))) (Nat.le_refl _)) hP 0 rfl rfl mM_X10_59 Y_X10_isPost rfl (by omega) hl.1 rfl (Nat.le_of_ble_eq_true rfl) dX10_burnt_81 ⟨Nat.zero_le _, Nat.zero_le _⟩ (fun r81 hr81 => ?_)
              subst hr81
              refine rn_eqB X (tgt := 97) dX10_burnt_84 (by decide) (fun h84 => ?_) (fun h84 => absurd h84 (by rw [ln_inr_lt (by decide)]; decide))
              refine lv_bipush (v := ((-2))) X.1 X.2.1 dX10_burnt_97 (by decide) ?_
              subst hQ0
              exact ln_retR X hr hlk rfl (by rw [← hh, show 13 - k = (13 - (k + 1)) + 1 by omega, ln_bn_c h23 h50 hu0 (fun z => by first | omega | (rw [ln_inr_nI (by omega)] at h84; have := of_decide_eq_false h84; omega) | (rw [ek] at z; have z3 := z.2.2; rw [Nat.add_sub_cancel, h94] at z3; exact absurd z3 (by decide)))]) dX10_burnt_99
            · refine rn_top (y := nI j) e1 ?_
              refine lv_istore (lv' := [(8, .int (nI j)), (5, .int (nI (ln_wb N on))), (7, .int (nI on)), (6, .int (nI (k + 1))), (0, .ref (a 0)), (3, .long (lN u))]) X.1 X.2.1 dX10_burnt_70 hl (by decide) rfl (fun ls hl => ?_)
              refine lv_lload_n X.1 X.2.1 dX10_burnt_72 rfl (lv_at hl 5 rfl) ?_
              refine lv_ldc2 X.1 X.2.1 X.2.2.2.1 (X.ts args mK_X10_127 rfl) dX10_burnt_73 ?_
              refine rn_ldiv X (by omega) dX10_burnt_76 ?_
              refine lv_lstore_n (lv' := [(3, .long (lN (u / 13))), (8, .int (nI j)), (5, .int (nI (ln_wb N on))), (7, .int (nI on)), (6, .int (nI (k + 1))), (0, .ref (a 0))]) X.1 X.2.1 dX10_burnt_77 rfl hl (by decide) rfl (fun ls hl => ?_)
              refine lv_aload_n X.1 X.2.1 dX10_burnt_78 rfl (lv_at hl 5 rfl) ?_
              refine lv_iload X.1 X.2.1 dX10_burnt_79 (lv_at hl 1 rfl) ?_
              refine ln_vR X (c_X10_isPost l D g a σ 1 N hW hN (nI j) (Nat.le_refl _)) hP 0 rfl rfl mM_X10_59 Y_X10_isPost rfl (by omega) hl.1 rfl (Nat.le_of_ble_eq_true rfl) dX10_burnt_81 ⟨Nat.zero_le _, Nat.zero_le _⟩ (fun r81 hr81 => ?_)
              subst hr81
              refine rn_eqB X (tgt := 97) dX10_burnt_84 (by decide) (fun h84 => ?_) (fun h84 => ?_)
              · skip
                refine lv_bipush (v := ((-2))) X.1 X.2.1 dX10_burnt_97 (by decide) ?_
                subst hQ0
                exact ln_retR X hr hlk rfl (by rw [← hh, show 13 - k = (13 - (k + 1)) + 1 by omega, ln_bn_c h23 h50 hu0 (fun z => by first | omega | (rw [ln_inr_nI (by omega)] at h84; have := of_decide_eq_false h84; omega) | (rw [ek] at z; have z3 := z.2.2; rw [Nat.add_sub_cancel, h94] at z3; exact absurd z3 (by decide)))]) dX10_burnt_99
              · skip
                have hjn : j < N 0 0 := by rw [ln_inr_nI (by omega)] at h84; exact of_decide_eq_true h84
                refine lv_iload X.1 X.2.1 dX10_burnt_87 (lv_at hl 2 rfl) ?_
                refine lv_iload X.1 X.2.1 dX10_burnt_89 (lv_at hl 1 rfl) ?_
                refine ln_sR X (c_X10_has l D g 0 (ln_wb N on) j (ln_31 (ln_n12 hW (ln_wb_lt hW hon))) (by omega) (Nat.le_refl _)) ln_nil mM_X10_70 Y_X10_has rfl (by omega) hl.1 rfl (Nat.le_of_ble_eq_true rfl) dX10_burnt_91 ⟨Nat.zero_le _, Nat.zero_le _⟩ (fun r91 hr91 => ?_)
                subst hr91
                refine rn_eqB X (tgt := 100) dX10_burnt_94 (by decide) (fun h94 => ?_) (fun h94 => ?_)
                · skip
                  refine lv_iload X.1 X.2.1 dX10_burnt_100 (lv_at hl 2 rfl) ?_
                  refine lv_iconst (v := nI 1) X.1 X.2.1 dX10_burnt_102 (by decide) ?_
                  refine lv_iload X.1 X.2.1 dX10_burnt_103 (lv_at hl 1 rfl) ?_
                  refine rn_shl X (by omega) dX10_burnt_105 ?_
                  refine rn_or X dX10_burnt_106 ?_
                  refine lv_istore (lv' := [(5, .int (nI ((ln_wb N on) ||| (2 ^ j)))), (3, .long (lN (u / 13))), (8, .int (nI j)), (7, .int (nI on)), (6, .int (nI (k + 1))), (0, .ref (a 0))]) X.1 X.2.1 dX10_burnt_107 hl (by decide) rfl (fun ls hl => ?_)
                  refine lv_goto (tgt := 121) X.1 X.2.1 dX10_burnt_109 (by decide) ?_
                  refine lv_goto (tgt := 17) X.1 X.2.1 dX10_burnt_121 (by decide) ?_
                  exact ih17 (k + 1) _ _ (by omega) (by first | exact (ln_wb_lt hW hon) | exact ln_put_lt (ln_wb_lt hW hon) hjn) (by first | (have := ln_pc_put hW (ln_wb_lt hW hon) hjn (ln_sb_or on _) h94; omega) | (have := ln_pc_lt (ln_sb_or on (ln_bhs N on (N 0 0))) (ln_n12 hW (ln_wb_lt hW hon)) (fun z => h116 z.symm); have z2 : ln_pc on < ln_pc (ln_wb N on) := this; omega)) (by omega) (by rw [← hh, show 13 - k = (13 - (k + 1)) + 1 by omega]; first | rw [ln_bn_e h23 (Or.inr hu0) h116] | rw [ln_bn_b h23 h50 hu0 ek hjn h94]) ls (lv_sub hl [5, 1, 0, 4] rfl)
                · skip
                  refine lv_bipush (v := ((-2))) X.1 X.2.1 dX10_burnt_97 (by decide) ?_
                  subst hQ0
                  exact ln_retR X hr hlk rfl (by rw [← hh, show 13 - k = (13 - (k + 1)) + 1 by omega, ln_bn_c h23 h50 hu0 (fun z => by first | omega | (rw [ln_inr_nI (by omega)] at h84; have := of_decide_eq_false h84; omega) | (rw [ek] at z; have z3 := z.2.2; rw [Nat.add_sub_cancel, h94] at z3; exact absurd z3 (by decide)))]) dX10_burnt_99
        · skip
          refine lv_iload X.1 X.2.1 dX10_burnt_53 (lv_at hl 2 rfl) ?_
          subst hQ0
          exact ln_retR X hr hlk rfl (by rw [← hh, show 13 - k = (11 - k) + 1 + 1 by omega, ln_bn_e h23 (Or.inl h50) (by rw [h50]; exact Ne.symm h23), ln_bn_a h50]) dX10_burnt_55
  exact L17 _ 0 0 q (Nat.lt_succ_self _) (ln_pos2 _) (Nat.zero_le _) hq rfl ls (lv_sub hl [3, 2, 1, 0] rfl)
