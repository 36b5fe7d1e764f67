def ln_gdrop (N : ln_N) (h : Nat → Bool) (s : Nat) : Nat → Bool := fun T => if T = s then false else ln_gs N h s T
/-- inside the round, at a set: either nothing has failed yet, or it has -/
def ln_gP (N : ln_N) (h : Nat → Bool) (s p : Nat) (m0 m : Bool) (hh : Nat → Bool) : Prop := (hh = ln_gs N h s ∧ m = m0 ∧ ∀ j, j < p → s.testBit j = false → ln_fs (ln_an N (ln_gs N h s) s j) (N 0 0) < N 0 0) ∨ (hh = ln_gdrop N h s ∧ m = true ∧ ln_gs N h s s = true ∧ ln_aa N (ln_gs N h s) s = false)
/-- what the flag says -/
def ln_gF (N : ln_N) (h : Nat → Bool) (s : Nat) (m : Bool) : Prop := (m = false → ∀ T, T < 2 ^ N 0 0 → ln_gs N h s T = h T) ∧ (m = true → ∃ T, T < 2 ^ N 0 0 ∧ h T = true ∧ ln_gs N h s T = false)
theorem ln_gP_end {N : ln_N} {h : Nat → Bool} {s p : Nat} {m0 m : Bool} {hh : Nat → Bool} (hs : s < 2 ^ N 0 0) (H : ln_gP N h s p m0 m hh) (F : ln_gF N h s m0) (hx : N 0 0 ≤ p ∨ hh s = false) : (∀ T, hh T = ln_gs N h (s + 1) T) ∧ ln_gF N h (s + 1) m := by
  rcases H with ⟨h1, h2, h3⟩ | ⟨h1, h2, h3, h4⟩
  · subst h1 h2
    have hk : ln_gs N h s s = false ∨ ln_aa N (ln_gs N h s) s = true := by
      rcases hx with q | q
      · exact Or.inr (ln_aa_t (fun p2 hp hb => h3 p2 (by omega) hb))
      · exact Or.inl q
    refine ⟨fun T => (ln_gs_keep hk T).symm, fun q T hT => by rw [ln_gs_keep hk T]; exact F.1 q T hT, fun q => ?_⟩
    obtain ⟨T, t1, t2, t3⟩ := F.2 q
    exact ⟨T, t1, t2, by rw [ln_gs_keep hk T]; exact t3⟩
  · subst h1 h2
    refine ⟨fun T => (ln_gs_drop h4 T).symm, fun q => absurd q (by decide), fun _ => ⟨s, hs, ln_gs_le h3, ?_⟩⟩
    rw [ln_gs_drop h4 s, if_pos rfl]
theorem ln_gP_next {N : ln_N} {h : Nat → Bool} {s p : Nat} {m0 m : Bool} {hh : Nat → Bool} (H : ln_gP N h s p m0 m hh) (hx : s.testBit p = true ∨ ln_fs (ln_an N hh s p) (N 0 0) < N 0 0) : ln_gP N h s (p + 1) m0 m hh := by
  rcases H with ⟨h1, h2, h3⟩ | h4
  · subst h1
    refine Or.inl ⟨rfl, h2, fun j hj hb => ?_⟩
    by_cases e : j = p
    · subst e
      rcases hx with q | q
      · rw [q] at hb; exact absurd hb (by decide)
      · exact q
    · exact h3 j (by omega) hb
  · exact Or.inr h4
theorem ln_gP_fail {N : ln_N} {h : Nat → Bool} {s p : Nat} {m0 m : Bool} {hh : Nat → Bool} (H : ln_gP N h s p m0 m hh) (hp : p < N 0 0) (hs : hh s = true) (hb : s.testBit p = false) (hx : ¬ ln_fs (ln_an N hh s p) (N 0 0) < N 0 0) : ln_gP N h s (p + 1) m0 true (fun T => if T = s then false else hh T) := by
  rcases H with ⟨h1, h2, h3⟩ | ⟨h1, h2, h3, h4⟩
  · subst h1
    exact Or.inr ⟨rfl, rfl, hs, ln_aa_f hp hb hx⟩
  · rw [h1] at hs
    unfold ln_gdrop at hs
    rw [if_pos rfl] at hs
    exact absurd hs (by decide)
theorem ln_gF_0 (N : ln_N) (h : Nat → Bool) : ln_gF N h 0 false := ⟨fun _ _ _ => rfl, fun q => absurd q (by decide)⟩
theorem ln_mT_ho {N : ln_N} {σ τ : ln_S} {k : Nat} (hk : k < 10) (ho : ∀ c, c ≠ 0 → c ≠ 11 → τ c = σ c) (h : ln_mT N σ k) : ln_mT N τ k := h.of (fun c hc => ho c (by omega) (by omega))
/-- a count of what still holds -/
def ln_gC (N : ln_N) (k : Nat) : Nat := ln_ct (ln_gr N k) (2 ^ N 0 0)
theorem ln_gC_lt {N : ln_N} {k : Nat} (h : ∃ T, T < 2 ^ N 0 0 ∧ ln_gr N k T = true ∧ ln_gs N (ln_gr N k) (2 ^ N 0 0) T = false) : ln_gC N (k + 1) < ln_gC N k := by
  obtain ⟨T, h1, h2, h3⟩ := h
  exact ln_ct_lt2 (fun j _ q => ln_gs_le q) h1 h3 h2
theorem ln_gC_eq {N : ln_N} {k : Nat} (h : ∀ T, T < 2 ^ N 0 0 → ln_gs N (ln_gr N k) (2 ^ N 0 0) T = ln_gr N k T) : ln_gC N (k + 1) = ln_gC N k := ln_ct_cg h
theorem ln_testBit_hi {K k : Nat} (h : K < 2048) (hb : K.testBit k = true) : k < 11 := ln_bit_n (n := 11) h hb
theorem ln_MK_put2 {N : ln_N} {σ τ : ln_S} {E K : Nat} (hK2 : K < 2048) (hr : 10 < 11) (h3 : ∀ k, k ≠ E → K.testBit k = true → ln_mT N σ k) (h01 : τ 0 1 = nI (K ||| 2 ^ 10)) (hT : ln_mT N τ 10) (hO : ∀ k, k < 10 → ln_mT N σ k → ln_mT N τ k) : ln_MK N τ E := by
  refine ⟨_, h01, ln_K11 hK2 hr, fun k hk hb => ?_⟩
  by_cases e : k = 10
  · subst e; exact hT
  · have h11 := ln_testBit_hi (ln_K11 hK2 hr) hb
    rw [ln_or_bit, decide_eq_false (Ne.symm e), Bool.or_false] at hb
    exact hO k (by omega) (h3 k hk hb)
set_option maxHeartbeats 4000000 in
set_option maxRecDepth 100000 in
theorem c_X10_answers (l : Launch) (D : va_G) (g : Nat → ClassId) (a : Nat → Nat) (σ : ln_S) (d : Nat) (N : ln_N) (hW : ln_wf N) (hN : ln_nM N σ) (h : Nat → Bool) (hHo : ∀ T, T < 2 ^ N 0 0 → σ 11 T = ln_b (h T)) (S p : Nat) (hS : S < 2 ^ N 0 0) (hp : p < N 0 0) (hd : 1 ≤ d) : ln_R l D g (MW a g σ) yX10_answers (.code yX10_answers cX10_answers 4 (some .int)) d [.ref (a 0), .int (nI S), .int (nI p)] (fun z => z = ln_fr (ln_an N h S p) (N 0 0)) := by
  have hN12 := hW.n12
  have hp12 := hW.p12
  have hs1 := ln_sub1 (N 0 0)
  refine ln_ofR (by decide +kernel) (Nat.le_of_ble_eq_true rfl) (fun prg env rum sta mid args below meth cod ls hr hlk X hP hl => ?_)
  have hl : lv_has ls 4 [(0, .ref (a 0)), (1, .int (nI S)), (2, .int (nI p))] := hl
  generalize hQ0 : (MQ below (vp_Si (fun z => z = ln_fr (ln_an N h S p) (N 0 0))) args sta 0 0 (fun _ => False)) = Q0
  refine lv_iconst (v := nI 0) X.1 X.2.1 dX10_answers_0 (by decide) ?_
  refine lv_istore_n (lv' := [(3, .int (nI 0)), (0, .ref (a 0)), (1, .int (nI S)), (2, .int (nI p))]) X.1 X.2.1 dX10_answers_1 rfl hl (by decide) rfl (fun ls hl => ?_)
  have L2 : ∀ (K : Nat) (q : Nat), N 0 0 - q < K → (q ≤ N 0 0) → (∀ j, j < q → ln_an N h S p j = false) → ∀ ls : Array Slot, lv_has ls 4 [(0, .ref (a 0)), (1, .int (nI S)), (2, .int (nI p)), (3, .int (nI q))] → W prg l env rum sta mid args below meth cod sta.heap [] 0 0 Q0 (F0 mid 2 ls []) := by
    intro K
    induction K with
    | zero => intro q hm; exact absurd hm (Nat.not_lt_zero _)
    | succ K ih2 =>
      intro q hm2 hq hj ls hl
      refine lv_iload_n X.1 X.2.1 dX10_answers_2 rfl (lv_at hl 3 rfl) ?_
      refine lv_aload_n X.1 X.2.1 dX10_answers_3 rfl (lv_at hl 0 rfl) ?_
      refine gM_0_0 X hP (v := nI (N 0 0)) hN.n mF_X10_48 dX10_answers_4 ?_
      refine rn_ge X (by omega) (by omega) (tgt := 59) dX10_answers_7 (by decide) (fun h7 => ?_) (fun h7 => ?_)
      · skip
        refine lv_iconst (v := ((-1))) X.1 X.2.1 dX10_answers_59 (by decide) ?_
        subst hQ0
        exact ln_retR X hr hlk rfl (ln_fr_none (fun j hj2 => hj j (by omega))) dX10_answers_60
      · skip
        refine lv_iload_n X.1 X.2.1 dX10_answers_10 rfl (lv_at hl 1 rfl) ?_
        refine lv_iload_n X.1 X.2.1 dX10_answers_11 rfl (lv_at hl 3 rfl) ?_
        refine ln_sR X (c_X10_has l D g 0 S q (ln_31 (ln_n12 hW hS)) (by omega) (Nat.le_refl _)) ln_nil mM_X10_70 Y_X10_has rfl (by omega) hl.1 rfl (Nat.le_of_ble_eq_true rfl) dX10_answers_12 ⟨Nat.zero_le _, Nat.zero_le _⟩ (fun r12 hr12 => ?_)
        subst hr12
        refine rn_eqB X (tgt := 53) dX10_answers_15 (by decide) (fun h15 => ?_) (fun h15 => ?_)
        · skip
          refine lv_iinc (v := nI (q + 1)) (lv' := [(3, .int (nI (q + 1))), (0, .ref (a 0)), (1, .int (nI S)), (2, .int (nI p))]) X.1 X.2.1 dX10_answers_53 hl (k := 3) rfl rn_inc (by decide) rfl (fun ls hl => ?_)
          refine lv_goto (tgt := 2) X.1 X.2.1 dX10_answers_56 (by decide) ?_
          exact ih2 (q + 1) (by omega) (by omega) (ln_lt_s hj (by first | exact ln_an_s h15 | exact ln_an_w h29 | exact ln_an_b h48)) ls (lv_sub hl [1, 2, 3, 0] rfl)
        · skip
          refine lv_aload_n X.1 X.2.1 dX10_answers_18 rfl (lv_at hl 0 rfl) ?_
          refine gM_0_1 X hP mF_X10_7 dX10_answers_19 ?_
          refine lv_bipush (v := nI 12) X.1 X.2.1 dX10_answers_22 (by decide) ?_
          refine lv_iload_n X.1 X.2.1 dX10_answers_24 rfl (lv_at hl 3 rfl) ?_
          refine rn_mul X dX10_answers_25 ?_
          refine lv_iload_n X.1 X.2.1 dX10_answers_26 rfl (lv_at hl 2 rfl) ?_
          refine rn_add X dX10_answers_27 ?_
          refine lM_1 X hP (by omega) (v := nI (N (5 + q) p)) (hN.w (by omega) (by omega)) dX10_answers_28 ?_
          refine rn_le0 X (ln_31 (hW.w12 _ _)) (tgt := 53) dX10_answers_29 (by decide) (fun h29 => ?_) (fun h29 => ?_)
          · skip
            refine lv_iinc (v := nI (q + 1)) (lv' := [(3, .int (nI (q + 1))), (0, .ref (a 0)), (1, .int (nI S)), (2, .int (nI p))]) X.1 X.2.1 dX10_answers_53 hl (k := 3) rfl rn_inc (by decide) rfl (fun ls hl => ?_)
            refine lv_goto (tgt := 2) X.1 X.2.1 dX10_answers_56 (by decide) ?_
            exact ih2 (q + 1) (by omega) (by omega) (ln_lt_s hj (by first | exact ln_an_s h15 | exact ln_an_w h29 | exact ln_an_b h48)) ls (lv_sub hl [1, 2, 3, 0] rfl)
          · skip
            refine lv_aload_n X.1 X.2.1 dX10_answers_32 rfl (lv_at hl 0 rfl) ?_
            refine gM_0_13 X hP mF_X10_42 dX10_answers_33 ?_
            refine lv_iload_n X.1 X.2.1 dX10_answers_36 rfl (lv_at hl 1 rfl) ?_
            refine lv_iconst (v := nI 1) X.1 X.2.1 dX10_answers_37 (by decide) ?_
            refine lv_iload_n X.1 X.2.1 dX10_answers_38 rfl (lv_at hl 3 rfl) ?_
            refine rn_shl X (by omega) dX10_answers_39 ?_
            refine lv_iconst (v := ((-1))) X.1 X.2.1 dX10_answers_40 (by decide) ?_
            refine lv_ixor X.1 X.2.1 dX10_answers_41 ?_
            refine rn_nt X dX10_answers_42 ?_
            refine lv_iconst (v := nI 1) X.1 X.2.1 dX10_answers_43 (by decide) ?_
            refine lv_iload_n X.1 X.2.1 dX10_answers_44 rfl (lv_at hl 2 rfl) ?_
            refine rn_shl X (by omega) dX10_answers_45 ?_
            refine rn_or X dX10_answers_46 ?_
            refine lM_11 X hP (ln_n12 hW (ln_mv_lt hS hp)) (v := ln_b (h (ln_df S (2 ^ q) ||| 2 ^ p))) (hHo _ (ln_mv_lt hS hp)) dX10_answers_47 ?_
            refine rn_eqB X (tgt := 53) dX10_answers_48 (by decide) (fun h48 => ?_) (fun h48 => ?_)
            · skip
              refine lv_iinc (v := nI (q + 1)) (lv' := [(3, .int (nI (q + 1))), (0, .ref (a 0)), (1, .int (nI S)), (2, .int (nI p))]) X.1 X.2.1 dX10_answers_53 hl (k := 3) rfl rn_inc (by decide) rfl (fun ls hl => ?_)
              refine lv_goto (tgt := 2) X.1 X.2.1 dX10_answers_56 (by decide) ?_
              exact ih2 (q + 1) (by omega) (by omega) (ln_lt_s hj (by first | exact ln_an_s h15 | exact ln_an_w h29 | exact ln_an_b h48)) ls (lv_sub hl [1, 2, 3, 0] rfl)
            · skip
              refine lv_iload_n X.1 X.2.1 dX10_answers_51 rfl (lv_at hl 3 rfl) ?_
              subst hQ0
              exact ln_retR X hr hlk rfl (ln_fr_eq (ln_an_t h15 h29 h48) hj h7) dX10_answers_52
  exact L2 _ 0 (Nat.lt_succ_self _) (Nat.zero_le _) (fun j h => absurd h (Nat.not_lt_zero j)) ls (lv_sub hl [1, 2, 3, 0] rfl)
set_option maxHeartbeats 4000000 in
set_option maxRecDepth 100000 in
theorem c_X10_guard (l : Launch) (D : va_G) (g : Nat → ClassId) (a : Nat → Nat) (σ : ln_S) (d : Nat) (N : ln_N) (hW : ln_wf N) (hN : ln_nM N σ) (E : Nat) (hK : ln_MK N σ E) (hEr : 10 ≠ E) (hd : 2 ≤ d) : ln_V l D g (MW a g) yX10_guard (.code yX10_guard cX10_guard 4 none) d [.ref (a 0)] σ (fun τ => ln_nM N τ ∧ ln_MK N τ E ∧ (∀ S, S < 2 ^ N 0 0 → τ 11 S = ln_b (ln_hd N S)) ∧ ∀ c, c ≠ 0 → c ≠ 11 → τ c = σ c) := by
  have hN12 := hW.n12
  have hp12 := hW.p12
  have hs1 := ln_sub1 (N 0 0)
  obtain ⟨K, hK1, hK2, hK3⟩ := hK
  refine ln_ofV (by decide +kernel) (Nat.le_of_ble_eq_true rfl) (fun prg env rum sta mid args below meth cod ls A hr hlk X hA hP hDw hSw hl => ?_)
  have hl : lv_has ls 4 [(0, .ref (a 0))] := hl
  generalize hQ0 : (MQ below (va_Qv (fun τ => ln_nM N τ ∧ ln_MK N τ E ∧ (∀ S, S < 2 ^ N 0 0 → τ 11 S = ln_b (ln_hd N S)) ∧ ∀ c, c ≠ 0 → c ≠ 11 → τ c = σ c) (fun τ t => va_P D ln_cl (MW a g τ) t.heap) A) args sta 0 0 A) = Q0
  obtain ⟨H, hH⟩ : ∃ H, H = sta.heap := ⟨_, rfl⟩
  obtain ⟨locs, hlo⟩ : ∃ x : List Loc, x = [] := ⟨_, rfl⟩
  rw [← hH] at hP
  have hSw : va_S A sta.heap H locs := by rw [hH, hlo]; exact hSw
  have goal : W prg l env rum sta mid args below meth cod H locs 0 0 Q0 (F0 mid 0 ls []) := ?_
  · rw [hH, hlo] at goal; exact goal
  clear hlo
  refine lv_aload_n X.1 X.2.1 dX10_guard_0 rfl (lv_at hl 0 rfl) ?_
  refine lv_bipush (v := nI 10) X.1 X.2.1 dX10_guard_1 (by decide) ?_
  refine ln_vU X (MW_ad a g) hA (c_X10_isKnown l D g a σ 0 K 10 hK1 hK2 (by omega) (Nat.le_refl _)) hP hDw hSw 0 rfl rfl mM_X10_84 Y_X10_isKnown rfl (by omega) hl.1 rfl (Nat.le_of_ble_eq_true rfl) dX10_guard_3 ⟨Nat.zero_le _, Nat.zero_le _⟩ (fun r3 τ3 H locs hr3 hP hDw hSw => ?_)
  obtain ⟨hz3, hτ3⟩ := hr3
  subst hz3
  have hN3 : ln_nM N τ3 := by rw [hτ3]; exact hN.up0 (by decide) _
  have h31 : τ3 0 1 = nI (K ||| 2 ^ 10) := by rw [hτ3]; rfl
  have ho3 : ∀ c, c ≠ 0 → τ3 c = σ c := fun c hc => by rw [hτ3, ln_up_n _ _ hc]
  refine rn_eqB X (tgt := 10) dX10_guard_6 (by decide) (fun h6 => ?_) (fun h6 => ?_)
  · skip
    refine lv_iconst (v := nI 0) X.1 X.2.1 dX10_guard_10 (by decide) ?_
    refine lv_istore_n (lv' := [(1, .int (nI 0)), (0, .ref (a 0))]) X.1 X.2.1 dX10_guard_11 rfl hl (by decide) rfl (fun ls hl => ?_)
    have L12 : ∀ (K : Nat) (k : Nat) (τ : ln_S) (H : Heap) (locs : List Loc), 2 ^ N 0 0 - k < K → (k ≤ 2 ^ N 0 0) → (∀ T, T < k → τ 11 T = ln_b true) → (∀ c, c ≠ 11 → τ c = τ3 c) → va_P D ln_cl (MW a g τ) H → va_D A (MW a g τ) → va_S A sta.heap H locs → ∀ ls : Array Slot, lv_has ls 4 [(0, .ref (a 0)), (1, .int (nI k))] → W prg l env rum sta mid args below meth cod H locs 0 0 Q0 (F0 mid 12 ls []) := by
      intro K
      induction K with
      | zero => intro k τ H locs hm; exact absurd hm (Nat.not_lt_zero _)
      | succ K ih12 =>
        intro k τ H locs hm12 hk hT ho hP hDw hSw ls hl
        have hN : ln_nM N τ := hN3.of (by rw [ho 0 (by decide)]) (fun c h1 h2 => ho c (by omega))
        refine lv_iload_n X.1 X.2.1 dX10_guard_12 rfl (lv_at hl 1 rfl) ?_
        refine lv_aload_n X.1 X.2.1 dX10_guard_13 rfl (lv_at hl 0 rfl) ?_
        refine ln_vR X (c_X10_all l D g a τ 0 N hW hN (Nat.le_refl _)) hP 0 rfl rfl mM_X10_87 Y_X10_all rfl (by omega) hl.1 rfl (Nat.le_of_ble_eq_true rfl) dX10_guard_14 ⟨Nat.zero_le _, Nat.zero_le _⟩ (fun r14 hr14 => ?_)
        subst hr14
        refine rn_gt X (by omega) (ln_31 (Nat.lt_of_lt_of_le (Nat.sub_lt (ln_pos2 _) (by decide)) hp12)) (tgt := 33) dX10_guard_17 (by decide) (fun h17 => ?_) (fun h17 => ?_)
        · skip
          refine lv_iconst (v := ln_b true) X.1 X.2.1 dX10_guard_33 (by decide) ?_
          refine lv_istore_n (lv' := [(1, .int (ln_b true)), (0, .ref (a 0))]) X.1 X.2.1 dX10_guard_34 rfl hl (by decide) rfl (fun ls hl => ?_)
          have L35 : ∀ (K : Nat) (k : Nat) (b : Bool) (τ : ln_S) (H : Heap) (locs : List Loc), ln_gC N k + (if b then 1 else 0) < K → (k + ln_gC N k ≤ 2 ^ N 0 0 + (if b then 0 else 1)) → (∀ T, T < 2 ^ N 0 0 → τ 11 T = ln_b (ln_gr N k T)) → (b = false → ∀ T, T < 2 ^ N 0 0 → ln_gs N (ln_gr N k) (2 ^ N 0 0) T = ln_gr N k T) → (∀ c, c ≠ 11 → τ c = τ3 c) → va_P D ln_cl (MW a g τ) H → va_D A (MW a g τ) → va_S A sta.heap H locs → ∀ ls : Array Slot, lv_has ls 4 [(0, .ref (a 0)), (1, .int (ln_b b))] → W prg l env rum sta mid args below meth cod H locs 0 0 Q0 (F0 mid 35 ls []) := by
            intro K
            induction K with
            | zero => intro k b τ H locs hm; exact absurd hm (Nat.not_lt_zero _)
            | succ K ih35 =>
              intro k b τ H locs hm35 hkc hT hb ho hP hDw hSw ls hl
              have hN : ln_nM N τ := hN3.of (by rw [ho 0 (by decide)]) (fun c h1 h2 => ho c (by omega))
              refine lv_iload_n X.1 X.2.1 dX10_guard_35 rfl (lv_at hl 1 rfl) ?_
              refine rn_eqB X (tgt := 114) dX10_guard_36 (by decide) (fun h36 => ?_) (fun h36 => ?_)
              · skip
                subst hQ0
                exact ln_retV X hr hlk hP hSw (by have hTT : ∀ S, S < 2 ^ N 0 0 → τ 11 S = ln_b (ln_hd N S) := (fun T h1 => by rw [hT T h1, ln_gr_hd (by rw [h36] at hkc; simp at hkc; omega) (hb h36) h1]); exact ⟨hN, ln_MK_put2 hK2 (by decide) hK3 (by rw [ho 0 (by decide)]; exact h31) (by rw [ln_mT_h]; exact hTT) (fun k hk h => ln_mT_ho hk (fun c h1 h2 => (ho c h2).trans (ho3 c h1)) h), hTT, fun c h1 h2 => (ho c h2).trans (ho3 c h1)⟩) dX10_guard_114
              · skip
                refine lv_iconst (v := ln_b false) X.1 X.2.1 dX10_guard_39 (by decide) ?_
                refine lv_istore_n (lv' := [(1, .int (ln_b false)), (0, .ref (a 0))]) X.1 X.2.1 dX10_guard_40 rfl hl (by decide) rfl (fun ls hl => ?_)
                refine lv_iconst (v := nI 0) X.1 X.2.1 dX10_guard_41 (by decide) ?_
                refine lv_istore_n (lv' := [(2, .int (nI 0)), (1, .int (ln_b false)), (0, .ref (a 0))]) X.1 X.2.1 dX10_guard_42 rfl hl (by decide) rfl (fun ls hl => ?_)
                have L43 : ∀ (K : Nat) (s : Nat) (m : Bool) (τ : ln_S) (H : Heap) (locs : List Loc), 2 ^ N 0 0 - s < K → (s ≤ 2 ^ N 0 0) → (∀ T, T < 2 ^ N 0 0 → τ 11 T = ln_b (ln_gs N (ln_gr N k) s T)) → (ln_gF N (ln_gr N k) s m) → (∀ c, c ≠ 11 → τ c = τ3 c) → va_P D ln_cl (MW a g τ) H → va_D A (MW a g τ) → va_S A sta.heap H locs → ∀ ls : Array Slot, lv_has ls 4 [(0, .ref (a 0)), (1, .int (ln_b m)), (2, .int (nI s))] → W prg l env rum sta mid args below meth cod H locs 0 0 Q0 (F0 mid 43 ls []) := by
                  intro K
                  induction K with
                  | zero => intro s m τ H locs hm; exact absurd hm (Nat.not_lt_zero _)
                  | succ K ih43 =>
                    intro s m τ H locs hm43 hs hTs hF ho hP hDw hSw ls hl
                    have hN : ln_nM N τ := hN3.of (by rw [ho 0 (by decide)]) (fun c h1 h2 => ho c (by omega))
                    refine lv_iload_n X.1 X.2.1 dX10_guard_43 rfl (lv_at hl 2 rfl) ?_
                    refine lv_aload_n X.1 X.2.1 dX10_guard_44 rfl (lv_at hl 0 rfl) ?_
                    refine ln_vR X (c_X10_all l D g a τ 0 N hW hN (Nat.le_refl _)) hP 0 rfl rfl mM_X10_87 Y_X10_all rfl (by omega) hl.1 rfl (Nat.le_of_ble_eq_true rfl) dX10_guard_45 ⟨Nat.zero_le _, Nat.zero_le _⟩ (fun r45 hr45 => ?_)
                    subst hr45
                    refine rn_gt X (by omega) (ln_31 (Nat.lt_of_lt_of_le (Nat.sub_lt (ln_pos2 _) (by decide)) hp12)) (tgt := 111) dX10_guard_48 (by decide) (fun h48 => ?_) (fun h48 => ?_)
                    · skip
                      have hse : s = 2 ^ N 0 0 := by omega
                      have hgf : ln_gF N (ln_gr N k) (2 ^ N 0 0) m := by rw [hse] at hF; exact hF
                      refine lv_goto (tgt := 35) X.1 X.2.1 dX10_guard_111 (by decide) ?_
                      exact ih35 (k + 1) _ τ H locs (by subst h36; simp at hm35 hkc ⊢; cases m with | true => (have := ln_gC_lt (hgf.2 rfl); simp; omega) | false => (have := ln_gC_eq (hgf.1 rfl); simp; omega)) (by subst h36; simp at hkc ⊢; cases m with | true => (have := ln_gC_lt (hgf.2 rfl); simp; omega) | false => (have := ln_gC_eq (hgf.1 rfl); simp; omega)) (fun T h1 => by have z := hTs T h1; rw [hse] at z; exact z) (fun q T h1 => ln_gs_cong (h := ln_gr N (k + 1)) (g := ln_gr N k) (fun T h2 => hgf.1 q T h2) (Nat.le_refl _) T h1) ho hP hDw hSw ls (lv_sub hl [0, 1] rfl)
                    · skip
                      refine lv_iconst (v := nI 0) X.1 X.2.1 dX10_guard_51 (by decide) ?_
                      refine lv_istore_n (lv' := [(3, .int (nI 0)), (0, .ref (a 0)), (1, .int (ln_b m)), (2, .int (nI s))]) X.1 X.2.1 dX10_guard_52 rfl hl (by decide) rfl (fun ls hl => ?_)
                      have L53 : ∀ (K : Nat) (p : Nat) (m1 : Bool) (hh : Nat → Bool) (τ : ln_S) (H : Heap) (locs : List Loc), N 0 0 - p < K → (p ≤ N 0 0) → (∀ T, T < 2 ^ N 0 0 → τ 11 T = ln_b (hh T)) → (ln_gP N (ln_gr N k) s p m m1 hh) → (∀ c, c ≠ 11 → τ c = τ3 c) → va_P D ln_cl (MW a g τ) H → va_D A (MW a g τ) → va_S A sta.heap H locs → ∀ ls : Array Slot, lv_has ls 4 [(0, .ref (a 0)), (1, .int (ln_b m1)), (2, .int (nI s)), (3, .int (nI p))] → W prg l env rum sta mid args below meth cod H locs 0 0 Q0 (F0 mid 53 ls []) := by
                        intro K
                        induction K with
                        | zero => intro p m1 hh τ H locs hm; exact absurd hm (Nat.not_lt_zero _)
                        | succ K ih53 =>
                          intro p m1 hh τ H locs hm53 hp hTp hG ho hP hDw hSw ls hl
                          have hN : ln_nM N τ := hN3.of (by rw [ho 0 (by decide)]) (fun c h1 h2 => ho c (by omega))
                          refine lv_iload_n X.1 X.2.1 dX10_guard_53 rfl (lv_at hl 3 rfl) ?_
                          refine lv_aload_n X.1 X.2.1 dX10_guard_54 rfl (lv_at hl 0 rfl) ?_
                          refine gM_0_0 X hP (v := nI (N 0 0)) hN.n mF_X10_48 dX10_guard_55 ?_
                          refine rn_ge X (by omega) (by omega) (tgt := 105) dX10_guard_58 (by decide) (fun h58 => ?_) (fun h58 => ?_)
                          · skip
                            have hge := ln_gP_end (show s < 2 ^ N 0 0 by omega) hG hF (Or.inl h58)
                            refine lv_iinc (v := nI (s + 1)) (lv' := [(2, .int (nI (s + 1))), (0, .ref (a 0)), (1, .int (ln_b m1)), (3, .int (nI p))]) X.1 X.2.1 dX10_guard_105 hl (k := 2) rfl rn_inc (by decide) rfl (fun ls hl => ?_)
                            refine lv_goto (tgt := 43) X.1 X.2.1 dX10_guard_108 (by decide) ?_
                            exact ih43 (s + 1) _ τ H locs (by omega) (by omega) (fun T h1 => by rw [hTp T h1, hge.1 T]) hge.2 ho hP hDw hSw ls (lv_sub hl [1, 2, 0] rfl)
                          · skip
                            refine lv_aload_n X.1 X.2.1 dX10_guard_61 rfl (lv_at hl 0 rfl) ?_
                            refine gM_0_13 X hP mF_X10_42 dX10_guard_62 ?_
                            refine lv_iload_n X.1 X.2.1 dX10_guard_65 rfl (lv_at hl 2 rfl) ?_
                            refine lM_11 X hP (by omega) (v := ln_b (hh s)) (hTp s (by omega)) dX10_guard_66 ?_
                            refine rn_eqB X (tgt := 105) dX10_guard_67 (by decide) (fun h67 => ?_) (fun h67 => ?_)
                            · skip
                              have hge := ln_gP_end (show s < 2 ^ N 0 0 by omega) hG hF (Or.inr h67)
                              refine lv_iinc (v := nI (s + 1)) (lv' := [(2, .int (nI (s + 1))), (0, .ref (a 0)), (1, .int (ln_b m1)), (3, .int (nI p))]) X.1 X.2.1 dX10_guard_105 hl (k := 2) rfl rn_inc (by decide) rfl (fun ls hl => ?_)
                              refine lv_goto (tgt := 43) X.1 X.2.1 dX10_guard_108 (by decide) ?_
                              exact ih43 (s + 1) _ τ H locs (by omega) (by omega) (fun T h1 => by rw [hTp T h1, hge.1 T]) hge.2 ho hP hDw hSw ls (lv_sub hl [1, 2, 0] rfl)
                            · skip
                              refine lv_iload_n X.1 X.2.1 dX10_guard_70 rfl (lv_at hl 2 rfl) ?_
                              refine lv_iload_n X.1 X.2.1 dX10_guard_71 rfl (lv_at hl 3 rfl) ?_
                              refine ln_sR X (c_X10_has l D g 0 s p (ln_31 (show s < 4096 by omega)) (by omega) (Nat.le_refl _)) ln_nil mM_X10_70 Y_X10_has rfl (by omega) hl.1 rfl (Nat.le_of_ble_eq_true rfl) dX10_guard_72 ⟨Nat.zero_le _, Nat.zero_le _⟩ (fun r72 hr72 => ?_)
                              subst hr72
                              refine rn_neB X (tgt := 99) dX10_guard_75 (by decide) (fun h75 => ?_) (fun h75 => ?_)
                              · skip
                                refine lv_iinc (v := nI (p + 1)) (lv' := [(3, .int (nI (p + 1))), (0, .ref (a 0)), (1, .int (ln_b m1)), (2, .int (nI s))]) X.1 X.2.1 dX10_guard_99 hl (k := 3) rfl rn_inc (by decide) rfl (fun ls hl => ?_)
                                refine lv_goto (tgt := 53) X.1 X.2.1 dX10_guard_102 (by decide) ?_
                                exact ih53 (p + 1) _ hh τ H locs (by omega) (by omega) (by first | exact hTp | exact (fun T h1 => by rw [hτ2, ln_up_s]; by_cases e : T = s; (· subst e; rw [ln_upd_s]; show ln_b false = ln_b (if T = T then false else hh T); rw [if_pos rfl]); (· rw [ln_upd_n e]; show τ 11 T = ln_b (if T = s then false else hh T); rw [if_neg e]; exact hTp T h1))) (by first | exact ln_gP_next hG (Or.inl h75) | exact ln_gP_next hG (Or.inr c1) | exact ln_gP_fail hG h58 h67 h75 c1) (by first | exact ho | exact (fun c hc => by rw [hτ2, ln_up_n _ _ hc]; exact ho c hc)) hP hDw hSw ls (lv_sub hl [1, 2, 3, 0] rfl)
                              · skip
                                refine lv_aload_n X.1 X.2.1 dX10_guard_78 rfl (lv_at hl 0 rfl) ?_
                                refine lv_iload_n X.1 X.2.1 dX10_guard_79 rfl (lv_at hl 2 rfl) ?_
                                refine lv_iload_n X.1 X.2.1 dX10_guard_80 rfl (lv_at hl 3 rfl) ?_
                                refine ln_vR X (c_X10_answers l D g a τ 1 N hW hN hh hTp s p (show s < 2 ^ N 0 0 by omega) h58 (Nat.le_refl _)) hP 0 rfl rfl mM_X10_138 Y_X10_answers rfl (by omega) hl.1 rfl (Nat.le_of_ble_eq_true rfl) dX10_guard_81 ⟨Nat.zero_le _, Nat.zero_le _⟩ (fun r81 hr81 => ?_)
                                subst hr81
                                rcases ln_fr_cases (ln_an N hh s p) (N 0 0) with ⟨ez, c1⟩ | ⟨ez, c1⟩
                                · refine rn_top (y := nI (ln_fs (ln_an N hh s p) (N 0 0))) ez ?_
                                  refine rn_lt0 X (by omega) (tgt := 90) dX10_guard_84 (by decide) ?_
                                  refine lv_goto (tgt := 99) X.1 X.2.1 dX10_guard_87 (by decide) ?_
                                  refine lv_iinc (v := nI (p + 1)) (lv' := [(3, .int (nI (p + 1))), (0, .ref (a 0)), (1, .int (ln_b m1)), (2, .int (nI s))]) X.1 X.2.1 dX10_guard_99 hl (k := 3) rfl rn_inc (by decide) rfl (fun ls hl => ?_)
                                  refine lv_goto (tgt := 53) X.1 X.2.1 dX10_guard_102 (by decide) ?_
                                  exact ih53 (p + 1) _ hh τ H locs (by omega) (by omega) (by first | exact hTp | exact (fun T h1 => by rw [hτ2, ln_up_s]; by_cases e : T = s; (· subst e; rw [ln_upd_s]; show ln_b false = ln_b (if T = T then false else hh T); rw [if_pos rfl]); (· rw [ln_upd_n e]; show τ 11 T = ln_b (if T = s then false else hh T); rw [if_neg e]; exact hTp T h1))) (by first | exact ln_gP_next hG (Or.inl h75) | exact ln_gP_next hG (Or.inr c1) | exact ln_gP_fail hG h58 h67 h75 c1) (by first | exact ho | exact (fun c hc => by rw [hτ2, ln_up_n _ _ hc]; exact ho c hc)) hP hDw hSw ls (lv_sub hl [1, 2, 3, 0] rfl)
                                · refine rn_top (y := ((-1))) ez ?_
                                  refine lv_if_lt (tgt := 90) X.1 X.2.1 dX10_guard_84 (by decide) (fun h84 => ?_) (fun h84 => absurd (by decide) h84)
                                  refine lv_aload_n X.1 X.2.1 dX10_guard_90 rfl (lv_at hl 0 rfl) ?_
                                  refine gM_0_13 X hP mF_X10_42 dX10_guard_91 ?_
                                  refine lv_iload_n X.1 X.2.1 dX10_guard_94 rfl (lv_at hl 2 rfl) ?_
                                  refine lv_iconst (v := ln_b false) X.1 X.2.1 dX10_guard_95 (by decide) ?_
                                  refine sM_11 X hP hDw hSw (show s < 4096 by omega) (ln_b_zar _) dX10_guard_96 (fun H locs hP hDw hSw => ?_)
                                  obtain ⟨τ2, hτ2⟩ : ∃ z : ln_S, z = (ln_up τ 11 (upd (τ 11) s (ln_b false))) := ⟨_, rfl⟩
                                  rw [← hτ2] at hP hDw
                                  refine lv_iconst (v := ln_b true) X.1 X.2.1 dX10_guard_97 (by decide) ?_
                                  refine lv_istore_n (lv' := [(1, .int (ln_b true)), (0, .ref (a 0)), (2, .int (nI s)), (3, .int (nI p))]) X.1 X.2.1 dX10_guard_98 rfl hl (by decide) rfl (fun ls hl => ?_)
                                  refine lv_iinc (v := nI (p + 1)) (lv' := [(3, .int (nI (p + 1))), (1, .int (ln_b true)), (0, .ref (a 0)), (2, .int (nI s))]) X.1 X.2.1 dX10_guard_99 hl (k := 3) rfl rn_inc (by decide) rfl (fun ls hl => ?_)
                                  refine lv_goto (tgt := 53) X.1 X.2.1 dX10_guard_102 (by decide) ?_
                                  exact ih53 (p + 1) _ (fun T => if T = s then false else hh T) τ2 H locs (by omega) (by omega) (by first | exact hTp | exact (fun T h1 => by rw [hτ2, ln_up_s]; by_cases e : T = s; (· subst e; rw [ln_upd_s]; show ln_b false = ln_b (if T = T then false else hh T); rw [if_pos rfl]); (· rw [ln_upd_n e]; show τ 11 T = ln_b (if T = s then false else hh T); rw [if_neg e]; exact hTp T h1))) (by first | exact ln_gP_next hG (Or.inl h75) | exact ln_gP_next hG (Or.inr c1) | exact ln_gP_fail hG h58 h67 h75 c1) (by first | exact ho | exact (fun c hc => by rw [hτ2, ln_up_n _ _ hc]; exact ho c hc)) hP hDw hSw ls (lv_sub hl [2, 1, 3, 0] rfl)
                      exact L53 _ 0 m (ln_gs N (ln_gr N k) s) τ H locs (Nat.lt_succ_self _) (Nat.zero_le _) hTs (Or.inl ⟨rfl, rfl, fun j h => absurd h (Nat.not_lt_zero j)⟩) ho hP hDw hSw ls (lv_sub hl [1, 2, 3, 0] rfl)
                exact L43 _ 0 false τ H locs (Nat.lt_succ_self _) (Nat.zero_le _) hT (ln_gF_0 _ _) ho hP hDw hSw ls (lv_sub hl [2, 1, 0] rfl)
          exact L35 _ 0 true τ H locs (Nat.lt_succ_self _) (by show 0 + ln_ct (fun _ => true) (2 ^ N 0 0) ≤ _; rw [ln_ct_true]; simp) (fun T h => hT T (by omega)) (fun q => absurd q (by decide)) ho hP hDw hSw ls (lv_sub hl [1, 0] rfl)
        · skip
          refine lv_aload_n X.1 X.2.1 dX10_guard_20 rfl (lv_at hl 0 rfl) ?_
          refine gM_0_13 X hP mF_X10_42 dX10_guard_21 ?_
          refine lv_iload_n X.1 X.2.1 dX10_guard_24 rfl (lv_at hl 1 rfl) ?_
          refine lv_iconst (v := ln_b true) X.1 X.2.1 dX10_guard_25 (by decide) ?_
          refine sM_11 X hP hDw hSw (by omega) (ln_b_zar _) dX10_guard_26 (fun H locs hP hDw hSw => ?_)
          obtain ⟨τ1, hτ1⟩ : ∃ z : ln_S, z = (ln_up τ 11 (upd (τ 11) k (ln_b true))) := ⟨_, rfl⟩
          rw [← hτ1] at hP hDw
          refine lv_iinc (v := nI (k + 1)) (lv' := [(1, .int (nI (k + 1))), (0, .ref (a 0))]) X.1 X.2.1 dX10_guard_27 hl (k := 1) rfl rn_inc (by decide) rfl (fun ls hl => ?_)
          refine lv_goto (tgt := 12) X.1 X.2.1 dX10_guard_30 (by decide) ?_
          exact ih12 (k + 1) τ1 H locs (by omega) (by omega) (fun T h1 => by rw [hτ1, ln_up_s]; by_cases e : T = k; (· subst e; rw [ln_upd_s]); (· rw [ln_upd_n e]; exact hT T (by omega))) (fun c hc => by rw [hτ1, ln_up_n _ _ hc]; exact ho c hc) hP hDw hSw ls (lv_sub hl [1, 0] rfl)
    exact L12 _ 0 τ3 H locs (Nat.lt_succ_self _) (Nat.zero_le _) (fun T h => absurd h (Nat.not_lt_zero T)) (fun c _ => rfl) hP hDw hSw ls (lv_sub hl [1, 0] rfl)
  · skip
    subst hQ0
    exact ln_retV X hr hlk hP hSw ⟨hN3, ln_MK_put hK2 (by decide) hK3 h31 (fun _ => (hK3 _ hEr h6).of (fun c hc => ho3 c (by omega))) (fun k _ hk => hk.of (fun c hc => ho3 c (by omega))), (by have z := hK3 _ hEr h6; rw [ln_mT_h] at z; exact fun T hT => by rw [ho3 11 (by decide)]; exact z T hT), fun c h1 _ => ho3 c h1⟩ dX10_guard_9
set_option maxHeartbeats 4000000 in
set_option maxRecDepth 100000 in
theorem c_X10_holds (l : Launch) (D : va_G) (g : Nat → ClassId) (a : Nat → Nat) (σ : ln_S) (d : Nat) (N : ln_N) (hI : ln_MI N σ) (x : Int32) (hd : 3 ≤ d) : ln_U l D g (MW a g) yX10_holds (.code yX10_holds cX10_holds 2 (some .int)) d [.ref (a 0), .int x] σ (fun z τ => ln_MI N τ ∧ ln_oHo N x z) := by
  obtain ⟨hW, hN, hK⟩ := hI
  obtain ⟨E, hE99⟩ : ∃ E, E = 99 := ⟨_, rfl⟩
  rw [← hE99] at hK
  have hN12 := hW.n12
  have hp12 := hW.p12
  have hs1 := ln_sub1 (N 0 0)
  refine ln_ofU (by decide +kernel) (Nat.le_of_ble_eq_true rfl) (fun prg env rum sta mid args below meth cod ls A hr hlk X hA hP hDw hSw hl => ?_)
  have hl : lv_has ls 2 [(0, .ref (a 0)), (1, .int x)] := hl
  generalize hQ0 : (MQ below (va_Qi (fun z τ => ln_MI N τ ∧ ln_oHo N x z) (fun τ t => va_P D ln_cl (MW a g τ) t.heap) A) args sta 0 0 A) = Q0
  obtain ⟨H, hH⟩ : ∃ H, H = sta.heap := ⟨_, rfl⟩
  obtain ⟨locs, hlo⟩ : ∃ x : List Loc, x = [] := ⟨_, rfl⟩
  rw [← hH] at hP
  have hSw : va_S A sta.heap H locs := by rw [hH, hlo]; exact hSw
  have goal : W prg l env rum sta mid args below meth cod H locs 0 0 Q0 (F0 mid 0 ls []) := ?_
  · rw [hH, hlo] at goal; exact goal
  clear hlo
  refine lv_aload_n X.1 X.2.1 dX10_holds_0 rfl (lv_at hl 0 rfl) ?_
  refine lv_iload_n X.1 X.2.1 dX10_holds_1 rfl (lv_at hl 1 rfl) ?_
  refine ln_vR X (c_X10_isSet l D g a σ 0 N hW hN x (Nat.le_refl _)) hP 0 rfl rfl mM_X10_98 Y_X10_isSet rfl (by omega) hl.1 rfl (Nat.le_of_ble_eq_true rfl) dX10_holds_2 ⟨Nat.zero_le _, Nat.zero_le _⟩ (fun r2 hr2 => ?_)
  subst hr2
  refine rn_neB X (tgt := 11) dX10_holds_5 (by decide) (fun h5 => ?_) (fun h5 => ?_)
  · skip
    obtain ⟨S, hS, rfl⟩ := ln_inr_t (by omega) h5
    refine lv_aload_n X.1 X.2.1 dX10_holds_11 rfl (lv_at hl 0 rfl) ?_
    refine ln_vV X (MW_ad a g) hA (c_X10_guard l D g a σ 2 N hW hN E hK (by omega) (Nat.le_refl _)) hP hDw hSw 0 rfl rfl mM_X10_141 Y_X10_guard rfl (by omega) hl.1 rfl (Nat.le_of_ble_eq_true rfl) dX10_holds_12 ⟨Nat.zero_le _, Nat.zero_le _⟩ (fun τ12 H locs hr12 hP hDw hSw => ?_)
    obtain ⟨hN, hK, hT, hfg⟩ := hr12
    refine lv_aload_n X.1 X.2.1 dX10_holds_15 rfl (lv_at hl 0 rfl) ?_
    refine gM_0_13 X hP mF_X10_42 dX10_holds_16 ?_
    refine lv_iload_n X.1 X.2.1 dX10_holds_19 rfl (lv_at hl 1 rfl) ?_
    refine lM_11 X hP (ln_n12 hW hS) (v := ln_b (ln_hd N S)) (hT S hS) dX10_holds_20 ?_
    refine rn_eqB X (tgt := 28) dX10_holds_21 (by decide) (fun h21 => ?_) (fun h21 => ?_)
    · skip
      refine lv_iconst (v := nI 0) X.1 X.2.1 dX10_holds_28 (by decide) ?_
      subst hQ0
      exact ln_retU X hr hlk hP hSw rfl ⟨⟨hW, hN, by rw [hE99] at hK; exact hK⟩, Or.inr ⟨S, hS, rfl, by rw [h21]; rfl⟩⟩ dX10_holds_29
    · skip
      refine lv_iconst (v := nI 1) X.1 X.2.1 dX10_holds_24 (by decide) ?_
      refine lv_goto (tgt := 29) X.1 X.2.1 dX10_holds_25 (by decide) ?_
      subst hQ0
      exact ln_retU X hr hlk hP hSw rfl ⟨⟨hW, hN, by rw [hE99] at hK; exact hK⟩, Or.inr ⟨S, hS, rfl, by rw [h21]; rfl⟩⟩ dX10_holds_29
  · skip
    refine lv_bipush (v := ((-2))) X.1 X.2.1 dX10_holds_8 (by decide) ?_
    subst hQ0
    exact ln_retU X hr hlk hP hSw rfl ⟨⟨hW, hN, by rw [hE99] at hK; exact hK⟩, Or.inl ⟨h5, rfl⟩⟩ dX10_holds_10
set_option maxHeartbeats 4000000 in
set_option maxRecDepth 100000 in
theorem c_X10_guards (l : Launch) (D : va_G) (g : Nat → ClassId) (a : Nat → Nat) (σ : ln_S) (d : Nat) (N : ln_N) (hI : ln_MI N σ)  (hd : 3 ≤ d) : ln_U l D g (MW a g) yX10_guards (.code yX10_guards cX10_guards 3 (some .int)) d [.ref (a 0)] σ (fun z τ => ln_MI N τ ∧ z = nI (ln_gd N (2 ^ N 0 0))) := by
  obtain ⟨hW, hN, hK⟩ := hI
  obtain ⟨E, hE99⟩ : ∃ E, E = 99 := ⟨_, rfl⟩
  rw [← hE99] at hK
  have hN12 := hW.n12
  have hp12 := hW.p12
  have hs1 := ln_sub1 (N 0 0)
  refine ln_ofU (by decide +kernel) (Nat.le_of_ble_eq_true rfl) (fun prg env rum sta mid args below meth cod ls A hr hlk X hA hP hDw hSw hl => ?_)
  have hl : lv_has ls 3 [(0, .ref (a 0))] := hl
  generalize hQ0 : (MQ below (va_Qi (fun z τ => ln_MI N τ ∧ z = nI (ln_gd N (2 ^ N 0 0))) (fun τ t => va_P D ln_cl (MW a g τ) t.heap) A) args sta 0 0 A) = Q0
  obtain ⟨H, hH⟩ : ∃ H, H = sta.heap := ⟨_, rfl⟩
  obtain ⟨locs, hlo⟩ : ∃ x : List Loc, x = [] := ⟨_, rfl⟩
  rw [← hH] at hP
  have hSw : va_S A sta.heap H locs := by rw [hH, hlo]; exact hSw
  have goal : W prg l env rum sta mid args below meth cod H locs 0 0 Q0 (F0 mid 0 ls []) := ?_
  · rw [hH, hlo] at goal; exact goal
  clear hlo
  refine lv_aload_n X.1 X.2.1 dX10_guards_0 rfl (lv_at hl 0 rfl) ?_
  refine ln_vV X (MW_ad a g) hA (c_X10_guard l D g a σ 2 N hW hN E hK (by omega) (Nat.le_refl _)) hP hDw hSw 0 rfl rfl mM_X10_141 Y_X10_guard rfl (by omega) hl.1 rfl (Nat.le_of_ble_eq_true rfl) dX10_guards_1 ⟨Nat.zero_le _, Nat.zero_le _⟩ (fun τ1 H locs hr1 hP hDw hSw => ?_)
  obtain ⟨hN, hK, hT, hfg⟩ := hr1
  refine lv_aload_n X.1 X.2.1 dX10_guards_4 rfl (lv_at hl 0 rfl) ?_
  refine gM_0_0 X hP (v := nI (N 0 0)) hN.n mF_X10_48 dX10_guards_5 ?_
  refine lv_istore_n (lv' := [(1, .int (nI (N 0 0))), (0, .ref (a 0))]) X.1 X.2.1 dX10_guards_8 rfl hl (by decide) rfl (fun ls hl => ?_)
  refine lv_iconst (v := nI 0) X.1 X.2.1 dX10_guards_9 (by decide) ?_
  refine lv_istore_n (lv' := [(2, .int (nI 0)), (1, .int (nI (N 0 0))), (0, .ref (a 0))]) X.1 X.2.1 dX10_guards_10 rfl hl (by decide) rfl (fun ls hl => ?_)
  have L11 : ∀ (K : Nat) (k : Nat) (v : Nat), 2 ^ N 0 0 - k < K → (k ≤ 2 ^ N 0 0) → (v = ln_gd N k) → (v ≤ 12) → ∀ ls : Array Slot, lv_has ls 3 [(0, .ref (a 0)), (1, .int (nI v)), (2, .int (nI k))] → W prg l env rum sta mid args below meth cod H locs 0 0 Q0 (F0 mid 11 ls []) := by
    intro K
    induction K with
    | zero => intro k v hm; exact absurd hm (Nat.not_lt_zero _)
    | succ K ih11 =>
      intro k v hm11 hk hv hv12 ls hl
      refine lv_iload_n X.1 X.2.1 dX10_guards_11 rfl (lv_at hl 2 rfl) ?_
      refine lv_aload_n X.1 X.2.1 dX10_guards_12 rfl (lv_at hl 0 rfl) ?_
      refine ln_vR X (c_X10_all l D g a τ1 0 N hW hN (Nat.le_refl _)) hP 0 rfl rfl mM_X10_87 Y_X10_all rfl (by omega) hl.1 rfl (Nat.le_of_ble_eq_true rfl) dX10_guards_13 ⟨Nat.zero_le _, Nat.zero_le _⟩ (fun r13 hr13 => ?_)
      subst hr13
      refine rn_gt X (by omega) (ln_31 (Nat.lt_of_lt_of_le (Nat.sub_lt (ln_pos2 _) (by decide)) hp12)) (tgt := 47) dX10_guards_16 (by decide) (fun h16 => ?_) (fun h16 => ?_)
      · skip
        refine lv_iload_n X.1 X.2.1 dX10_guards_47 rfl (lv_at hl 1 rfl) ?_
        subst hQ0
        exact ln_retU X hr hlk hP hSw rfl ⟨⟨hW, hN, by rw [hE99] at hK; exact hK⟩, by rw [hv, show k = 2 ^ N 0 0 by omega]⟩ dX10_guards_48
      · skip
        refine lv_aload_n X.1 X.2.1 dX10_guards_19 rfl (lv_at hl 0 rfl) ?_
        refine gM_0_13 X hP mF_X10_42 dX10_guards_20 ?_
        refine lv_iload_n X.1 X.2.1 dX10_guards_23 rfl (lv_at hl 2 rfl) ?_
        refine lM_11 X hP (by omega) (v := ln_b (ln_hd N k)) (hT k (by omega)) dX10_guards_24 ?_
        refine rn_eqB X (tgt := 41) dX10_guards_25 (by decide) (fun h25 => ?_) (fun h25 => ?_)
        · skip
          refine lv_iinc (v := nI (k + 1)) (lv' := [(2, .int (nI (k + 1))), (0, .ref (a 0)), (1, .int (nI v))]) X.1 X.2.1 dX10_guards_41 hl (k := 2) rfl rn_inc (by decide) rfl (fun ls hl => ?_)
          refine lv_goto (tgt := 11) X.1 X.2.1 dX10_guards_44 (by decide) ?_
          exact ih11 (k + 1) _ (by omega) (by omega) (by first | (rw [ln_gd_f h25]; exact hv) | (rw [ln_gd_t h25, ← hv, Nat.min_eq_left (by omega)]) | (rw [ln_gd_t h25, ← hv, Nat.min_eq_right (by omega)])) (by first | exact hv12 | exact ln_pc_le _) ls (lv_sub hl [1, 2, 0] rfl)
        · skip
          refine lv_iload_n X.1 X.2.1 dX10_guards_28 rfl (lv_at hl 2 rfl) ?_
          refine ln_sR X (c_X10_ones l D g 0 k (ln_31 (show k < 4096 by omega)) (Nat.le_refl _)) ln_nil mM_X10_111 Y_X10_ones rfl (by omega) hl.1 rfl (Nat.le_of_ble_eq_true rfl) dX10_guards_29 ⟨Nat.zero_le _, Nat.zero_le _⟩ (fun r29 hr29 => ?_)
          subst hr29
          refine lv_iload_n X.1 X.2.1 dX10_guards_32 rfl (lv_at hl 1 rfl) ?_
          refine rn_ge X (ln_31 (Nat.lt_of_le_of_lt (ln_pc_le _) (by decide))) (by omega) (tgt := 41) dX10_guards_33 (by decide) (fun h33 => ?_) (fun h33 => ?_)
          · skip
            refine lv_iinc (v := nI (k + 1)) (lv' := [(2, .int (nI (k + 1))), (0, .ref (a 0)), (1, .int (nI v))]) X.1 X.2.1 dX10_guards_41 hl (k := 2) rfl rn_inc (by decide) rfl (fun ls hl => ?_)
            refine lv_goto (tgt := 11) X.1 X.2.1 dX10_guards_44 (by decide) ?_
            exact ih11 (k + 1) _ (by omega) (by omega) (by first | (rw [ln_gd_f h25]; exact hv) | (rw [ln_gd_t h25, ← hv, Nat.min_eq_left (by omega)]) | (rw [ln_gd_t h25, ← hv, Nat.min_eq_right (by omega)])) (by first | exact hv12 | exact ln_pc_le _) ls (lv_sub hl [1, 2, 0] rfl)
          · skip
            refine lv_iload_n X.1 X.2.1 dX10_guards_36 rfl (lv_at hl 2 rfl) ?_
            refine ln_sR X (c_X10_ones l D g 0 k (ln_31 (show k < 4096 by omega)) (Nat.le_refl _)) ln_nil mM_X10_111 Y_X10_ones rfl (by omega) hl.1 rfl (Nat.le_of_ble_eq_true rfl) dX10_guards_37 ⟨Nat.zero_le _, Nat.zero_le _⟩ (fun r37 hr37 => ?_)
            subst hr37
            refine lv_istore_n (lv' := [(1, .int (nI (ln_pc k))), (0, .ref (a 0)), (2, .int (nI k))]) X.1 X.2.1 dX10_guards_40 rfl hl (by decide) rfl (fun ls hl => ?_)
            refine lv_iinc (v := nI (k + 1)) (lv' := [(2, .int (nI (k + 1))), (1, .int (nI (ln_pc k))), (0, .ref (a 0))]) X.1 X.2.1 dX10_guards_41 hl (k := 2) rfl rn_inc (by decide) rfl (fun ls hl => ?_)
            refine lv_goto (tgt := 11) X.1 X.2.1 dX10_guards_44 (by decide) ?_
            exact ih11 (k + 1) _ (by omega) (by omega) (by first | (rw [ln_gd_f h25]; exact hv) | (rw [ln_gd_t h25, ← hv, Nat.min_eq_left (by omega)]) | (rw [ln_gd_t h25, ← hv, Nat.min_eq_right (by omega)])) (by first | exact hv12 | exact ln_pc_le _) ls (lv_sub hl [2, 1, 0] rfl)
  exact L11 _ 0 _ (Nat.lt_succ_self _) (Nat.zero_le _) rfl hN12 ls (lv_sub hl [2, 1, 0] rfl)
set_option maxHeartbeats 4000000 in
set_option maxRecDepth 100000 in
theorem c_X10_answer (l : Launch) (D : va_G) (g : Nat → ClassId) (a : Nat → Nat) (σ : ln_S) (d : Nat) (N : ln_N) (hI : ln_MI N σ) (x y : Int32) (hd : 3 ≤ d) : ln_U l D g (MW a g) yX10_answer (.code yX10_answer cX10_answer 3 (some .int)) d [.ref (a 0), .int x, .int y] σ (fun z τ => ln_MI N τ ∧ ln_oAn N x y z) := by
  obtain ⟨hW, hN, hK⟩ := hI
  obtain ⟨E, hE99⟩ : ∃ E, E = 99 := ⟨_, rfl⟩
  rw [← hE99] at hK
  have hN12 := hW.n12
  have hp12 := hW.p12
  have hs1 := ln_sub1 (N 0 0)
  refine ln_ofU (by decide +kernel) (Nat.le_of_ble_eq_true rfl) (fun prg env rum sta mid args below meth cod ls A hr hlk X hA hP hDw hSw hl => ?_)
  have hl : lv_has ls 3 [(0, .ref (a 0)), (1, .int x), (2, .int y)] := hl
  generalize hQ0 : (MQ below (va_Qi (fun z τ => ln_MI N τ ∧ ln_oAn N x y z) (fun τ t => va_P D ln_cl (MW a g τ) t.heap) A) args sta 0 0 A) = Q0
  obtain ⟨H, hH⟩ : ∃ H, H = sta.heap := ⟨_, rfl⟩
  obtain ⟨locs, hlo⟩ : ∃ x : List Loc, x = [] := ⟨_, rfl⟩
  rw [← hH] at hP
  have hSw : va_S A sta.heap H locs := by rw [hH, hlo]; exact hSw
  have goal : W prg l env rum sta mid args below meth cod H locs 0 0 Q0 (F0 mid 0 ls []) := ?_
  · rw [hH, hlo] at goal; exact goal
  clear hlo
  refine lv_aload_n X.1 X.2.1 dX10_answer_0 rfl (lv_at hl 0 rfl) ?_
  refine lv_iload_n X.1 X.2.1 dX10_answer_1 rfl (lv_at hl 1 rfl) ?_
  refine ln_vR X (c_X10_isSet l D g a σ 0 N hW hN x (Nat.le_refl _)) hP 0 rfl rfl mM_X10_98 Y_X10_isSet rfl (by omega) hl.1 rfl (Nat.le_of_ble_eq_true rfl) dX10_answer_2 ⟨Nat.zero_le _, Nat.zero_le _⟩ (fun r2 hr2 => ?_)
  subst hr2
  refine rn_eqB X (tgt := 16) dX10_answer_5 (by decide) (fun h5 => ?_) (fun h5 => ?_)
  · skip
    refine lv_bipush (v := ((-2))) X.1 X.2.1 dX10_answer_16 (by decide) ?_
    subst hQ0
    exact ln_retU X hr hlk hP hSw rfl ⟨⟨hW, hN, by rw [hE99] at hK; exact hK⟩, Or.inl ⟨by first | exact Or.inl h5 | exact Or.inr h13, rfl⟩⟩ dX10_answer_18
  · skip
    obtain ⟨S, hS, rfl⟩ := ln_inr_t (by omega) h5
    refine lv_aload_n X.1 X.2.1 dX10_answer_8 rfl (lv_at hl 0 rfl) ?_
    refine lv_iload_n X.1 X.2.1 dX10_answer_9 rfl (lv_at hl 2 rfl) ?_
    refine ln_vR X (c_X10_isPost l D g a σ 1 N hW hN y (Nat.le_refl _)) hP 0 rfl rfl mM_X10_59 Y_X10_isPost rfl (by omega) hl.1 rfl (Nat.le_of_ble_eq_true rfl) dX10_answer_10 ⟨Nat.zero_le _, Nat.zero_le _⟩ (fun r10 hr10 => ?_)
    subst hr10
    refine rn_neB X (tgt := 19) dX10_answer_13 (by decide) (fun h13 => ?_) (fun h13 => ?_)
    · skip
      obtain ⟨p, hp, rfl⟩ := ln_inr_t (by omega) h13
      refine lv_aload_n X.1 X.2.1 dX10_answer_19 rfl (lv_at hl 0 rfl) ?_
      refine ln_vV X (MW_ad a g) hA (c_X10_guard l D g a σ 2 N hW hN E hK (by omega) (Nat.le_refl _)) hP hDw hSw 0 rfl rfl mM_X10_141 Y_X10_guard rfl (by omega) hl.1 rfl (Nat.le_of_ble_eq_true rfl) dX10_answer_20 ⟨Nat.zero_le _, Nat.zero_le _⟩ (fun τ20 H locs hr20 hP hDw hSw => ?_)
      obtain ⟨hN, hK, hT, hfg⟩ := hr20
      refine lv_iload_n X.1 X.2.1 dX10_answer_23 rfl (lv_at hl 1 rfl) ?_
      refine lv_iload_n X.1 X.2.1 dX10_answer_24 rfl (lv_at hl 2 rfl) ?_
      refine ln_sR X (c_X10_has l D g 0 S p (ln_31 (ln_n12 hW hS)) (by omega) (Nat.le_refl _)) ln_nil mM_X10_70 Y_X10_has rfl (by omega) hl.1 rfl (Nat.le_of_ble_eq_true rfl) dX10_answer_25 ⟨Nat.zero_le _, Nat.zero_le _⟩ (fun r25 hr25 => ?_)
      subst hr25
      refine rn_neB X (tgt := 40) dX10_answer_28 (by decide) (fun h28 => ?_) (fun h28 => ?_)
      · skip
        refine lv_iconst (v := ((-1))) X.1 X.2.1 dX10_answer_40 (by decide) ?_
        refine lv_goto (tgt := 50) X.1 X.2.1 dX10_answer_41 (by decide) ?_
        subst hQ0
        exact ln_retU X hr hlk hP hSw rfl ⟨⟨hW, hN, by rw [hE99] at hK; exact hK⟩, Or.inr ⟨S, p, hS, hp, rfl, rfl, by unfold ln_af; first | rw [if_pos (Or.inl h28)] | rw [if_pos (Or.inr h37)] | rw [if_neg (fun q => q.elim (fun z => by rw [h28] at z; exact absurd z (by decide)) (fun z => by rw [h37] at z; exact absurd z (by decide)))]⟩⟩ dX10_answer_50
      · skip
        refine lv_aload_n X.1 X.2.1 dX10_answer_31 rfl (lv_at hl 0 rfl) ?_
        refine gM_0_13 X hP mF_X10_42 dX10_answer_32 ?_
        refine lv_iload_n X.1 X.2.1 dX10_answer_35 rfl (lv_at hl 1 rfl) ?_
        refine lM_11 X hP (ln_n12 hW hS) (v := ln_b (ln_hd N S)) (hT S hS) dX10_answer_36 ?_
        refine rn_neB X (tgt := 44) dX10_answer_37 (by decide) (fun h37 => ?_) (fun h37 => ?_)
        · skip
          refine lv_aload_n X.1 X.2.1 dX10_answer_44 rfl (lv_at hl 0 rfl) ?_
          refine lv_iload_n X.1 X.2.1 dX10_answer_45 rfl (lv_at hl 1 rfl) ?_
          refine lv_iload_n X.1 X.2.1 dX10_answer_46 rfl (lv_at hl 2 rfl) ?_
          refine ln_vR X (c_X10_answers l D g a τ20 1 N hW hN (ln_hd N) hT S p hS hp (Nat.le_refl _)) hP 0 rfl rfl mM_X10_138 Y_X10_answers rfl (by omega) hl.1 rfl (Nat.le_of_ble_eq_true rfl) dX10_answer_47 ⟨Nat.zero_le _, Nat.zero_le _⟩ (fun r47 hr47 => ?_)
          subst hr47
          subst hQ0
          exact ln_retU X hr hlk hP hSw rfl ⟨⟨hW, hN, by rw [hE99] at hK; exact hK⟩, Or.inr ⟨S, p, hS, hp, rfl, rfl, by unfold ln_af; first | rw [if_pos (Or.inl h28)] | rw [if_pos (Or.inr h37)] | rw [if_neg (fun q => q.elim (fun z => by rw [h28] at z; exact absurd z (by decide)) (fun z => by rw [h37] at z; exact absurd z (by decide)))]⟩⟩ dX10_answer_50
        · skip
          refine lv_iconst (v := ((-1))) X.1 X.2.1 dX10_answer_40 (by decide) ?_
          refine lv_goto (tgt := 50) X.1 X.2.1 dX10_answer_41 (by decide) ?_
          subst hQ0
          exact ln_retU X hr hlk hP hSw rfl ⟨⟨hW, hN, by rw [hE99] at hK; exact hK⟩, Or.inr ⟨S, p, hS, hp, rfl, rfl, by unfold ln_af; first | rw [if_pos (Or.inl h28)] | rw [if_pos (Or.inr h37)] | rw [if_neg (fun q => q.elim (fun z => by rw [h28] at z; exact absurd z (by decide)) (fun z => by rw [h37] at z; exact absurd z (by decide)))]⟩⟩ dX10_answer_50
    · skip
      refine lv_bipush (v := ((-2))) X.1 X.2.1 dX10_answer_16 (by decide) ?_
      subst hQ0
      exact ln_retU X hr hlk hP hSw rfl ⟨⟨hW, hN, by rw [hE99] at hK; exact hK⟩, Or.inl ⟨by first | exact Or.inl h5 | exact Or.inr h13, rfl⟩⟩ dX10_answer_18
