theorem ln_wnf_a {N : ln_N} {r : Nat} {f : Nat → Bool} {S p : Nat} (h : S.testBit p = true) : ln_wnf N r f S p = false := by unfold ln_wnf; rw [h]; rfl
theorem ln_wnf_b {N : ln_N} {r : Nat} {f : Nat → Bool} {S p : Nat} (h : f (ln_end N r (S ||| 2 ^ p)) = true) : ln_wnf N r f S p = false := by unfold ln_wnf; rw [h, Bool.not_true, Bool.and_false]
theorem ln_wnf_t {N : ln_N} {r : Nat} {f : Nat → Bool} {S p : Nat} (h1 : S.testBit p = false) (h : f (ln_end N r (S ||| 2 ^ p)) = false) : ln_wnf N r f S p = true := by unfold ln_wnf; rw [h, h1]; rfl
theorem ln_end_gt {N : ln_N} {r S p : Nat} (h : S.testBit p = false) : S < ln_end N r (S ||| 2 ^ p) := Nat.lt_of_lt_of_le (ln_sb_put h) (ln_sb_le (ln_sb_end N r _))
theorem ln_wnf_cg {N : ln_N} (hW : ln_wf N) {r : Nat} {f g : Nat → Bool} {S : Nat} (hS : S < 2 ^ N 0 0) (h : ∀ T, S < T → T < 2 ^ N 0 0 → f T = g T) {p : Nat} (hp : p < N 0 0) : ln_wnf N r f S p = ln_wnf N r g S p := by
  cases hb : S.testBit p with
  | true => rw [ln_wnf_a hb, ln_wnf_a hb]
  | false => unfold ln_wnf; rw [h _ (ln_end_gt hb) (ln_end_lt hW r (ln_put_lt hS hp))]
theorem ln_wn_eq {N : ln_N} (hW : ln_wf N) (r : Nat) {S : Nat} (hS : S < 2 ^ N 0 0) : ln_wn N r S = decide (ln_fs (ln_wnf N r (ln_wn N r) S) (N 0 0) < N 0 0) :=
  ln_dv_eq (F := ln_wnF N r) (fun f g S hS h => by
    unfold ln_wnF
    rw [ln_fs_cong (fun j hj => ln_wnf_cg hW hS h hj)]) hS
theorem ln_wn_t {N : ln_N} (hW : ln_wf N) {r S : Nat} (hS : S < 2 ^ N 0 0) (h : ln_fs (ln_wnf N r (ln_wn N r) S) (N 0 0) < N 0 0) : ln_b true = ln_b (ln_wn N r S) := by rw [ln_wn_eq hW r hS, decide_eq_true h]
theorem ln_wn_f {N : ln_N} (hW : ln_wf N) {r S : Nat} (hS : S < 2 ^ N 0 0) (h : ¬ ln_fs (ln_wnf N r (ln_wn N r) S) (N 0 0) < N 0 0) : ln_b false = ln_b (ln_wn N r S) := by rw [ln_wn_eq hW r hS, decide_eq_false h]
theorem ln_wK_fill {N : ln_N} {σ τ : ln_S} {rv bv r : Nat} (hE : ln_wK N σ rv bv) (hr : r < 3) (hT : ln_wT N τ r) (h9 : τ 24 = upd (σ 24) r (nI (ln_ver rv bv r))) (ho : ∀ c, c = 40 ∨ c = 41 ∨ c = 42 → c ≠ 40 + r → τ c = σ c) : ln_wK N τ rv bv := by
  intro q hq
  by_cases e : q = r
  · subst e
    exact ⟨_, by rw [h9, ln_upd_s], Nat.le_refl _, fun _ => hT⟩
  · obtain ⟨x, h1, h2, h3⟩ := hE q hq
    refine ⟨x, by rw [h9, ln_upd_n e]; exact h1, h2, fun h S hS => ?_⟩
    rw [ho _ (by omega) (by omega)]
    exact h3 h S hS
theorem ln_wK.of {N : ln_N} {σ τ : ln_S} {rv bv : Nat} (h : ln_wK N σ rv bv) (ho : ∀ c, c = 24 ∨ c = 40 ∨ c = 41 ∨ c = 42 → τ c = σ c) : ln_wK N τ rv bv := by
  intro q hq
  obtain ⟨x, h1, h2, h3⟩ := h q hq
  refine ⟨x, by rw [ho 24 (by omega)]; exact h1, h2, fun h S hS => ?_⟩
  rw [ho _ (by omega)]
  exact h3 h S hS
theorem ln_eK.of {N : ln_N} {σ τ : ln_S} {rv bv : Nat} (h : ln_eK N σ rv bv) (ho : ∀ c, c = 9 ∨ c = 37 ∨ c = 38 ∨ c = 39 → τ c = σ c) : ln_eK N τ rv bv := by
  intro q hq
  obtain ⟨x, h1, h2, h3⟩ := h q hq
  refine ⟨x, by rw [ho 9 (by omega)]; exact h1, h2, fun h S hS => ?_⟩
  rw [ho _ (by omega)]
  exact h3 h S hS
theorem ln_MK_w {N : ln_N} (hW : ln_wf N) {τ : ln_S} {r j : Nat} {x : Int32} (hj : j < 4096) (h : ln_MK N τ (3 + r)) : ln_MK N (ln_up τ 12 (upd (τ 12) (4096 * r + j) x)) (3 + r) := by
  obtain ⟨K, h1, h2, h3⟩ := h
  refine ⟨K, h1, h2, fun k hk hb => ?_⟩
  have hp := hW.p12
  have h4 := h3 k hk hb
  by_cases e : 3 ≤ k ∧ k < 6
  · obtain ⟨q, rfl⟩ : ∃ q, k = 3 + q := ⟨k - 3, by omega⟩
    rw [ln_mT_w (by omega)] at h4 ⊢
    intro S hS
    rw [ln_up_s, ln_upd_n (by omega)]
    exact h4 S hS
  · exact h4.of (fun c hc => ln_up_n _ _ (by omega))
theorem ln_MK_99 {N : ln_N} {τ : ln_S} {r : Nat} (h : ln_MK N τ (3 + r)) (hT : ln_mT N τ (3 + r)) : ln_MK N τ 99 := by
  obtain ⟨K, h1, h2, h3⟩ := h
  refine ⟨K, h1, h2, fun k hk hb => ?_⟩
  by_cases e : k = 3 + r
  · rw [e]; exact hT
  · exact h3 k e hb
/-- a rule below b, a set of the net -/
def ln_oRS (b : Nat) (F : Nat → Nat → Int32) (N : ln_N) (x y z : Int32) : Prop := ((ln_inr x b = false ∨ ln_inr y (2 ^ N 0 0) = false) ∧ z = -2) ∨ ∃ r S, r < b ∧ S < 2 ^ N 0 0 ∧ x = nI r ∧ y = nI S ∧ z = F r S
theorem ln_oRS_one {b : Nat} (hb : b ≤ 4096) {F : Nat → Nat → Int32} {N : ln_N} (hW : ln_wf N) {x y z w : Int32} (h : ln_oRS b F N x y z) (h2 : ln_oRS b F N x y w) : z = w := by
  have hp := hW.p12
  rcases h with ⟨a1, a2⟩ | ⟨S, p, hS, hp1, hx, hy, hz⟩ <;> rcases h2 with ⟨b1, b2⟩ | ⟨T, q, hT, hq, hx2, hy2, hw⟩
  · rw [a2, b2]
  · rcases a1 with a1 | a1
    · exact (ln_r_in hT (by omega) hx2 a1).elim
    · exact (ln_r_in hq (by omega) hy2 a1).elim
  · rcases b1 with b1 | b1
    · exact (ln_r_in hS (by omega) hx b1).elim
    · exact (ln_r_in hp1 (by omega) hy b1).elim
  · have e := ln_s_one (by omega) hS hT hx hx2
    have e2 := ln_s_one (by omega) hp1 hq hy hy2
    subst e e2
    rw [hz, hw]
def ln_oWn (N : ln_N) : Int32 → Int32 → Int32 → Prop := ln_oRS 3 (fun r S => ln_b (ln_wn N r S)) N
def ln_oFi (N : ln_N) : Int32 → Int32 → Int32 → Prop := ln_oRS 3 (fun r S => ln_fr (ln_wnf N r (ln_wn N r) S) (N 0 0)) N
set_option maxHeartbeats 4000000 in
set_option maxRecDepth 100000 in
theorem c_X3_winningPost (l : Launch) (D : va_G) (g : Nat → ClassId) (a : Nat → Nat) (σ : ln_S) (d : Nat) (N : ln_N) (hW : ln_wf N) (hN : ln_nC N σ) (r S : Nat) (hr3 : r < 3) (hS : S < 2 ^ N 0 0) (hE : ln_eT N σ r) (f : Nat → Bool) (hf : ∀ T, S < T → T < 2 ^ N 0 0 → σ (40 + r) T = ln_b (f T)) (hd : 1 ≤ d) : ln_R l D g (CW a g σ) yX3_winningPost (.code yX3_winningPost cX3_winningPost 5 (some .int)) d [.ref (a 22), .ref (a (40 + r)), .ref (a (37 + r)), .int (nI S)] (fun z => z = ln_fr (ln_wnf N r f S) (N 0 0)) := by
  have hN12 := hW.n12
  have hp12 := hW.p12
  have hs1 := ln_sub1 (N 0 0)
  refine ln_ofR (by decide +kernel) (Nat.le_of_ble_eq_true rfl) (fun prg env rum sta mid args below meth cod ls hr hlk X hP hl => ?_)
  have hl : lv_has ls 5 [(0, .ref (a 22)), (1, .ref (a (40 + r))), (2, .ref (a (37 + r))), (3, .int (nI S))] := hl
  generalize hQ0 : (MQ below (vp_Si (fun z => z = ln_fr (ln_wnf N r f S) (N 0 0))) args sta 0 0 (fun _ => False)) = Q0
  refine lv_iconst (v := nI 0) X.1 X.2.1 dX3_winningPost_0 (by decide) ?_
  refine lv_istore (lv' := [(4, .int (nI 0)), (0, .ref (a 22)), (1, .ref (a (40 + r))), (2, .ref (a (37 + r))), (3, .int (nI S))]) X.1 X.2.1 dX3_winningPost_1 hl (by decide) rfl (fun ls hl => ?_)
  have L3 : ∀ (K : Nat) (p : Nat), N 0 0 - p < K → (p ≤ N 0 0) → (∀ j, j < p → ln_wnf N r f S j = false) → ∀ ls : Array Slot, lv_has ls 5 [(0, .ref (a 22)), (1, .ref (a (40 + r))), (2, .ref (a (37 + r))), (3, .int (nI S)), (4, .int (nI p))] → W prg l env rum sta mid args below meth cod sta.heap [] 0 0 Q0 (F0 mid 3 ls []) := by
    intro K
    induction K with
    | zero => intro p hm; exact absurd hm (Nat.not_lt_zero _)
    | succ K ih3 =>
      intro p hm3 hp hj ls hl
      refine lv_iload X.1 X.2.1 dX3_winningPost_3 (lv_at hl 4 rfl) ?_
      refine lv_aload_n X.1 X.2.1 dX3_winningPost_5 rfl (lv_at hl 0 rfl) ?_
      refine gC_22_0 X hP mF_X3_20 dX3_winningPost_6 ?_
      refine nC_1_0 X hP (v := nI (N 0 0)) hN.n mF_X3_48 dX3_winningPost_9 ?_
      refine rn_ge X (by omega) (by omega) (tgt := 46) dX3_winningPost_12 (by decide) (fun h12 => ?_) (fun h12 => ?_)
      · skip
        refine lv_iconst (v := ((-1))) X.1 X.2.1 dX3_winningPost_46 (by decide) ?_
        subst hQ0
        exact ln_retR X hr hlk rfl (ln_fr_none (fun j hj2 => hj j (by omega))) dX3_winningPost_47
      · skip
        refine lv_iload_n X.1 X.2.1 dX3_winningPost_15 rfl (lv_at hl 3 rfl) ?_
        refine lv_iload X.1 X.2.1 dX3_winningPost_16 (lv_at hl 4 rfl) ?_
        refine ln_nR X (c_X9_hasPost l D g 0 S p (ln_31 (ln_n12 hW hS)) (by omega) (Nat.le_refl _)) ln_nil mM_X3_52 Y_X9_hasPost rfl (by omega) hl.1 rfl (Nat.le_of_ble_eq_true rfl) dX3_winningPost_18 ⟨Nat.zero_le _, Nat.zero_le _⟩ (fun r18 hr18 => ?_)
        subst hr18
        refine rn_neB X (tgt := 40) dX3_winningPost_21 (by decide) (fun h21 => ?_) (fun h21 => ?_)
        · skip
          refine lv_iinc (v := nI (p + 1)) (lv' := [(4, .int (nI (p + 1))), (0, .ref (a 22)), (1, .ref (a (40 + r))), (2, .ref (a (37 + r))), (3, .int (nI S))]) X.1 X.2.1 dX3_winningPost_40 hl (k := 4) rfl rn_inc (by decide) rfl (fun ls hl => ?_)
          refine lv_goto (tgt := 3) X.1 X.2.1 dX3_winningPost_43 (by decide) ?_
          exact ih3 (p + 1) (by omega) (by omega) (ln_lt_s hj (by first | exact ln_wnf_a h21 | exact ln_wnf_b h34)) ls (lv_sub hl [1, 2, 3, 4, 0] rfl)
        · skip
          refine lv_aload_n X.1 X.2.1 dX3_winningPost_24 rfl (lv_at hl 1 rfl) ?_
          refine lv_aload_n X.1 X.2.1 dX3_winningPost_25 rfl (lv_at hl 2 rfl) ?_
          refine lv_iload_n X.1 X.2.1 dX3_winningPost_26 rfl (lv_at hl 3 rfl) ?_
          refine lv_iconst (v := nI 1) X.1 X.2.1 dX3_winningPost_27 (by decide) ?_
          refine lv_iload X.1 X.2.1 dX3_winningPost_28 (lv_at hl 4 rfl) ?_
          refine rn_shl X (by omega) dX3_winningPost_30 ?_
          refine rn_or X dX3_winningPost_31 ?_
          refine lC_r37 X hP hr3 (ln_n12 hW (ln_put_lt hS h12)) (v := nI (ln_end N r (S ||| 2 ^ p))) (hE _ (ln_put_lt hS h12)) dX3_winningPost_32 ?_
          refine lC_r40 X hP hr3 (ln_end12 hW r (ln_put_lt hS h12)) (v := ln_b (f (ln_end N r (S ||| 2 ^ p)))) (hf _ (ln_end_gt h21) (ln_end_lt hW r (ln_put_lt hS h12))) dX3_winningPost_33 ?_
          refine rn_neB X (tgt := 40) dX3_winningPost_34 (by decide) (fun h34 => ?_) (fun h34 => ?_)
          · skip
            refine lv_iinc (v := nI (p + 1)) (lv' := [(4, .int (nI (p + 1))), (0, .ref (a 22)), (1, .ref (a (40 + r))), (2, .ref (a (37 + r))), (3, .int (nI S))]) X.1 X.2.1 dX3_winningPost_40 hl (k := 4) rfl rn_inc (by decide) rfl (fun ls hl => ?_)
            refine lv_goto (tgt := 3) X.1 X.2.1 dX3_winningPost_43 (by decide) ?_
            exact ih3 (p + 1) (by omega) (by omega) (ln_lt_s hj (by first | exact ln_wnf_a h21 | exact ln_wnf_b h34)) ls (lv_sub hl [1, 2, 3, 4, 0] rfl)
          · skip
            refine lv_iload X.1 X.2.1 dX3_winningPost_37 (lv_at hl 4 rfl) ?_
            subst hQ0
            exact ln_retR X hr hlk rfl (ln_fr_eq (ln_wnf_t h21 h34) hj h12) dX3_winningPost_39
  exact L3 _ 0 (Nat.lt_succ_self _) (Nat.zero_le _) (fun j h => absurd h (Nat.not_lt_zero j)) ls (lv_sub hl [1, 2, 3, 4, 0] rfl)
set_option maxHeartbeats 4000000 in
set_option maxRecDepth 100000 in
theorem c_X3_winsOf (l : Launch) (D : va_G) (g : Nat → ClassId) (a : Nat → Nat) (σ : ln_S) (d : Nat) (N : ln_N) (hW : ln_wf N) (hN : ln_nC N σ) (rv bv : Nat) (hV : ln_vs σ rv bv) (hE : ln_eK N σ rv bv) (hWK : ln_wK N σ rv bv) (r : Nat) (hr3 : r < 3) (hd : 5 ≤ d) : ln_F l D g (CW a g) yX3_winsOf (.code yX3_winsOf cX3_winsOf 5 (some (.array .byte))) d [.ref (a 22), .int (nI r)] σ (a (40 + r)) (fun τ => ln_wT N τ r ∧ ln_wK N τ rv bv ∧ ln_eK N τ rv bv ∧ ∀ c, c ≠ 9 → c ≠ 37 → c ≠ 38 → c ≠ 39 → c ≠ 24 → c ≠ 40 → c ≠ 41 → c ≠ 42 → τ c = σ c) := by
  have hN12 := hW.n12
  have hp12 := hW.p12
  have hs1 := ln_sub1 (N 0 0)
  obtain ⟨e0, he0, hle, himp⟩ := hWK r hr3
  have hvl := ln_ver_lt hV r
  refine ln_ofF (by decide +kernel) (Nat.le_of_ble_eq_true rfl) (fun prg env rum sta mid args below meth cod ls A hr hlk X hA hP hDw hSw hl => ?_)
  have hl : lv_has ls 5 [(0, .ref (a 22)), (1, .int (nI r))] := hl
  generalize hQ0 : (MQ below (va_Qr (fun τ => ln_wT N τ r ∧ ln_wK N τ rv bv ∧ ln_eK N τ rv bv ∧ ∀ c, c ≠ 9 → c ≠ 37 → c ≠ 38 → c ≠ 39 → c ≠ 24 → c ≠ 40 → c ≠ 41 → c ≠ 42 → τ c = σ c) (fun τ a1 t => a1 = a (40 + r) ∧ va_P D ln_cl (CW a g τ) t.heap) A) args sta 0 0 A) = Q0
  obtain ⟨H, hH⟩ : ∃ H, H = sta.heap := ⟨_, rfl⟩
  obtain ⟨locs, hlo⟩ : ∃ x : List Loc, x = [] := ⟨_, rfl⟩
  rw [← hH] at hP
  have hSw : va_S A sta.heap H locs := by rw [hH, hlo]; exact hSw
  have goal : W prg l env rum sta mid args below meth cod H locs 0 0 Q0 (F0 mid 0 ls []) := ?_
  · rw [hH, hlo] at goal; exact goal
  clear hlo
  refine lv_aload_n X.1 X.2.1 dX3_winsOf_0 rfl (lv_at hl 0 rfl) ?_
  refine gC_22_2 X hP mF_X3_11 dX3_winsOf_1 ?_
  refine lv_iload_n X.1 X.2.1 dX3_winsOf_4 rfl (lv_at hl 1 rfl) ?_
  refine oC_23 X hP (by omega) dX3_winsOf_5 ?_
  refine lv_astore_n (lv' := [(2, .ref (a (40 + r))), (0, .ref (a 22)), (1, .int (nI r))]) X.1 X.2.1 dX3_winsOf_6 rfl hl (by decide) rfl (fun ls hl => ?_)
  refine lv_aload_n X.1 X.2.1 dX3_winsOf_7 rfl (lv_at hl 1 rfl) ?_
  refine gC_22_3 X hP mF_X3_16 dX3_winsOf_8 ?_
  refine lv_iload_n X.1 X.2.1 dX3_winsOf_11 rfl (lv_at hl 2 rfl) ?_
  refine lC_24 X hP (by omega) (v := nI e0) he0 dX3_winsOf_12 ?_
  refine lv_aload_n X.1 X.2.1 dX3_winsOf_13 rfl (lv_at hl 1 rfl) ?_
  refine gC_22_0 X hP mF_X3_20 dX3_winsOf_14 ?_
  refine lv_iload_n X.1 X.2.1 dX3_winsOf_17 rfl (lv_at hl 2 rfl) ?_
  refine ln_vR X (c_X4_versionOf l D g a σ 0 rv bv hV r (by omega) (Nat.le_refl _)) hP 1 rfl rfl mM_X3_28 Y_X4_versionOf rfl (by omega) hl.1 rfl (Nat.le_of_ble_eq_true rfl) dX3_winsOf_18 ⟨Nat.zero_le _, Nat.zero_le _⟩ (fun r18 hr18 => ?_)
  subst hr18
  refine rn_eq X (by omega) (by omega) (tgt := 89) dX3_winsOf_21 (by decide) (fun h21 => ?_) (fun h21 => ?_)
  · skip
    refine lv_aload_n X.1 X.2.1 dX3_winsOf_89 rfl (lv_at hl 0 rfl) ?_
    subst hQ0
    exact ln_retF X hr hlk hP hSw (by first | exact ⟨himp h21, hWK, hE, fun c _ _ _ _ _ _ _ _ => rfl⟩ | (subst ek; have hTT : ln_wT N τ2 r := (fun S h2 => by rw [hτ2, ln_up_n _ _ (by omega)]; exact hT S (Nat.zero_le _) h2); have hot : ∀ c, c ≠ 24 → c ≠ 40 + r → τ2 c = τ29 c := (fun c h1 h2 => by rw [hτ2, ln_up_n _ _ h1]; exact ho c h2); exact ⟨hTT, ln_wK_fill hWK hr3 hTT (by rw [hτ2, ln_up_s, ho 24 (by omega), q3 24 (by decide) (by decide) (by decide) (by decide)]) (fun c h1 h2 => (hot c (by omega) h2).trans (q3 c (by omega) (by omega) (by omega) (by omega))), q2.of (fun c hc => hot c (by omega) (by omega)), fun c h1 h2 h3 h4 h5 h6 h7 h8 => (hot c h5 (by omega)).trans (q3 c h1 h2 h3 h4)⟩)) dX3_winsOf_90
  · skip
    refine lv_aload_n X.1 X.2.1 dX3_winsOf_24 rfl (lv_at hl 1 rfl) ?_
    refine gC_22_1 X hP mF_X3_24 dX3_winsOf_25 ?_
    refine lv_iload_n X.1 X.2.1 dX3_winsOf_28 rfl (lv_at hl 2 rfl) ?_
    refine ln_vF X (CW_ad a g) hA (c_X6_endsOf l D g a σ 4 N hW hN rv bv hV hE r (by omega) (Nat.le_refl _)) hP hDw hSw 7 rfl rfl mM_X3_34 Y_X6_endsOf rfl (by omega) hl.1 rfl (Nat.le_of_ble_eq_true rfl) dX3_winsOf_29 ⟨Nat.zero_le _, Nat.zero_le _⟩ (fun τ29 H locs hr29 hP hDw hSw => ?_)
    obtain ⟨q1, q2, q3⟩ := hr29
    have hN1 : ln_nC N τ29 := hN.of (fun c hc => q3 c (by omega) (by omega) (by omega) (by omega))
    have hV1 : ln_vs τ29 rv bv := hV.of (q3 1 (by decide) (by decide) (by decide) (by decide))
    refine lv_astore_n (lv' := [(3, .ref (a (37 + r))), (2, .ref (a (40 + r))), (0, .ref (a 22)), (1, .int (nI r))]) X.1 X.2.1 dX3_winsOf_32 rfl hl (by decide) rfl (fun ls hl => ?_)
    refine lv_aload_n X.1 X.2.1 dX3_winsOf_33 rfl (lv_at hl 2 rfl) ?_
    refine gC_22_0 X hP mF_X3_20 dX3_winsOf_34 ?_
    refine ln_vR X (c_X4_allPosts l D g a τ29 0 N hW hN1 (Nat.le_refl _)) hP 1 rfl rfl mM_X3_40 Y_X4_allPosts rfl (by omega) hl.1 rfl (Nat.le_of_ble_eq_true rfl) dX3_winsOf_37 ⟨Nat.zero_le _, Nat.zero_le _⟩ (fun r37 hr37 => ?_)
    subst hr37
    refine rn_top (y := (nI (2 ^ N 0 0) - 1)) (ln_m1p _) ?_
    refine lv_istore (lv' := [(4, .int (nI (2 ^ N 0 0) - 1)), (3, .ref (a (37 + r))), (2, .ref (a (40 + r))), (0, .ref (a 22)), (1, .int (nI r))]) X.1 X.2.1 dX3_winsOf_40 hl (by decide) rfl (fun ls hl => ?_)
    have L42 : ∀ (K : Nat) (k : Nat) (τ : ln_S) (H : Heap) (locs : List Loc), k < K → (k ≤ 2 ^ N 0 0) → (∀ S, k ≤ S → S < 2 ^ N 0 0 → τ (40 + r) S = ln_b (ln_wn N r S)) → (∀ c, c ≠ 40 + r → τ c = τ29 c) → va_P D ln_cl (CW a g τ) H → va_D A (CW a g τ) → va_S A sta.heap H locs → ∀ ls : Array Slot, lv_has ls 5 [(0, .ref (a 22)), (1, .int (nI r)), (2, .ref (a (40 + r))), (3, .ref (a (37 + r))), (4, .int (nI k - 1))] → W prg l env rum sta mid args below meth cod H locs 0 0 Q0 (F0 mid 42 ls []) := by
      intro K
      induction K with
      | zero => intro k τ H locs hm; exact absurd hm (Nat.not_lt_zero _)
      | succ K ih42 =>
        intro k τ H locs hm42 hk hT ho hP hDw hSw ls hl
        have hN : ln_nC N τ := hN1.of (fun c hc => ho c (by omega))
        have hET : ln_eT N τ r := fun S hS => by rw [ho _ (by omega)]; exact q1 S hS
        refine lv_iload X.1 X.2.1 dX3_winsOf_42 (lv_at hl 4 rfl) ?_
        rcases ln_m1_cases k with ⟨ek, e1⟩ | ⟨j, ek, e1⟩
        · refine rn_top (y := ((-1))) e1 ?_
          refine lv_if_lt (tgt := 75) X.1 X.2.1 dX3_winsOf_44 (by decide) (fun h44 => ?_) (fun h44 => absurd (by decide) h44)
          have hV : ln_vs τ rv bv := hV1.of (ho 1 (by omega))
          refine lv_aload_n X.1 X.2.1 dX3_winsOf_75 rfl (lv_at hl 0 rfl) ?_
          refine gC_22_3 X hP mF_X3_16 dX3_winsOf_76 ?_
          refine lv_iload_n X.1 X.2.1 dX3_winsOf_79 rfl (lv_at hl 1 rfl) ?_
          refine lv_aload_n X.1 X.2.1 dX3_winsOf_80 rfl (lv_at hl 0 rfl) ?_
          refine gC_22_0 X hP mF_X3_20 dX3_winsOf_81 ?_
          refine lv_iload_n X.1 X.2.1 dX3_winsOf_84 rfl (lv_at hl 1 rfl) ?_
          refine ln_vR X (c_X4_versionOf l D g a τ 0 rv bv hV r (by omega) (Nat.le_refl _)) hP 1 rfl rfl mM_X3_28 Y_X4_versionOf rfl (by omega) hl.1 rfl (Nat.le_of_ble_eq_true rfl) dX3_winsOf_85 ⟨Nat.zero_le _, Nat.zero_le _⟩ (fun r85 hr85 => ?_)
          subst hr85
          refine sC_24 X hP hDw hSw (by omega) dX3_winsOf_88 (fun H locs hP hDw hSw => ?_)
          obtain ⟨τ2, hτ2⟩ : ∃ z : ln_S, z = (ln_up τ 24 (upd (τ 24) r (nI (ln_ver rv bv r)))) := ⟨_, rfl⟩
          rw [← hτ2] at hP hDw
          refine lv_aload_n X.1 X.2.1 dX3_winsOf_89 rfl (lv_at hl 2 rfl) ?_
          subst hQ0
          exact ln_retF X hr hlk hP hSw (by first | exact ⟨himp h21, hWK, hE, fun c _ _ _ _ _ _ _ _ => rfl⟩ | (subst ek; have hTT : ln_wT N τ2 r := (fun S h2 => by rw [hτ2, ln_up_n _ _ (by omega)]; exact hT S (Nat.zero_le _) h2); have hot : ∀ c, c ≠ 24 → c ≠ 40 + r → τ2 c = τ29 c := (fun c h1 h2 => by rw [hτ2, ln_up_n _ _ h1]; exact ho c h2); exact ⟨hTT, ln_wK_fill hWK hr3 hTT (by rw [hτ2, ln_up_s, ho 24 (by omega), q3 24 (by decide) (by decide) (by decide) (by decide)]) (fun c h1 h2 => (hot c (by omega) h2).trans (q3 c (by omega) (by omega) (by omega) (by omega))), q2.of (fun c hc => hot c (by omega) (by omega)), fun c h1 h2 h3 h4 h5 h6 h7 h8 => (hot c h5 (by omega)).trans (q3 c h1 h2 h3 h4)⟩)) dX3_winsOf_90
        · refine rn_top (y := nI j) e1 ?_
          subst ek
          rw [nI_pred] at hl
          refine rn_lt0 X (ln_31 (show j < 4096 by omega)) (tgt := 75) dX3_winsOf_44 (by decide) ?_
          refine lv_aload_n X.1 X.2.1 dX3_winsOf_47 rfl (lv_at hl 2 rfl) ?_
          refine lv_iload X.1 X.2.1 dX3_winsOf_48 (lv_at hl 4 rfl) ?_
          refine lv_aload_n X.1 X.2.1 dX3_winsOf_50 rfl (lv_at hl 0 rfl) ?_
          refine lv_aload_n X.1 X.2.1 dX3_winsOf_51 rfl (lv_at hl 2 rfl) ?_
          refine lv_aload_n X.1 X.2.1 dX3_winsOf_52 rfl (lv_at hl 3 rfl) ?_
          refine lv_iload X.1 X.2.1 dX3_winsOf_53 (lv_at hl 4 rfl) ?_
          refine ln_vR X (c_X3_winningPost l D g a τ 1 N hW hN r j hr3 (show j < 2 ^ N 0 0 by omega) hET (ln_wn N r) (fun T h1 h2 => hT T (by omega) h2) (Nat.le_refl _)) hP 22 rfl rfl mM_X3_44 Y_X3_winningPost rfl (by omega) hl.1 rfl (Nat.le_of_ble_eq_true rfl) dX3_winsOf_55 ⟨Nat.zero_le _, Nat.zero_le _⟩ (fun r55 hr55 => ?_)
          subst hr55
          rcases ln_fr_cases (ln_wnf N r (ln_wn N r) j) (N 0 0) with ⟨ez, c1⟩ | ⟨ez, c1⟩
          · refine rn_top (y := nI (ln_fs (ln_wnf N r (ln_wn N r) j) (N 0 0))) ez ?_
            refine lv_iconst (v := ((-1))) X.1 X.2.1 dX3_winsOf_58 (by decide) ?_
            refine lv_icmp_ne (tgt := 66) X.1 X.2.1 dX3_winsOf_59 (by decide) (fun h59 => ?_) (fun h59 => absurd h59 (ln_nI_ne (by omega)))
            refine lv_iconst (v := ln_b true) X.1 X.2.1 dX3_winsOf_66 (by decide) ?_
            refine lv_i2b (v := ln_b true) X.1 X.2.1 dX3_winsOf_67 (by decide) ?_
            refine sC_r40 X hP hDw hSw hr3 (by omega) (ln_b_bar _) dX3_winsOf_68 (fun H locs hP hDw hSw => ?_)
            obtain ⟨τ1, hτ1⟩ : ∃ z : ln_S, z = (ln_up τ (40 + r) (upd (τ (40 + r)) j (ln_b true))) := ⟨_, rfl⟩
            rw [← hτ1] at hP hDw
            have hT1 : ∀ S, j ≤ S → S < 2 ^ N 0 0 → τ1 (40 + r) S = ln_b (ln_wn N r S) := fun S h1 h2 => by rw [hτ1, ln_up_s]; by_cases e : S = j; (· subst e; rw [ln_upd_s]; first | exact ln_wn_t hW h2 c1 | exact ln_wn_f hW h2 c1); (· rw [ln_upd_n e]; exact hT S (by omega) h2)
            have ho1 : ∀ c, c ≠ 40 + r → τ1 c = τ29 c := fun c h1 => by rw [hτ1, ln_up_n _ _ h1]; exact ho c h1
            refine lv_iinc (v := (nI j - 1)) (lv' := [(4, .int (nI j - 1)), (0, .ref (a 22)), (1, .int (nI r)), (2, .ref (a (40 + r))), (3, .ref (a (37 + r)))]) X.1 X.2.1 dX3_winsOf_69 hl (k := 4) rfl rn_inn (by decide) rfl (fun ls hl => ?_)
            refine lv_goto (tgt := 42) X.1 X.2.1 dX3_winsOf_72 (by decide) ?_
            exact ih42 j τ1 H locs (by omega) (by omega) hT1 ho1 hP hDw hSw ls (lv_sub hl [1, 2, 3, 4, 0] rfl)
          · refine rn_top (y := ((-1))) ez ?_
            refine lv_iconst (v := ((-1))) X.1 X.2.1 dX3_winsOf_58 (by decide) ?_
            refine lv_icmp_ne (tgt := 66) X.1 X.2.1 dX3_winsOf_59 (by decide) (fun h59 => absurd rfl h59) (fun h59 => ?_)
            refine lv_iconst (v := ln_b false) X.1 X.2.1 dX3_winsOf_62 (by decide) ?_
            refine lv_goto (tgt := 67) X.1 X.2.1 dX3_winsOf_63 (by decide) ?_
            refine lv_i2b (v := ln_b false) X.1 X.2.1 dX3_winsOf_67 (by decide) ?_
            refine sC_r40 X hP hDw hSw hr3 (by omega) (ln_b_bar _) dX3_winsOf_68 (fun H locs hP hDw hSw => ?_)
            obtain ⟨τ1, hτ1⟩ : ∃ z : ln_S, z = (ln_up τ (40 + r) (upd (τ (40 + r)) j (ln_b false))) := ⟨_, rfl⟩
            rw [← hτ1] at hP hDw
            have hT1 : ∀ S, j ≤ S → S < 2 ^ N 0 0 → τ1 (40 + r) S = ln_b (ln_wn N r S) := fun S h1 h2 => by rw [hτ1, ln_up_s]; by_cases e : S = j; (· subst e; rw [ln_upd_s]; first | exact ln_wn_t hW h2 c1 | exact ln_wn_f hW h2 c1); (· rw [ln_upd_n e]; exact hT S (by omega) h2)
            have ho1 : ∀ c, c ≠ 40 + r → τ1 c = τ29 c := fun c h1 => by rw [hτ1, ln_up_n _ _ h1]; exact ho c h1
            refine lv_iinc (v := (nI j - 1)) (lv' := [(4, .int (nI j - 1)), (0, .ref (a 22)), (1, .int (nI r)), (2, .ref (a (40 + r))), (3, .ref (a (37 + r)))]) X.1 X.2.1 dX3_winsOf_69 hl (k := 4) rfl rn_inn (by decide) rfl (fun ls hl => ?_)
            refine lv_goto (tgt := 42) X.1 X.2.1 dX3_winsOf_72 (by decide) ?_
            exact ih42 j τ1 H locs (by omega) (by omega) hT1 ho1 hP hDw hSw ls (lv_sub hl [1, 2, 3, 4, 0] rfl)
    exact L42 _ (2 ^ N 0 0) τ29 H locs (Nat.lt_succ_self _) (Nat.le_refl _) (fun S h1 h2 => absurd h2 (by omega)) (fun c hc => rfl) hP hDw hSw ls (lv_sub hl [3, 4, 2, 1, 0] rfl)
set_option maxHeartbeats 4000000 in
set_option maxRecDepth 100000 in
theorem c_X10_winsBy (l : Launch) (D : va_G) (g : Nat → ClassId) (a : Nat → Nat) (σ : ln_S) (d : Nat) (N : ln_N) (hW : ln_wf N) (hN : ln_nM N σ) (E : Nat) (hK : ln_MK N σ E) (r S : Nat) (hr3 : r < 3) (hEr : r ≠ E) (hS : S < 2 ^ N 0 0) (f : Nat → Bool) (hf : ∀ T, S < T → T < 2 ^ N 0 0 → σ 12 (4096 * r + T) = ln_b (f T)) (hd : 5 ≤ d) : ln_U l D g (MW a g) yX10_winsBy (.code yX10_winsBy cX10_winsBy 4 (some .int)) d [.ref (a 0), .int (nI r), .int (nI S)] σ (fun z τ => z = ln_fr (ln_wnf N r f S) (N 0 0) ∧ ln_nM N τ ∧ ln_MK N τ E ∧ ∀ c, c ≠ 0 → c ≠ 5 → c ≠ 6 → τ c = σ c) := by
  have hN12 := hW.n12
  have hp12 := hW.p12
  have hs1 := ln_sub1 (N 0 0)
  refine ln_ofU (by decide +kernel) (Nat.le_of_ble_eq_true rfl) (fun prg env rum sta mid args below meth cod ls A hr hlk X hA hP hDw hSw hl => ?_)
  have hl : lv_has ls 4 [(0, .ref (a 0)), (1, .int (nI r)), (2, .int (nI S))] := hl
  generalize hQ0 : (MQ below (va_Qi (fun z τ => z = ln_fr (ln_wnf N r f S) (N 0 0) ∧ ln_nM N τ ∧ ln_MK N τ E ∧ ∀ c, c ≠ 0 → c ≠ 5 → c ≠ 6 → τ c = σ c) (fun τ t => va_P D ln_cl (MW a g τ) t.heap) A) args sta 0 0 A) = Q0
  obtain ⟨H, hH⟩ : ∃ H, H = sta.heap := ⟨_, rfl⟩
  obtain ⟨locs, hlo⟩ : ∃ x : List Loc, x = [] := ⟨_, rfl⟩
  rw [← hH] at hP
  have hSw : va_S A sta.heap H locs := by rw [hH, hlo]; exact hSw
  have goal : W prg l env rum sta mid args below meth cod H locs 0 0 Q0 (F0 mid 0 ls []) := ?_
  · rw [hH, hlo] at goal; exact goal
  clear hlo
  refine lv_iconst (v := nI 0) X.1 X.2.1 dX10_winsBy_0 (by decide) ?_
  refine lv_istore_n (lv' := [(3, .int (nI 0)), (0, .ref (a 0)), (1, .int (nI r)), (2, .int (nI S))]) X.1 X.2.1 dX10_winsBy_1 rfl hl (by decide) rfl (fun ls hl => ?_)
  have L2 : ∀ (K : Nat) (p : Nat) (τ : ln_S) (H : Heap) (locs : List Loc), N 0 0 - p < K → (p ≤ N 0 0) → (∀ j, j < p → ln_wnf N r f S j = false) → (ln_nM N τ) → (ln_MK N τ E) → (∀ c, c ≠ 0 → c ≠ 5 → c ≠ 6 → τ c = σ c) → va_P D ln_cl (MW a g τ) H → va_D A (MW a g τ) → va_S A sta.heap H locs → ∀ ls : Array Slot, lv_has ls 4 [(0, .ref (a 0)), (1, .int (nI r)), (2, .int (nI S)), (3, .int (nI p))] → W prg l env rum sta mid args below meth cod H locs 0 0 Q0 (F0 mid 2 ls []) := by
    intro K
    induction K with
    | zero => intro p τ H locs hm; exact absurd hm (Nat.not_lt_zero _)
    | succ K ih2 =>
      intro p τ H locs hm2 hp hj hN hK ho hP hDw hSw ls hl
      refine lv_iload_n X.1 X.2.1 dX10_winsBy_2 rfl (lv_at hl 3 rfl) ?_
      refine lv_aload_n X.1 X.2.1 dX10_winsBy_3 rfl (lv_at hl 0 rfl) ?_
      refine gM_0_0 X hP (v := nI (N 0 0)) hN.n mF_X10_48 dX10_winsBy_4 ?_
      refine rn_ge X (by omega) (by omega) (tgt := 50) dX10_winsBy_7 (by decide) (fun h7 => ?_) (fun h7 => ?_)
      · skip
        refine lv_iconst (v := ((-1))) X.1 X.2.1 dX10_winsBy_50 (by decide) ?_
        subst hQ0
        exact ln_retU X hr hlk hP hSw rfl ⟨ln_fr_none (fun j hj2 => hj j (by omega)), hN, hK, ho⟩ dX10_winsBy_51
      · skip
        refine lv_iload_n X.1 X.2.1 dX10_winsBy_10 rfl (lv_at hl 2 rfl) ?_
        refine lv_iload_n X.1 X.2.1 dX10_winsBy_11 rfl (lv_at hl 3 rfl) ?_
        refine ln_sR X (c_X10_has l D g 0 S p (ln_31 (ln_n12 hW hS)) (by omega) (Nat.le_refl _)) ln_nil mM_X10_70 Y_X10_has rfl (by omega) hl.1 rfl (Nat.le_of_ble_eq_true rfl) dX10_winsBy_12 ⟨Nat.zero_le _, Nat.zero_le _⟩ (fun r12 hr12 => ?_)
        subst hr12
        refine rn_neB X (tgt := 44) dX10_winsBy_15 (by decide) (fun h15 => ?_) (fun h15 => ?_)
        · skip
          refine lv_iinc (v := nI (p + 1)) (lv' := [(3, .int (nI (p + 1))), (0, .ref (a 0)), (1, .int (nI r)), (2, .int (nI S))]) X.1 X.2.1 dX10_winsBy_44 hl (k := 3) rfl rn_inc (by decide) rfl (fun ls hl => ?_)
          refine lv_goto (tgt := 2) X.1 X.2.1 dX10_winsBy_47 (by decide) ?_
          exact ih2 (p + 1) τ H locs (by omega) (by omega) (ln_lt_s hj (by first | exact ln_wnf_a h15 | exact ln_wnf_b h39)) hN hK (by first | exact ho | exact ho1) hP hDw hSw ls (lv_sub hl [1, 2, 3, 0] rfl)
        · skip
          refine lv_aload_n X.1 X.2.1 dX10_winsBy_18 rfl (lv_at hl 0 rfl) ?_
          refine gM_0_14 X hP mF_X10_45 dX10_winsBy_19 ?_
          refine lv_sipush (v := nI 4096) X.1 X.2.1 dX10_winsBy_22 (by decide) ?_
          refine lv_iload_n X.1 X.2.1 dX10_winsBy_25 rfl (lv_at hl 1 rfl) ?_
          refine rn_mul X dX10_winsBy_26 ?_
          refine lv_aload_n X.1 X.2.1 dX10_winsBy_27 rfl (lv_at hl 0 rfl) ?_
          refine lv_iload_n X.1 X.2.1 dX10_winsBy_28 rfl (lv_at hl 1 rfl) ?_
          refine lv_iload_n X.1 X.2.1 dX10_winsBy_29 rfl (lv_at hl 2 rfl) ?_
          refine lv_iconst (v := nI 1) X.1 X.2.1 dX10_winsBy_30 (by decide) ?_
          refine lv_iload_n X.1 X.2.1 dX10_winsBy_31 rfl (lv_at hl 3 rfl) ?_
          refine rn_shl X (by omega) dX10_winsBy_32 ?_
          refine rn_or X dX10_winsBy_33 ?_
          refine ln_vU X (MW_ad a g) hA (c_X10_endOf l D g a τ 4 N hW hN E hK r (S ||| 2 ^ p) hr3 hEr (ln_put_lt hS h7) (Nat.le_refl _)) hP hDw hSw 0 rfl rfl mM_X10_114 Y_X10_endOf rfl (by omega) hl.1 rfl (Nat.le_of_ble_eq_true rfl) dX10_winsBy_34 ⟨Nat.zero_le _, Nat.zero_le _⟩ (fun r34 τ34 H locs hr34 hP hDw hSw => ?_)
          obtain ⟨hz34, hN, hK, hf34⟩ := hr34
          subst hz34
          have ho1 : ∀ c, c ≠ 0 → c ≠ 5 → c ≠ 6 → τ34 c = σ c := fun c h1 h2 h3 => (hf34 c h1 h2 h3).trans (ho c h1 h2 h3)
          have hel := ln_end12 hW r (ln_put_lt hS h7)
          refine rn_add X dX10_winsBy_37 ?_
          refine lM_12 X hP (by omega) (v := ln_b (f (ln_end N r (S ||| 2 ^ p)))) (by rw [ho1 12 (by decide) (by decide) (by decide)]; exact hf _ (ln_end_gt h15) (ln_end_lt hW r (ln_put_lt hS h7))) dX10_winsBy_38 ?_
          refine rn_neB X (tgt := 44) dX10_winsBy_39 (by decide) (fun h39 => ?_) (fun h39 => ?_)
          · skip
            refine lv_iinc (v := nI (p + 1)) (lv' := [(3, .int (nI (p + 1))), (0, .ref (a 0)), (1, .int (nI r)), (2, .int (nI S))]) X.1 X.2.1 dX10_winsBy_44 hl (k := 3) rfl rn_inc (by decide) rfl (fun ls hl => ?_)
            refine lv_goto (tgt := 2) X.1 X.2.1 dX10_winsBy_47 (by decide) ?_
            exact ih2 (p + 1) τ34 H locs (by omega) (by omega) (ln_lt_s hj (by first | exact ln_wnf_a h15 | exact ln_wnf_b h39)) hN hK (by first | exact ho | exact ho1) hP hDw hSw ls (lv_sub hl [1, 2, 3, 0] rfl)
          · skip
            refine lv_iload_n X.1 X.2.1 dX10_winsBy_42 rfl (lv_at hl 3 rfl) ?_
            subst hQ0
            exact ln_retU X hr hlk hP hSw rfl ⟨ln_fr_eq (ln_wnf_t h15 h39) hj h7, hN, hK, ho1⟩ dX10_winsBy_43
  exact L2 _ 0 σ H locs (Nat.lt_succ_self _) (Nat.zero_le _) (fun j h => absurd h (Nat.not_lt_zero j)) hN hK (fun c _ _ _ => rfl) hP hDw hSw ls (lv_sub hl [1, 2, 3, 0] rfl)
set_option maxHeartbeats 4000000 in
set_option maxRecDepth 100000 in
theorem c_X10_play (l : Launch) (D : va_G) (g : Nat → ClassId) (a : Nat → Nat) (σ : ln_S) (d : Nat) (N : ln_N) (hW : ln_wf N) (hN : ln_nM N σ) (hK : ln_MK N σ 99) (r : Nat) (hr3 : r < 3) (hd : 6 ≤ d) : ln_V l D g (MW a g) yX10_play (.code yX10_play cX10_play 3 none) d [.ref (a 0), .int (nI r)] σ (fun τ => ln_nM N τ ∧ ln_MK N τ 99 ∧ ∀ S, S < 2 ^ N 0 0 → τ 12 (4096 * r + S) = ln_b (ln_wn N r S)) := by
  have hN12 := hW.n12
  have hp12 := hW.p12
  have hs1 := ln_sub1 (N 0 0)
  obtain ⟨K, hK1, hK2, hK3⟩ := hK
  refine ln_ofV (by decide +kernel) (Nat.le_of_ble_eq_true rfl) (fun prg env rum sta mid args below meth cod ls A hr hlk X hA hP hDw hSw hl => ?_)
  have hl : lv_has ls 3 [(0, .ref (a 0)), (1, .int (nI r))] := hl
  generalize hQ0 : (MQ below (va_Qv (fun τ => ln_nM N τ ∧ ln_MK N τ 99 ∧ ∀ S, S < 2 ^ N 0 0 → τ 12 (4096 * r + S) = ln_b (ln_wn N r S)) (fun τ t => va_P D ln_cl (MW a g τ) t.heap) A) args sta 0 0 A) = Q0
  obtain ⟨H, hH⟩ : ∃ H, H = sta.heap := ⟨_, rfl⟩
  obtain ⟨locs, hlo⟩ : ∃ x : List Loc, x = [] := ⟨_, rfl⟩
  rw [← hH] at hP
  have hSw : va_S A sta.heap H locs := by rw [hH, hlo]; exact hSw
  have goal : W prg l env rum sta mid args below meth cod H locs 0 0 Q0 (F0 mid 0 ls []) := ?_
  · rw [hH, hlo] at goal; exact goal
  clear hlo
  refine lv_aload_n X.1 X.2.1 dX10_play_0 rfl (lv_at hl 0 rfl) ?_
  refine lv_iconst (v := nI 3) X.1 X.2.1 dX10_play_1 (by decide) ?_
  refine lv_iload_n X.1 X.2.1 dX10_play_2 rfl (lv_at hl 1 rfl) ?_
  refine rn_add X dX10_play_3 ?_
  refine ln_vU X (MW_ad a g) hA (c_X10_isKnown l D g a σ 0 K (3 + r) hK1 hK2 (by omega) (Nat.le_refl _)) hP hDw hSw 0 rfl rfl mM_X10_84 Y_X10_isKnown rfl (by omega) hl.1 rfl (Nat.le_of_ble_eq_true rfl) dX10_play_4 ⟨Nat.zero_le _, Nat.zero_le _⟩ (fun r4 τ4 H locs hr4 hP hDw hSw => ?_)
  obtain ⟨hz4, hτ4⟩ := hr4
  subst hz4
  have hN4 : ln_nM N τ4 := by rw [hτ4]; exact hN.up0 (by decide) _
  have h41 : τ4 0 1 = nI (K ||| 2 ^ (3 + r)) := by rw [hτ4]; rfl
  have ho4 : ∀ c, c ≠ 0 → τ4 c = σ c := fun c hc => by rw [hτ4, ln_up_n _ _ hc]
  have hK4 : ln_MK N τ4 (3 + r) := ln_MK_put hK2 (by omega) (fun k _ hb => hK3 k (by have := ln_testBit_hi hK2 hb; omega) hb) h41 (fun q => absurd rfl q) (fun k _ hk => hk.of (fun c hc => ho4 c (by omega)))
  refine rn_eqB X (tgt := 11) dX10_play_7 (by decide) (fun h7 => ?_) (fun h7 => ?_)
  · skip
    refine lv_aload_n X.1 X.2.1 dX10_play_11 rfl (lv_at hl 0 rfl) ?_
    refine ln_vR X (c_X10_all l D g a τ4 0 N hW hN4 (Nat.le_refl _)) hP 0 rfl rfl mM_X10_87 Y_X10_all rfl (by omega) hl.1 rfl (Nat.le_of_ble_eq_true rfl) dX10_play_12 ⟨Nat.zero_le _, Nat.zero_le _⟩ (fun r12 hr12 => ?_)
    subst hr12
    refine rn_top (y := (nI (2 ^ N 0 0) - 1)) (ln_m1p _) ?_
    refine lv_istore_n (lv' := [(2, .int (nI (2 ^ N 0 0) - 1)), (0, .ref (a 0)), (1, .int (nI r))]) X.1 X.2.1 dX10_play_15 rfl hl (by decide) rfl (fun ls hl => ?_)
    have L16 : ∀ (K : Nat) (k : Nat) (τ : ln_S) (H : Heap) (locs : List Loc), k < K → (k ≤ 2 ^ N 0 0) → (ln_nM N τ) → (ln_MK N τ (3 + r)) → (∀ S, k ≤ S → S < 2 ^ N 0 0 → τ 12 (4096 * r + S) = ln_b (ln_wn N r S)) → va_P D ln_cl (MW a g τ) H → va_D A (MW a g τ) → va_S A sta.heap H locs → ∀ ls : Array Slot, lv_has ls 3 [(0, .ref (a 0)), (1, .int (nI r)), (2, .int (nI k - 1))] → W prg l env rum sta mid args below meth cod H locs 0 0 Q0 (F0 mid 16 ls []) := by
      intro K
      induction K with
      | zero => intro k τ H locs hm; exact absurd hm (Nat.not_lt_zero _)
      | succ K ih16 =>
        intro k τ H locs hm16 hk hN hK hT hP hDw hSw ls hl
        refine lv_iload_n X.1 X.2.1 dX10_play_16 rfl (lv_at hl 2 rfl) ?_
        rcases ln_m1_cases k with ⟨ek, e1⟩ | ⟨j, ek, e1⟩
        · refine rn_top (y := ((-1))) e1 ?_
          refine lv_if_lt (tgt := 52) X.1 X.2.1 dX10_play_17 (by decide) (fun h17 => ?_) (fun h17 => absurd (by decide) h17)
          subst hQ0
          exact ln_retV X hr hlk hP hSw (by subst ek; have hTT : ∀ S, S < 2 ^ N 0 0 → τ 12 (4096 * r + S) = ln_b (ln_wn N r S) := (fun S h => hT S (Nat.zero_le _) h); exact ⟨hN, ln_MK_99 hK (by rw [ln_mT_w hr3]; exact hTT), hTT⟩) dX10_play_52
        · refine rn_top (y := nI j) e1 ?_
          subst ek
          rw [nI_pred] at hl
          refine rn_lt0 X (ln_31 (show j < 4096 by omega)) (tgt := 52) dX10_play_17 (by decide) ?_
          refine lv_aload_n X.1 X.2.1 dX10_play_20 rfl (lv_at hl 0 rfl) ?_
          refine gM_0_14 X hP mF_X10_45 dX10_play_21 ?_
          refine lv_sipush (v := nI 4096) X.1 X.2.1 dX10_play_24 (by decide) ?_
          refine lv_iload_n X.1 X.2.1 dX10_play_27 rfl (lv_at hl 1 rfl) ?_
          refine rn_mul X dX10_play_28 ?_
          refine lv_iload_n X.1 X.2.1 dX10_play_29 rfl (lv_at hl 2 rfl) ?_
          refine rn_add X dX10_play_30 ?_
          refine lv_aload_n X.1 X.2.1 dX10_play_31 rfl (lv_at hl 0 rfl) ?_
          refine lv_iload_n X.1 X.2.1 dX10_play_32 rfl (lv_at hl 1 rfl) ?_
          refine lv_iload_n X.1 X.2.1 dX10_play_33 rfl (lv_at hl 2 rfl) ?_
          refine ln_vU X (MW_ad a g) hA (c_X10_winsBy l D g a τ 5 N hW hN (3 + r) hK r j hr3 (by omega) (show j < 2 ^ N 0 0 by omega) (ln_wn N r) (fun T h1 h2 => hT T (by omega) h2) (Nat.le_refl _)) hP hDw hSw 0 rfl rfl mM_X10_144 Y_X10_winsBy rfl (by omega) hl.1 rfl (Nat.le_of_ble_eq_true rfl) dX10_play_34 ⟨Nat.zero_le _, Nat.zero_le _⟩ (fun r34 τ34 H locs hr34 hP hDw hSw => ?_)
          obtain ⟨hz34, hN, hK, hf34⟩ := hr34
          subst hz34
          rcases ln_fr_cases (ln_wnf N r (ln_wn N r) j) (N 0 0) with ⟨ez, c1⟩ | ⟨ez, c1⟩
          · refine rn_top (y := nI (ln_fs (ln_wnf N r (ln_wn N r) j) (N 0 0))) ez ?_
            refine rn_lt0 X (by omega) (tgt := 44) dX10_play_37 (by decide) ?_
            refine lv_iconst (v := ln_b true) X.1 X.2.1 dX10_play_40 (by decide) ?_
            refine lv_goto (tgt := 45) X.1 X.2.1 dX10_play_41 (by decide) ?_
            refine sM_12 X hP hDw hSw (by omega) (ln_b_zar _) dX10_play_45 (fun H locs hP hDw hSw => ?_)
            obtain ⟨τ1, hτ1⟩ : ∃ z : ln_S, z = (ln_up τ34 12 (upd (τ34 12) (4096 * r + j) (ln_b true))) := ⟨_, rfl⟩
            rw [← hτ1] at hP hDw
            have hT1 : ∀ S, j ≤ S → S < 2 ^ N 0 0 → τ1 12 (4096 * r + S) = ln_b (ln_wn N r S) := fun S h1 h2 => by rw [hτ1, ln_up_s]; by_cases e : S = j; (· subst e; rw [ln_upd_s]; first | exact ln_wn_t hW h2 c1 | exact ln_wn_f hW h2 c1); (· rw [ln_upd_n (by omega), hf34 12 (by decide) (by decide) (by decide)]; exact hT S (by omega) h2)
            refine lv_iinc (v := (nI j - 1)) (lv' := [(2, .int (nI j - 1)), (0, .ref (a 0)), (1, .int (nI r))]) X.1 X.2.1 dX10_play_46 hl (k := 2) rfl rn_inn (by decide) rfl (fun ls hl => ?_)
            refine lv_goto (tgt := 16) X.1 X.2.1 dX10_play_49 (by decide) ?_
            exact ih16 j τ1 H locs (by omega) (by omega) (by rw [hτ1]; exact hN.of rfl (fun c h1 h2 => ln_up_n _ _ (by omega))) (by rw [hτ1]; exact ln_MK_w hW (by omega) hK) hT1 hP hDw hSw ls (lv_sub hl [1, 2, 0] rfl)
          · refine rn_top (y := ((-1))) ez ?_
            refine lv_if_lt (tgt := 44) X.1 X.2.1 dX10_play_37 (by decide) (fun h37 => ?_) (fun h37 => absurd (by decide) h37)
            refine lv_iconst (v := ln_b false) X.1 X.2.1 dX10_play_44 (by decide) ?_
            refine sM_12 X hP hDw hSw (by omega) (ln_b_zar _) dX10_play_45 (fun H locs hP hDw hSw => ?_)
            obtain ⟨τ1, hτ1⟩ : ∃ z : ln_S, z = (ln_up τ34 12 (upd (τ34 12) (4096 * r + j) (ln_b false))) := ⟨_, rfl⟩
            rw [← hτ1] at hP hDw
            have hT1 : ∀ S, j ≤ S → S < 2 ^ N 0 0 → τ1 12 (4096 * r + S) = ln_b (ln_wn N r S) := fun S h1 h2 => by rw [hτ1, ln_up_s]; by_cases e : S = j; (· subst e; rw [ln_upd_s]; first | exact ln_wn_t hW h2 c1 | exact ln_wn_f hW h2 c1); (· rw [ln_upd_n (by omega), hf34 12 (by decide) (by decide) (by decide)]; exact hT S (by omega) h2)
            refine lv_iinc (v := (nI j - 1)) (lv' := [(2, .int (nI j - 1)), (0, .ref (a 0)), (1, .int (nI r))]) X.1 X.2.1 dX10_play_46 hl (k := 2) rfl rn_inn (by decide) rfl (fun ls hl => ?_)
            refine lv_goto (tgt := 16) X.1 X.2.1 dX10_play_49 (by decide) ?_
            exact ih16 j τ1 H locs (by omega) (by omega) (by rw [hτ1]; exact hN.of rfl (fun c h1 h2 => ln_up_n _ _ (by omega))) (by rw [hτ1]; exact ln_MK_w hW (by omega) hK) hT1 hP hDw hSw ls (lv_sub hl [1, 2, 0] rfl)
    exact L16 _ (2 ^ N 0 0) τ4 H locs (Nat.lt_succ_self _) (Nat.le_refl _) hN4 hK4 (fun S h1 h2 => absurd h2 (by omega)) hP hDw hSw ls (lv_sub hl [1, 2, 0] rfl)
  · skip
    subst hQ0
    exact ln_retV X hr hlk hP hSw (by have hTT : ln_mT N τ4 (3 + r) := (hK3 _ (by omega) h7).of (fun c hc => ho4 c (by omega)); exact ⟨hN4, ln_MK_99 hK4 hTT, by rw [ln_mT_w hr3] at hTT; exact hTT⟩) dX10_play_10
set_option maxHeartbeats 4000000 in
set_option maxRecDepth 100000 in
theorem c_X10_win (l : Launch) (D : va_G) (g : Nat → ClassId) (a : Nat → Nat) (σ : ln_S) (d : Nat) (N : ln_N) (hI : ln_MI N σ) (x y : Int32) (hd : 7 ≤ d) : ln_U l D g (MW a g) yX10_win (.code yX10_win cX10_win 3 (some .int)) d [.ref (a 0), .int x, .int y] σ (fun z τ => ln_MI N τ ∧ ln_oWn N x y z) := by
  obtain ⟨hW, hN, hK⟩ := hI
  have hN12 := hW.n12
  have hp12 := hW.p12
  have hs1 := ln_sub1 (N 0 0)
  refine ln_ofU (by decide +kernel) (Nat.le_of_ble_eq_true rfl) (fun prg env rum sta mid args below meth cod ls A hr hlk X hA hP hDw hSw hl => ?_)
  have hl : lv_has ls 3 [(0, .ref (a 0)), (1, .int x), (2, .int y)] := hl
  generalize hQ0 : (MQ below (va_Qi (fun z τ => ln_MI N τ ∧ ln_oWn N x y z) (fun τ t => va_P D ln_cl (MW a g τ) t.heap) A) args sta 0 0 A) = Q0
  obtain ⟨H, hH⟩ : ∃ H, H = sta.heap := ⟨_, rfl⟩
  obtain ⟨locs, hlo⟩ : ∃ x : List Loc, x = [] := ⟨_, rfl⟩
  rw [← hH] at hP
  have hSw : va_S A sta.heap H locs := by rw [hH, hlo]; exact hSw
  have goal : W prg l env rum sta mid args below meth cod H locs 0 0 Q0 (F0 mid 0 ls []) := ?_
  · rw [hH, hlo] at goal; exact goal
  clear hlo
  refine lv_iload_n X.1 X.2.1 dX10_win_0 rfl (lv_at hl 1 rfl) ?_
  refine ln_sR X (c_X10_isRule l D g 1 x (Nat.le_refl _)) ln_nil mM_X10_95 Y_X10_isRule rfl (by omega) hl.1 rfl (Nat.le_of_ble_eq_true rfl) dX10_win_1 ⟨Nat.zero_le _, Nat.zero_le _⟩ (fun r1 hr1 => ?_)
  subst hr1
  refine rn_eqB X (tgt := 15) dX10_win_4 (by decide) (fun h4 => ?_) (fun h4 => ?_)
  · skip
    refine lv_bipush (v := ((-2))) X.1 X.2.1 dX10_win_15 (by decide) ?_
    subst hQ0
    exact ln_retU X hr hlk hP hSw rfl ⟨⟨hW, hN, hK⟩, Or.inl ⟨by first | exact Or.inl h4 | exact Or.inr h12, rfl⟩⟩ dX10_win_17
  · skip
    obtain ⟨r, hr3, rfl⟩ := ln_inr_t (by decide) h4
    refine lv_aload_n X.1 X.2.1 dX10_win_7 rfl (lv_at hl 0 rfl) ?_
    refine lv_iload_n X.1 X.2.1 dX10_win_8 rfl (lv_at hl 2 rfl) ?_
    refine ln_vR X (c_X10_isSet l D g a σ 0 N hW hN y (Nat.le_refl _)) hP 0 rfl rfl mM_X10_98 Y_X10_isSet rfl (by omega) hl.1 rfl (Nat.le_of_ble_eq_true rfl) dX10_win_9 ⟨Nat.zero_le _, Nat.zero_le _⟩ (fun r9 hr9 => ?_)
    subst hr9
    refine rn_neB X (tgt := 18) dX10_win_12 (by decide) (fun h12 => ?_) (fun h12 => ?_)
    · skip
      obtain ⟨S, hS, rfl⟩ := ln_inr_t (by omega) h12
      refine lv_aload_n X.1 X.2.1 dX10_win_18 rfl (lv_at hl 0 rfl) ?_
      refine lv_iload_n X.1 X.2.1 dX10_win_19 rfl (lv_at hl 1 rfl) ?_
      refine ln_vV X (MW_ad a g) hA (c_X10_play l D g a σ 6 N hW hN hK r hr3 (Nat.le_refl _)) hP hDw hSw 0 rfl rfl mM_X10_147 Y_X10_play rfl (by omega) hl.1 rfl (Nat.le_of_ble_eq_true rfl) dX10_win_20 ⟨Nat.zero_le _, Nat.zero_le _⟩ (fun τ20 H locs hr20 hP hDw hSw => ?_)
      obtain ⟨hN, hK, hT⟩ := hr20
      refine lv_aload_n X.1 X.2.1 dX10_win_23 rfl (lv_at hl 0 rfl) ?_
      refine gM_0_14 X hP mF_X10_45 dX10_win_24 ?_
      refine lv_sipush (v := nI 4096) X.1 X.2.1 dX10_win_27 (by decide) ?_
      refine lv_iload_n X.1 X.2.1 dX10_win_30 rfl (lv_at hl 1 rfl) ?_
      refine rn_mul X dX10_win_31 ?_
      refine lv_iload_n X.1 X.2.1 dX10_win_32 rfl (lv_at hl 2 rfl) ?_
      refine rn_add X dX10_win_33 ?_
      refine lM_12 X hP (by omega) (v := ln_b (ln_wn N r S)) (hT S hS) dX10_win_34 ?_
      refine rn_eqB X (tgt := 42) dX10_win_35 (by decide) (fun h35 => ?_) (fun h35 => ?_)
      · skip
        refine lv_iconst (v := nI 0) X.1 X.2.1 dX10_win_42 (by decide) ?_
        subst hQ0
        exact ln_retU X hr hlk hP hSw rfl ⟨⟨hW, hN, hK⟩, Or.inr ⟨r, S, hr3, hS, rfl, rfl, by show _ = ln_b (ln_wn N r S); rw [h35]; rfl⟩⟩ dX10_win_43
      · skip
        refine lv_iconst (v := nI 1) X.1 X.2.1 dX10_win_38 (by decide) ?_
        refine lv_goto (tgt := 43) X.1 X.2.1 dX10_win_39 (by decide) ?_
        subst hQ0
        exact ln_retU X hr hlk hP hSw rfl ⟨⟨hW, hN, hK⟩, Or.inr ⟨r, S, hr3, hS, rfl, rfl, by show _ = ln_b (ln_wn N r S); rw [h35]; rfl⟩⟩ dX10_win_43
    · skip
      refine lv_bipush (v := ((-2))) X.1 X.2.1 dX10_win_15 (by decide) ?_
      subst hQ0
      exact ln_retU X hr hlk hP hSw rfl ⟨⟨hW, hN, hK⟩, Or.inl ⟨by first | exact Or.inl h4 | exact Or.inr h12, rfl⟩⟩ dX10_win_17
set_option maxHeartbeats 4000000 in
set_option maxRecDepth 100000 in
theorem c_X10_first (l : Launch) (D : va_G) (g : Nat → ClassId) (a : Nat → Nat) (σ : ln_S) (d : Nat) (N : ln_N) (hI : ln_MI N σ) (x y : Int32) (hd : 7 ≤ d) : ln_U l D g (MW a g) yX10_first (.code yX10_first cX10_first 3 (some .int)) d [.ref (a 0), .int x, .int y] σ (fun z τ => ln_MI N τ ∧ ln_oFi N x y z) := by
  obtain ⟨hW, hN, hK⟩ := hI
  have hN12 := hW.n12
  have hp12 := hW.p12
  have hs1 := ln_sub1 (N 0 0)
  refine ln_ofU (by decide +kernel) (Nat.le_of_ble_eq_true rfl) (fun prg env rum sta mid args below meth cod ls A hr hlk X hA hP hDw hSw hl => ?_)
  have hl : lv_has ls 3 [(0, .ref (a 0)), (1, .int x), (2, .int y)] := hl
  generalize hQ0 : (MQ below (va_Qi (fun z τ => ln_MI N τ ∧ ln_oFi N x y z) (fun τ t => va_P D ln_cl (MW a g τ) t.heap) A) args sta 0 0 A) = Q0
  obtain ⟨H, hH⟩ : ∃ H, H = sta.heap := ⟨_, rfl⟩
  obtain ⟨locs, hlo⟩ : ∃ x : List Loc, x = [] := ⟨_, rfl⟩
  rw [← hH] at hP
  have hSw : va_S A sta.heap H locs := by rw [hH, hlo]; exact hSw
  have goal : W prg l env rum sta mid args below meth cod H locs 0 0 Q0 (F0 mid 0 ls []) := ?_
  · rw [hH, hlo] at goal; exact goal
  clear hlo
  refine lv_iload_n X.1 X.2.1 dX10_first_0 rfl (lv_at hl 1 rfl) ?_
  refine ln_sR X (c_X10_isRule l D g 1 x (Nat.le_refl _)) ln_nil mM_X10_95 Y_X10_isRule rfl (by omega) hl.1 rfl (Nat.le_of_ble_eq_true rfl) dX10_first_1 ⟨Nat.zero_le _, Nat.zero_le _⟩ (fun r1 hr1 => ?_)
  subst hr1
  refine rn_eqB X (tgt := 15) dX10_first_4 (by decide) (fun h4 => ?_) (fun h4 => ?_)
  · skip
    refine lv_bipush (v := ((-2))) X.1 X.2.1 dX10_first_15 (by decide) ?_
    subst hQ0
    exact ln_retU X hr hlk hP hSw rfl ⟨⟨hW, hN, hK⟩, Or.inl ⟨by first | exact Or.inl h4 | exact Or.inr h12, rfl⟩⟩ dX10_first_17
  · skip
    obtain ⟨r, hr3, rfl⟩ := ln_inr_t (by decide) h4
    refine lv_aload_n X.1 X.2.1 dX10_first_7 rfl (lv_at hl 0 rfl) ?_
    refine lv_iload_n X.1 X.2.1 dX10_first_8 rfl (lv_at hl 2 rfl) ?_
    refine ln_vR X (c_X10_isSet l D g a σ 0 N hW hN y (Nat.le_refl _)) hP 0 rfl rfl mM_X10_98 Y_X10_isSet rfl (by omega) hl.1 rfl (Nat.le_of_ble_eq_true rfl) dX10_first_9 ⟨Nat.zero_le _, Nat.zero_le _⟩ (fun r9 hr9 => ?_)
    subst hr9
    refine rn_neB X (tgt := 18) dX10_first_12 (by decide) (fun h12 => ?_) (fun h12 => ?_)
    · skip
      obtain ⟨S, hS, rfl⟩ := ln_inr_t (by omega) h12
      refine lv_aload_n X.1 X.2.1 dX10_first_18 rfl (lv_at hl 0 rfl) ?_
      refine lv_iload_n X.1 X.2.1 dX10_first_19 rfl (lv_at hl 1 rfl) ?_
      refine ln_vV X (MW_ad a g) hA (c_X10_play l D g a σ 6 N hW hN hK r hr3 (Nat.le_refl _)) hP hDw hSw 0 rfl rfl mM_X10_147 Y_X10_play rfl (by omega) hl.1 rfl (Nat.le_of_ble_eq_true rfl) dX10_first_20 ⟨Nat.zero_le _, Nat.zero_le _⟩ (fun τ20 H locs hr20 hP hDw hSw => ?_)
      obtain ⟨hN, hK, hT⟩ := hr20
      refine lv_aload_n X.1 X.2.1 dX10_first_23 rfl (lv_at hl 0 rfl) ?_
      refine lv_iload_n X.1 X.2.1 dX10_first_24 rfl (lv_at hl 1 rfl) ?_
      refine lv_iload_n X.1 X.2.1 dX10_first_25 rfl (lv_at hl 2 rfl) ?_
      refine ln_vU X (MW_ad a g) hA (c_X10_winsBy l D g a τ20 5 N hW hN 99 hK r S hr3 (by omega) hS (ln_wn N r) (fun T h1 h2 => hT T h2) (Nat.le_refl _)) hP hDw hSw 0 rfl rfl mM_X10_144 Y_X10_winsBy rfl (by omega) hl.1 rfl (Nat.le_of_ble_eq_true rfl) dX10_first_26 ⟨Nat.zero_le _, Nat.zero_le _⟩ (fun r26 τ26 H locs hr26 hP hDw hSw => ?_)
      obtain ⟨hz26, hN, hK, hf26⟩ := hr26
      subst hz26
      subst hQ0
      exact ln_retU X hr hlk hP hSw rfl ⟨⟨hW, hN, hK⟩, Or.inr ⟨r, S, hr3, hS, rfl, rfl, rfl⟩⟩ dX10_first_29
    · skip
      refine lv_bipush (v := ((-2))) X.1 X.2.1 dX10_first_15 (by decide) ?_
      subst hQ0
      exact ln_retU X hr hlk hP hSw rfl ⟨⟨hW, hN, hK⟩, Or.inl ⟨by first | exact Or.inl h4 | exact Or.inr h12, rfl⟩⟩ dX10_first_17
