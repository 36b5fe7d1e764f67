theorem ln_inr_out {y : Int32} {n : Nat} (h : ¬ ln_inr y (n + 1) = true) : y.toInt < 0 ∨ ((n : Nat) : Int) < y.toInt := by
  have h1 : ¬ (0 ≤ y.toInt ∧ y.toInt < ((n + 1 : Nat) : Int)) := fun q => h (decide_eq_true q)
  omega
theorem ln_wh_out {N : ln_N} {p : Nat} {y : Int32} (h : ¬ ln_inr y 4 = true) : -2 = ln_wh N p y := ln_wh_4 (fun q => h (by rw [q]; decide)) (fun q => h (by rw [q]; decide)) (fun q => h (by rw [q]; decide)) (fun q => h (by rw [q]; decide))
set_option maxHeartbeats 4000000 in
set_option maxRecDepth 100000 in
theorem c_X9_post (l : Launch) (D : va_G) (g : Nat → ClassId) (a : Nat → Nat) (σ : ln_S) (d : Nat) (N : ln_N) (v : Nat) (hI : ln_CI N v σ) (hv9 : v < 900000)  (hd : 1 ≤ d) : ln_U l D g (CW a g) yX9_post (.code yX9_post cX9_post 1 (some .int)) d [.ref (a 0)] σ (fun z τ => ∃ M, ln_CI M (v + 1) τ ∧ ln_oPo N M z) := by
  obtain ⟨hW, hN, rv, bv, hV, hvv, hE, hAK, hTK, hHK, hWK⟩ := hI
  have hN12 := hW.n12
  have hp12 := hW.p12
  have hs1 := ln_sub1 (N 0 0)
  refine ln_ofU (by decide +kernel) (Nat.le_of_ble_eq_true rfl) (fun prg env rum sta mid args below meth cod ls A hr hlk X hA hP hDw hSw hl => ?_)
  have hl : lv_has ls 1 [(0, .ref (a 0))] := hl
  generalize hQ0 : (MQ below (va_Qi (fun z τ => ∃ M, ln_CI M (v + 1) τ ∧ ln_oPo N M z) (fun τ t => va_P D ln_cl (CW a g τ) t.heap) A) args sta 0 0 A) = Q0
  obtain ⟨H, hH⟩ : ∃ H, H = sta.heap := ⟨_, rfl⟩
  obtain ⟨locs, hlo⟩ : ∃ x : List Loc, x = [] := ⟨_, rfl⟩
  rw [← hH] at hP
  have hSw : va_S A sta.heap H locs := by rw [hH, hlo]; exact hSw
  have goal : W prg l env rum sta mid args below meth cod H locs 0 0 Q0 (F0 mid 0 ls []) := ?_
  · rw [hH, hlo] at goal; exact goal
  clear hlo
  refine lv_aload_n X.1 X.2.1 dX9_post_0 rfl (lv_at hl 0 rfl) ?_
  refine gC_0_0 X hP mF_X9_12 dX9_post_1 ?_
  refine nC_1_0 X hP (v := nI (N 0 0)) hN.n mF_X9_76 dX9_post_4 ?_
  refine lv_bipush (v := nI 12) X.1 X.2.1 dX9_post_7 (by decide) ?_
  refine rn_lt X (by omega) (by decide) (tgt := 17) dX9_post_9 (by decide) (fun h9 => ?_) (fun h9 => ?_)
  · skip
    refine lv_aload_n X.1 X.2.1 dX9_post_17 rfl (lv_at hl 0 rfl) ?_
    refine gC_0_0 X hP mF_X9_12 dX9_post_18 ?_
    refine ln_vU X (CW_ad a g) hA (c_X4_addPost l D g a σ 0 N hW hN rv bv hV h9 (Nat.le_refl _)) hP hDw hSw 1 rfl rfl mM_X9_80 Y_X4_addPost rfl (by omega) hl.1 rfl (Nat.le_of_ble_eq_true rfl) dX9_post_21 ⟨Nat.zero_le _, Nat.zero_le _⟩ (fun r21 τ21 H locs hr21 hP hDw hSw => ?_)
    obtain ⟨hz, p1, p2, p3, p4⟩ := hr21
    subst hz
    subst hQ0
    exact ln_retU X hr hlk hP hSw rfl (by first | exact ⟨ln_nPo N, ln_CI_rd hv9 (ln_nPo_wf hW h9) p1 hV hvv p2 p3 hE hAK hTK hHK hWK p4, Or.inr ⟨h9, rfl, rfl⟩⟩ | exact ⟨N, ln_CI.up ⟨hW, hN, rv, bv, hV, hvv, hE, hAK, hTK, hHK, hWK⟩, Or.inl ⟨by omega, rfl, rfl⟩⟩) dX9_post_24
  · skip
    refine lv_bipush (v := ((-2))) X.1 X.2.1 dX9_post_12 (by decide) ?_
    refine lv_goto (tgt := 24) X.1 X.2.1 dX9_post_14 (by decide) ?_
    subst hQ0
    exact ln_retU X hr hlk hP hSw rfl (by first | exact ⟨ln_nPo N, ln_CI_rd hv9 (ln_nPo_wf hW h9) p1 hV hvv p2 p3 hE hAK hTK hHK hWK p4, Or.inr ⟨h9, rfl, rfl⟩⟩ | exact ⟨N, ln_CI.up ⟨hW, hN, rv, bv, hV, hvv, hE, hAK, hTK, hHK, hWK⟩, Or.inl ⟨by omega, rfl, rfl⟩⟩) dX9_post_24
set_option maxHeartbeats 4000000 in
set_option maxRecDepth 100000 in
theorem c_X9_road (l : Launch) (D : va_G) (g : Nat → ClassId) (a : Nat → Nat) (σ : ln_S) (d : Nat) (N : ln_N) (v : Nat) (hI : ln_CI N v σ) (hv9 : v < 900000) (x y w : Int32)  (hd : 1 ≤ d) : ln_U l D g (CW a g) yX9_road (.code yX9_road cX9_road 4 (some .int)) d [.ref (a 0), .int x, .int y, .int w] σ (fun z τ => ∃ M, ln_CI M (v + 1) τ ∧ ln_oRd N x y w M z) := by
  obtain ⟨hW, hN, rv, bv, hV, hvv, hE, hAK, hTK, hHK, hWK⟩ := hI
  have hN12 := hW.n12
  have hp12 := hW.p12
  have hs1 := ln_sub1 (N 0 0)
  refine ln_ofU (by decide +kernel) (Nat.le_of_ble_eq_true rfl) (fun prg env rum sta mid args below meth cod ls A hr hlk X hA hP hDw hSw hl => ?_)
  have hl : lv_has ls 4 [(0, .ref (a 0)), (1, .int x), (2, .int y), (3, .int w)] := hl
  generalize hQ0 : (MQ below (va_Qi (fun z τ => ∃ M, ln_CI M (v + 1) τ ∧ ln_oRd N x y w M z) (fun τ t => va_P D ln_cl (CW a g τ) t.heap) A) args sta 0 0 A) = Q0
  obtain ⟨H, hH⟩ : ∃ H, H = sta.heap := ⟨_, rfl⟩
  obtain ⟨locs, hlo⟩ : ∃ x : List Loc, x = [] := ⟨_, rfl⟩
  rw [← hH] at hP
  have hSw : va_S A sta.heap H locs := by rw [hH, hlo]; exact hSw
  have goal : W prg l env rum sta mid args below meth cod H locs 0 0 Q0 (F0 mid 0 ls []) := ?_
  · rw [hH, hlo] at goal; exact goal
  clear hlo
  refine lv_aload_n X.1 X.2.1 dX9_road_0 rfl (lv_at hl 0 rfl) ?_
  refine gC_0_0 X hP mF_X9_12 dX9_road_1 ?_
  refine lv_iload_n X.1 X.2.1 dX9_road_4 rfl (lv_at hl 1 rfl) ?_
  refine ln_vR X (c_X4_isPost l D g a σ 0 N hW hN x (Nat.le_refl _)) hP 1 rfl rfl mM_X9_84 Y_X4_isPost rfl (by omega) hl.1 rfl (Nat.le_of_ble_eq_true rfl) dX9_road_5 ⟨Nat.zero_le _, Nat.zero_le _⟩ (fun r5 hr5 => ?_)
  subst hr5
  refine rn_eqB X (tgt := 37) dX9_road_8 (by decide) (fun h8 => ?_) (fun h8 => ?_)
  · skip
    refine lv_bipush (v := ((-2))) X.1 X.2.1 dX9_road_37 (by decide) ?_
    subst hQ0
    exact ln_retU X hr hlk hP hSw rfl ⟨N, ln_CI.up ⟨hW, hN, rv, bv, hV, hvv, hE, hAK, hTK, hHK, hWK⟩, Or.inl ⟨by first | exact Or.inl h8 | exact Or.inr (Or.inl h19) | exact Or.inr (Or.inr (Or.inl (by rw [h24]))) | exact Or.inr (Or.inr (Or.inr (ln_inr_lt h28))) | exact Or.inr (Or.inr (Or.inr (ln_inr_gt (n := 9) (by decide) (Int32.not_le.mp h34)))), rfl, rfl⟩⟩ dX9_road_39
  · skip
    obtain ⟨p, hp, rfl⟩ := ln_inr_t (by omega) h8
    refine lv_aload_n X.1 X.2.1 dX9_road_11 rfl (lv_at hl 0 rfl) ?_
    refine gC_0_0 X hP mF_X9_12 dX9_road_12 ?_
    refine lv_iload_n X.1 X.2.1 dX9_road_15 rfl (lv_at hl 2 rfl) ?_
    refine ln_vR X (c_X4_isPost l D g a σ 0 N hW hN y (Nat.le_refl _)) hP 1 rfl rfl mM_X9_84 Y_X4_isPost rfl (by omega) hl.1 rfl (Nat.le_of_ble_eq_true rfl) dX9_road_16 ⟨Nat.zero_le _, Nat.zero_le _⟩ (fun r16 hr16 => ?_)
    subst hr16
    refine rn_eqB X (tgt := 37) dX9_road_19 (by decide) (fun h19 => ?_) (fun h19 => ?_)
    · skip
      refine lv_bipush (v := ((-2))) X.1 X.2.1 dX9_road_37 (by decide) ?_
      subst hQ0
      exact ln_retU X hr hlk hP hSw rfl ⟨N, ln_CI.up ⟨hW, hN, rv, bv, hV, hvv, hE, hAK, hTK, hHK, hWK⟩, Or.inl ⟨by first | exact Or.inl h8 | exact Or.inr (Or.inl h19) | exact Or.inr (Or.inr (Or.inl (by rw [h24]))) | exact Or.inr (Or.inr (Or.inr (ln_inr_lt h28))) | exact Or.inr (Or.inr (Or.inr (ln_inr_gt (n := 9) (by decide) (Int32.not_le.mp h34)))), rfl, rfl⟩⟩ dX9_road_39
    · skip
      obtain ⟨q, hq, rfl⟩ := ln_inr_t (by omega) h19
      refine lv_iload_n X.1 X.2.1 dX9_road_22 rfl (lv_at hl 1 rfl) ?_
      refine lv_iload_n X.1 X.2.1 dX9_road_23 rfl (lv_at hl 2 rfl) ?_
      refine rn_eq X (by omega) (by omega) (tgt := 37) dX9_road_24 (by decide) (fun h24 => ?_) (fun h24 => ?_)
      · skip
        refine lv_bipush (v := ((-2))) X.1 X.2.1 dX9_road_37 (by decide) ?_
        subst hQ0
        exact ln_retU X hr hlk hP hSw rfl ⟨N, ln_CI.up ⟨hW, hN, rv, bv, hV, hvv, hE, hAK, hTK, hHK, hWK⟩, Or.inl ⟨by first | exact Or.inl h8 | exact Or.inr (Or.inl h19) | exact Or.inr (Or.inr (Or.inl (by rw [h24]))) | exact Or.inr (Or.inr (Or.inr (ln_inr_lt h28))) | exact Or.inr (Or.inr (Or.inr (ln_inr_gt (n := 9) (by decide) (Int32.not_le.mp h34)))), rfl, rfl⟩⟩ dX9_road_39
      · skip
        refine lv_iload_n X.1 X.2.1 dX9_road_27 rfl (lv_at hl 3 rfl) ?_
        refine lv_if_lt (tgt := 37) X.1 X.2.1 dX9_road_28 (by decide) (fun h28 => ?_) (fun h28 => ?_)
        · skip
          refine lv_bipush (v := ((-2))) X.1 X.2.1 dX9_road_37 (by decide) ?_
          subst hQ0
          exact ln_retU X hr hlk hP hSw rfl ⟨N, ln_CI.up ⟨hW, hN, rv, bv, hV, hvv, hE, hAK, hTK, hHK, hWK⟩, Or.inl ⟨by first | exact Or.inl h8 | exact Or.inr (Or.inl h19) | exact Or.inr (Or.inr (Or.inl (by rw [h24]))) | exact Or.inr (Or.inr (Or.inr (ln_inr_lt h28))) | exact Or.inr (Or.inr (Or.inr (ln_inr_gt (n := 9) (by decide) (Int32.not_le.mp h34)))), rfl, rfl⟩⟩ dX9_road_39
        · skip
          refine lv_iload_n X.1 X.2.1 dX9_road_31 rfl (lv_at hl 3 rfl) ?_
          refine lv_bipush (v := nI 9) X.1 X.2.1 dX9_road_32 (by decide) ?_
          refine lv_icmp_le (tgt := 40) X.1 X.2.1 dX9_road_34 (by decide) (fun h34 => ?_) (fun h34 => ?_)
          · skip
            obtain ⟨k, hk, rfl⟩ := ln_inr_t (by decide) (ln_inr_in2 (n := 9) (by decide) h28 (Int32.not_lt.mpr h34))
            refine lv_aload_n X.1 X.2.1 dX9_road_40 rfl (lv_at hl 0 rfl) ?_
            refine gC_0_0 X hP mF_X9_12 dX9_road_41 ?_
            refine lv_iload_n X.1 X.2.1 dX9_road_44 rfl (lv_at hl 1 rfl) ?_
            refine lv_iload_n X.1 X.2.1 dX9_road_45 rfl (lv_at hl 2 rfl) ?_
            refine lv_iload_n X.1 X.2.1 dX9_road_46 rfl (lv_at hl 3 rfl) ?_
            refine ln_vU X (CW_ad a g) hA (c_X4_setWeight l D g a σ 0 N hW hN rv bv hV p q k hp hq (by omega) (Nat.le_refl _)) hP hDw hSw 1 rfl rfl mM_X9_88 Y_X4_setWeight rfl (by omega) hl.1 rfl (Nat.le_of_ble_eq_true rfl) dX9_road_47 ⟨Nat.zero_le _, Nat.zero_le _⟩ (fun r47 τ47 H locs hr47 hP hDw hSw => ?_)
            obtain ⟨hz, p1, p2, p3, p4⟩ := hr47
            subst hz
            subst hQ0
            exact ln_retU X hr hlk hP hSw rfl ⟨ln_nRd N p q k, ln_CI_rd hv9 (ln_nRd_wf hW hp hq (by omega)) p1 hV hvv p2 p3 hE hAK hTK hHK hWK p4, Or.inr ⟨p, q, k, hp, hq, h24, hk, rfl, rfl, rfl, rfl, rfl⟩⟩ dX9_road_50
          · skip
            refine lv_bipush (v := ((-2))) X.1 X.2.1 dX9_road_37 (by decide) ?_
            subst hQ0
            exact ln_retU X hr hlk hP hSw rfl ⟨N, ln_CI.up ⟨hW, hN, rv, bv, hV, hvv, hE, hAK, hTK, hHK, hWK⟩, Or.inl ⟨by first | exact Or.inl h8 | exact Or.inr (Or.inl h19) | exact Or.inr (Or.inr (Or.inl (by rw [h24]))) | exact Or.inr (Or.inr (Or.inr (ln_inr_lt h28))) | exact Or.inr (Or.inr (Or.inr (ln_inr_gt (n := 9) (by decide) (Int32.not_le.mp h34)))), rfl, rfl⟩⟩ dX9_road_39
set_option maxHeartbeats 4000000 in
set_option maxRecDepth 100000 in
theorem c_X9_bar (l : Launch) (D : va_G) (g : Nat → ClassId) (a : Nat → Nat) (σ : ln_S) (d : Nat) (N : ln_N) (v : Nat) (hI : ln_CI N v σ) (hv9 : v < 900000) (x y : Int32)  (hd : 1 ≤ d) : ln_U l D g (CW a g) yX9_bar (.code yX9_bar cX9_bar 3 (some .int)) d [.ref (a 0), .int x, .int y] σ (fun z τ => ∃ M, ln_CI M (v + 1) τ ∧ ln_oSt 1 100 N x y M z) := by
  obtain ⟨hW, hN, rv, bv, hV, hvv, hE, hAK, hTK, hHK, hWK⟩ := hI
  have hN12 := hW.n12
  have hp12 := hW.p12
  have hs1 := ln_sub1 (N 0 0)
  refine ln_ofU (by decide +kernel) (Nat.le_of_ble_eq_true rfl) (fun prg env rum sta mid args below meth cod ls A hr hlk X hA hP hDw hSw hl => ?_)
  have hl : lv_has ls 3 [(0, .ref (a 0)), (1, .int x), (2, .int y)] := hl
  generalize hQ0 : (MQ below (va_Qi (fun z τ => ∃ M, ln_CI M (v + 1) τ ∧ ln_oSt 1 100 N x y M z) (fun τ t => va_P D ln_cl (CW a g τ) t.heap) A) args sta 0 0 A) = Q0
  obtain ⟨H, hH⟩ : ∃ H, H = sta.heap := ⟨_, rfl⟩
  obtain ⟨locs, hlo⟩ : ∃ x : List Loc, x = [] := ⟨_, rfl⟩
  rw [← hH] at hP
  have hSw : va_S A sta.heap H locs := by rw [hH, hlo]; exact hSw
  have goal : W prg l env rum sta mid args below meth cod H locs 0 0 Q0 (F0 mid 0 ls []) := ?_
  · rw [hH, hlo] at goal; exact goal
  clear hlo
  refine lv_aload_n X.1 X.2.1 dX9_bar_0 rfl (lv_at hl 0 rfl) ?_
  refine gC_0_0 X hP mF_X9_12 dX9_bar_1 ?_
  refine lv_iload_n X.1 X.2.1 dX9_bar_4 rfl (lv_at hl 1 rfl) ?_
  refine ln_vR X (c_X4_isPost l D g a σ 0 N hW hN x (Nat.le_refl _)) hP 1 rfl rfl mM_X9_84 Y_X4_isPost rfl (by omega) hl.1 rfl (Nat.le_of_ble_eq_true rfl) dX9_bar_5 ⟨Nat.zero_le _, Nat.zero_le _⟩ (fun r5 hr5 => ?_)
  subst hr5
  refine rn_eqB X (tgt := 21) dX9_bar_8 (by decide) (fun h8 => ?_) (fun h8 => ?_)
  · skip
    refine lv_bipush (v := ((-2))) X.1 X.2.1 dX9_bar_21 (by decide) ?_
    subst hQ0
    exact ln_retU X hr hlk hP hSw rfl ⟨N, ln_CI.up ⟨hW, hN, rv, bv, hV, hvv, hE, hAK, hTK, hHK, hWK⟩, Or.inl ⟨by first | exact Or.inl h8 | exact Or.inr (ln_inr_lt h12) | exact Or.inr (ln_inr_gt (n := 99) (by decide) (Int32.not_le.mp h18)), rfl, rfl⟩⟩ dX9_bar_23
  · skip
    obtain ⟨p, hp, rfl⟩ := ln_inr_t (by omega) h8
    refine lv_iload_n X.1 X.2.1 dX9_bar_11 rfl (lv_at hl 2 rfl) ?_
    refine lv_if_lt (tgt := 21) X.1 X.2.1 dX9_bar_12 (by decide) (fun h12 => ?_) (fun h12 => ?_)
    · skip
      refine lv_bipush (v := ((-2))) X.1 X.2.1 dX9_bar_21 (by decide) ?_
      subst hQ0
      exact ln_retU X hr hlk hP hSw rfl ⟨N, ln_CI.up ⟨hW, hN, rv, bv, hV, hvv, hE, hAK, hTK, hHK, hWK⟩, Or.inl ⟨by first | exact Or.inl h8 | exact Or.inr (ln_inr_lt h12) | exact Or.inr (ln_inr_gt (n := 99) (by decide) (Int32.not_le.mp h18)), rfl, rfl⟩⟩ dX9_bar_23
    · skip
      refine lv_iload_n X.1 X.2.1 dX9_bar_15 rfl (lv_at hl 2 rfl) ?_
      refine lv_bipush (v := nI 99) X.1 X.2.1 dX9_bar_16 (by decide) ?_
      refine lv_icmp_le (tgt := 24) X.1 X.2.1 dX9_bar_18 (by decide) (fun h18 => ?_) (fun h18 => ?_)
      · skip
        obtain ⟨k, hk, rfl⟩ := ln_inr_t (by decide) (ln_inr_in2 (n := 99) (by decide) h12 (Int32.not_lt.mpr h18))
        refine lv_aload_n X.1 X.2.1 dX9_bar_24 rfl (lv_at hl 0 rfl) ?_
        refine gC_0_0 X hP mF_X9_12 dX9_bar_25 ?_
        refine lv_iload_n X.1 X.2.1 dX9_bar_28 rfl (lv_at hl 1 rfl) ?_
        refine lv_iload_n X.1 X.2.1 dX9_bar_29 rfl (lv_at hl 2 rfl) ?_
        refine ln_vU X (CW_ad a g) hA (c_X4_setBar l D g a σ 0 N hW hN rv bv hV p k hp (Nat.le_refl _)) hP hDw hSw 1 rfl rfl mM_X9_92 Y_X4_setBar rfl (by omega) hl.1 rfl (Nat.le_of_ble_eq_true rfl) dX9_bar_30 ⟨Nat.zero_le _, Nat.zero_le _⟩ (fun r30 τ30 H locs hr30 hP hDw hSw => ?_)
        obtain ⟨hz, p1, p2, p3, p4⟩ := hr30
        subst hz
        subst hQ0
        exact ln_retU X hr hlk hP hSw rfl ⟨ln_nSt N 1 p k, ln_CI_br hv9 (ln_nSt_sim (by omega)) (ln_nSt_wf1 hW (by omega)) p1 hV hvv p2 p3 hE hAK hTK hHK hWK p4, Or.inr ⟨p, k, hp, hk, rfl, rfl, rfl, rfl⟩⟩ dX9_bar_33
      · skip
        refine lv_bipush (v := ((-2))) X.1 X.2.1 dX9_bar_21 (by decide) ?_
        subst hQ0
        exact ln_retU X hr hlk hP hSw rfl ⟨N, ln_CI.up ⟨hW, hN, rv, bv, hV, hvv, hE, hAK, hTK, hHK, hWK⟩, Or.inl ⟨by first | exact Or.inl h8 | exact Or.inr (ln_inr_lt h12) | exact Or.inr (ln_inr_gt (n := 99) (by decide) (Int32.not_le.mp h18)), rfl, rfl⟩⟩ dX9_bar_23
set_option maxHeartbeats 4000000 in
set_option maxRecDepth 100000 in
theorem c_X9_price (l : Launch) (D : va_G) (g : Nat → ClassId) (a : Nat → Nat) (σ : ln_S) (d : Nat) (N : ln_N) (v : Nat) (hI : ln_CI N v σ) (x y : Int32)  (hd : 1 ≤ d) : ln_U l D g (CW a g) yX9_price (.code yX9_price cX9_price 3 (some .int)) d [.ref (a 0), .int x, .int y] σ (fun z τ => ∃ M, ln_CI M (v + 1) τ ∧ ln_oSt 2 1001 N x y M z) := by
  obtain ⟨hW, hN, rv, bv, hV, hvv, hE, hAK, hTK, hHK, hWK⟩ := hI
  have hN12 := hW.n12
  have hp12 := hW.p12
  have hs1 := ln_sub1 (N 0 0)
  refine ln_ofU (by decide +kernel) (Nat.le_of_ble_eq_true rfl) (fun prg env rum sta mid args below meth cod ls A hr hlk X hA hP hDw hSw hl => ?_)
  have hl : lv_has ls 3 [(0, .ref (a 0)), (1, .int x), (2, .int y)] := hl
  generalize hQ0 : (MQ below (va_Qi (fun z τ => ∃ M, ln_CI M (v + 1) τ ∧ ln_oSt 2 1001 N x y M z) (fun τ t => va_P D ln_cl (CW a g τ) t.heap) A) args sta 0 0 A) = Q0
  obtain ⟨H, hH⟩ : ∃ H, H = sta.heap := ⟨_, rfl⟩
  obtain ⟨locs, hlo⟩ : ∃ x : List Loc, x = [] := ⟨_, rfl⟩
  rw [← hH] at hP
  have hSw : va_S A sta.heap H locs := by rw [hH, hlo]; exact hSw
  have goal : W prg l env rum sta mid args below meth cod H locs 0 0 Q0 (F0 mid 0 ls []) := ?_
  · rw [hH, hlo] at goal; exact goal
  clear hlo
  refine lv_aload_n X.1 X.2.1 dX9_price_0 rfl (lv_at hl 0 rfl) ?_
  refine gC_0_0 X hP mF_X9_12 dX9_price_1 ?_
  refine lv_iload_n X.1 X.2.1 dX9_price_4 rfl (lv_at hl 1 rfl) ?_
  refine ln_vR X (c_X4_isPost l D g a σ 0 N hW hN x (Nat.le_refl _)) hP 1 rfl rfl mM_X9_84 Y_X4_isPost rfl (by omega) hl.1 rfl (Nat.le_of_ble_eq_true rfl) dX9_price_5 ⟨Nat.zero_le _, Nat.zero_le _⟩ (fun r5 hr5 => ?_)
  subst hr5
  refine rn_eqB X (tgt := 22) dX9_price_8 (by decide) (fun h8 => ?_) (fun h8 => ?_)
  · skip
    refine lv_bipush (v := ((-2))) X.1 X.2.1 dX9_price_22 (by decide) ?_
    subst hQ0
    exact ln_retU X hr hlk hP hSw rfl ⟨N, ln_CI.up ⟨hW, hN, rv, bv, hV, hvv, hE, hAK, hTK, hHK, hWK⟩, Or.inl ⟨by first | exact Or.inl h8 | exact Or.inr (ln_inr_lt h12) | exact Or.inr (ln_inr_gt (n := 1000) (by decide) (Int32.not_le.mp h19)), rfl, rfl⟩⟩ dX9_price_24
  · skip
    obtain ⟨p, hp, rfl⟩ := ln_inr_t (by omega) h8
    refine lv_iload_n X.1 X.2.1 dX9_price_11 rfl (lv_at hl 2 rfl) ?_
    refine lv_if_lt (tgt := 22) X.1 X.2.1 dX9_price_12 (by decide) (fun h12 => ?_) (fun h12 => ?_)
    · skip
      refine lv_bipush (v := ((-2))) X.1 X.2.1 dX9_price_22 (by decide) ?_
      subst hQ0
      exact ln_retU X hr hlk hP hSw rfl ⟨N, ln_CI.up ⟨hW, hN, rv, bv, hV, hvv, hE, hAK, hTK, hHK, hWK⟩, Or.inl ⟨by first | exact Or.inl h8 | exact Or.inr (ln_inr_lt h12) | exact Or.inr (ln_inr_gt (n := 1000) (by decide) (Int32.not_le.mp h19)), rfl, rfl⟩⟩ dX9_price_24
    · skip
      refine lv_iload_n X.1 X.2.1 dX9_price_15 rfl (lv_at hl 2 rfl) ?_
      refine lv_sipush (v := nI 1000) X.1 X.2.1 dX9_price_16 (by decide) ?_
      refine lv_icmp_le (tgt := 25) X.1 X.2.1 dX9_price_19 (by decide) (fun h19 => ?_) (fun h19 => ?_)
      · skip
        obtain ⟨k, hk, rfl⟩ := ln_inr_t (by decide) (ln_inr_in2 (n := 1000) (by decide) h12 (Int32.not_lt.mpr h19))
        refine lv_aload_n X.1 X.2.1 dX9_price_25 rfl (lv_at hl 0 rfl) ?_
        refine gC_0_0 X hP mF_X9_12 dX9_price_26 ?_
        refine lv_iload_n X.1 X.2.1 dX9_price_29 rfl (lv_at hl 1 rfl) ?_
        refine lv_iload_n X.1 X.2.1 dX9_price_30 rfl (lv_at hl 2 rfl) ?_
        refine ln_vU X (CW_ad a g) hA (c_X4_setPrice l D g a σ 0 N hW hN p k hp (Nat.le_refl _)) hP hDw hSw 1 rfl rfl mM_X9_96 Y_X4_setPrice rfl (by omega) hl.1 rfl (Nat.le_of_ble_eq_true rfl) dX9_price_31 ⟨Nat.zero_le _, Nat.zero_le _⟩ (fun r31 τ31 H locs hr31 hP hDw hSw => ?_)
        obtain ⟨hz, p1, p2, p3⟩ := hr31
        subst hz
        subst hQ0
        exact ln_retU X hr hlk hP hSw rfl ⟨ln_nSt N 2 p k, ln_CI_pr (ln_nSt_sim (by omega)) (ln_nSt_i (by omega)).symm (ln_nSt_wf2 hW (by omega)) p1 hV hvv p2 hE hAK hTK hHK hWK p3, Or.inr ⟨p, k, hp, hk, rfl, rfl, rfl, rfl⟩⟩ dX9_price_34
      · skip
        refine lv_bipush (v := ((-2))) X.1 X.2.1 dX9_price_22 (by decide) ?_
        subst hQ0
        exact ln_retU X hr hlk hP hSw rfl ⟨N, ln_CI.up ⟨hW, hN, rv, bv, hV, hvv, hE, hAK, hTK, hHK, hWK⟩, Or.inl ⟨by first | exact Or.inl h8 | exact Or.inr (ln_inr_lt h12) | exact Or.inr (ln_inr_gt (n := 1000) (by decide) (Int32.not_le.mp h19)), rfl, rfl⟩⟩ dX9_price_24
set_option maxHeartbeats 4000000 in
set_option maxRecDepth 100000 in
theorem c_X9_of (l : Launch) (D : va_G) (g : Nat → ClassId) (a : Nat → Nat) (σ : ln_S) (d : Nat) (N : ln_N) (v : Nat) (hI : ln_CI N v σ) (x y : Int32)  (hd : 1 ≤ d) : ln_R l D g (CW a g σ) yX9_of (.code yX9_of cX9_of 3 (some .int)) d [.ref (a 0), .int x, .int y] (fun z => ln_oOf N x y z) := by
  obtain ⟨hW, hN, rv, bv, hV, hvv, hE, hAK, hTK, hHK, hWK⟩ := hI
  have hN12 := hW.n12
  have hp12 := hW.p12
  have hs1 := ln_sub1 (N 0 0)
  refine ln_ofR (by decide +kernel) (Nat.le_of_ble_eq_true rfl) (fun prg env rum sta mid args below meth cod ls hr hlk X hP hl => ?_)
  have hl : lv_has ls 3 [(0, .ref (a 0)), (1, .int x), (2, .int y)] := hl
  generalize hQ0 : (MQ below (vp_Si (fun z => ln_oOf N x y z)) args sta 0 0 (fun _ => False)) = Q0
  refine lv_aload_n X.1 X.2.1 dX9_of_0 rfl (lv_at hl 0 rfl) ?_
  refine gC_0_0 X hP mF_X9_12 dX9_of_1 ?_
  refine lv_iload_n X.1 X.2.1 dX9_of_4 rfl (lv_at hl 1 rfl) ?_
  refine ln_vR X (c_X4_isPost l D g a σ 0 N hW hN x (Nat.le_refl _)) hP 1 rfl rfl mM_X9_84 Y_X4_isPost rfl (by omega) hl.1 rfl (Nat.le_of_ble_eq_true rfl) dX9_of_5 ⟨Nat.zero_le _, Nat.zero_le _⟩ (fun r5 hr5 => ?_)
  subst hr5
  refine rn_neB X (tgt := 14) dX9_of_8 (by decide) (fun h8 => ?_) (fun h8 => ?_)
  · skip
    obtain ⟨p, hp, rfl⟩ := ln_inr_t (by omega) h8
    refine lv_iload_n X.1 X.2.1 dX9_of_14 rfl (lv_at hl 2 rfl) ?_
    by_cases h15 : ln_inr y 4 = true
    · obtain ⟨w, hw4, rfl⟩ := ln_inr_t (by decide) h15
      rcases (show w = 0 ∨ w = 1 ∨ w = 2 ∨ w = 3 by omega) with rfl | rfl | rfl | rfl
      · refine lv_tableIn (off := 29) (tgt := 44) X.1 X.2.1 dX9_of_15 (by decide) (by decide) rfl (by decide) ?_
        refine lv_aload_n X.1 X.2.1 dX9_of_44 rfl (lv_at hl 0 rfl) ?_
        refine gC_0_0 X hP mF_X9_12 dX9_of_45 ?_
        refine nC_1_3 X hP mF_X9_99 dX9_of_48 ?_
        refine lv_iload_n X.1 X.2.1 dX9_of_51 rfl (lv_at hl 1 rfl) ?_
        refine lC_2 X hP (by omega) (v := nI (N 1 p)) (hN.b (by omega)) dX9_of_52 ?_
        subst hQ0
        exact ln_retR X hr hlk rfl (Or.inr ⟨p, hp, rfl, ln_wh_0 rfl⟩) dX9_of_53
      · refine lv_tableIn (off := 39) (tgt := 54) X.1 X.2.1 dX9_of_15 (by decide) (by decide) rfl (by decide) ?_
        refine lv_aload_n X.1 X.2.1 dX9_of_54 rfl (lv_at hl 0 rfl) ?_
        refine gC_0_0 X hP mF_X9_12 dX9_of_55 ?_
        refine nC_1_4 X hP mF_X9_103 dX9_of_58 ?_
        refine lv_iload_n X.1 X.2.1 dX9_of_61 rfl (lv_at hl 1 rfl) ?_
        refine lC_3 X hP (by omega) (v := nI (N 2 p)) (hN.pr (by omega)) dX9_of_62 ?_
        subst hQ0
        exact ln_retR X hr hlk rfl (Or.inr ⟨p, hp, rfl, ln_wh_1 rfl⟩) dX9_of_63
      · refine lv_tableIn (off := 49) (tgt := 64) X.1 X.2.1 dX9_of_15 (by decide) (by decide) rfl (by decide) ?_
        refine lv_aload_n X.1 X.2.1 dX9_of_64 rfl (lv_at hl 0 rfl) ?_
        refine gC_0_0 X hP mF_X9_12 dX9_of_65 ?_
        refine nC_1_6 X hP mF_X9_106 dX9_of_68 ?_
        refine lv_iload_n X.1 X.2.1 dX9_of_71 rfl (lv_at hl 1 rfl) ?_
        refine lC_5 X hP (by omega) (v := nI (N 3 p)) (hN.bh (by omega)) dX9_of_72 ?_
        subst hQ0
        exact ln_retR X hr hlk rfl (Or.inr ⟨p, hp, rfl, ln_wh_2 rfl⟩) dX9_of_73
      · refine lv_tableIn (off := 59) (tgt := 74) X.1 X.2.1 dX9_of_15 (by decide) (by decide) rfl (by decide) ?_
        refine lv_aload_n X.1 X.2.1 dX9_of_74 rfl (lv_at hl 0 rfl) ?_
        refine gC_0_0 X hP mF_X9_12 dX9_of_75 ?_
        refine nC_1_7 X hP mF_X9_109 dX9_of_78 ?_
        refine lv_iload_n X.1 X.2.1 dX9_of_81 rfl (lv_at hl 1 rfl) ?_
        refine lC_6 X hP (by omega) (v := nI (N 4 p)) (hN.ah (by omega)) dX9_of_82 ?_
        subst hQ0
        exact ln_retR X hr hlk rfl (Or.inr ⟨p, hp, rfl, ln_wh_3 rfl⟩) dX9_of_83
    · refine lv_tableOut (tgt := 84) X.1 X.2.1 dX9_of_15 (ln_inr_out h15) (by decide) ?_
      refine lv_bipush (v := ((-2))) X.1 X.2.1 dX9_of_84 (by decide) ?_
      subst hQ0
      exact ln_retR X hr hlk rfl (Or.inr ⟨p, hp, rfl, ln_wh_out h15⟩) dX9_of_86
  · skip
    refine lv_bipush (v := ((-2))) X.1 X.2.1 dX9_of_11 (by decide) ?_
    subst hQ0
    exact ln_retR X hr hlk rfl (Or.inl ⟨h8, rfl⟩) dX9_of_13
set_option maxHeartbeats 4000000 in
set_option maxRecDepth 100000 in
theorem c_X9_count (l : Launch) (D : va_G) (g : Nat → ClassId) (a : Nat → Nat) (σ : ln_S) (d : Nat) (N : ln_N) (v : Nat) (hI : ln_CI N v σ)  (hd : 0 ≤ d) : ln_R l D g (CW a g σ) yX9_count (.code yX9_count cX9_count 1 (some .int)) d [.ref (a 0)] (fun z => z = nI (N 0 0)) := by
  obtain ⟨hW, hN, rv, bv, hV, hvv, hE, hAK, hTK, hHK, hWK⟩ := hI
  have hN12 := hW.n12
  have hp12 := hW.p12
  have hs1 := ln_sub1 (N 0 0)
  refine ln_ofR (by decide +kernel) (Nat.le_of_ble_eq_true rfl) (fun prg env rum sta mid args below meth cod ls hr hlk X hP hl => ?_)
  have hl : lv_has ls 1 [(0, .ref (a 0))] := hl
  generalize hQ0 : (MQ below (vp_Si (fun z => z = nI (N 0 0))) args sta 0 0 (fun _ => False)) = Q0
  refine lv_aload_n X.1 X.2.1 dX9_count_0 rfl (lv_at hl 0 rfl) ?_
  refine gC_0_0 X hP mF_X9_12 dX9_count_1 ?_
  refine nC_1_0 X hP (v := nI (N 0 0)) hN.n mF_X9_76 dX9_count_4 ?_
  subst hQ0
  exact ln_retR X hr hlk rfl rfl dX9_count_7
set_option maxHeartbeats 4000000 in
set_option maxRecDepth 100000 in
theorem c_X9_go (l : Launch) (D : va_G) (g : Nat → ClassId) (a : Nat → Nat) (σ : ln_S) (d : Nat) (N : ln_N) (v : Nat) (hI : ln_CI N v σ) (x y : Int32)  (hd : 4 ≤ d) : ln_U l D g (CW a g) yX9_go (.code yX9_go cX9_go 3 (some .int)) d [.ref (a 0), .int x, .int y] σ (fun z τ => ln_CI N v τ ∧ ln_oGo N x y z) := by
  obtain ⟨hW, hN, rv, bv, hV, hvv, hE, hAK, hTK, hHK, hWK⟩ := hI
  have hN12 := hW.n12
  have hp12 := hW.p12
  have hs1 := ln_sub1 (N 0 0)
  refine ln_ofU (by decide +kernel) (Nat.le_of_ble_eq_true rfl) (fun prg env rum sta mid args below meth cod ls A hr hlk X hA hP hDw hSw hl => ?_)
  have hl : lv_has ls 3 [(0, .ref (a 0)), (1, .int x), (2, .int y)] := hl
  generalize hQ0 : (MQ below (va_Qi (fun z τ => ln_CI N v τ ∧ ln_oGo N x y z) (fun τ t => va_P D ln_cl (CW a g τ) t.heap) A) args sta 0 0 A) = Q0
  obtain ⟨H, hH⟩ : ∃ H, H = sta.heap := ⟨_, rfl⟩
  obtain ⟨locs, hlo⟩ : ∃ x : List Loc, x = [] := ⟨_, rfl⟩
  rw [← hH] at hP
  have hSw : va_S A sta.heap H locs := by rw [hH, hlo]; exact hSw
  have goal : W prg l env rum sta mid args below meth cod H locs 0 0 Q0 (F0 mid 0 ls []) := ?_
  · rw [hH, hlo] at goal; exact goal
  clear hlo
  refine lv_iload_n X.1 X.2.1 dX9_go_0 rfl (lv_at hl 1 rfl) ?_
  refine ln_sR X (c_X9_isRule l D g 0 x (Nat.le_refl _)) ln_nil mM_X9_112 Y_X9_isRule rfl (by omega) hl.1 rfl (Nat.le_of_ble_eq_true rfl) dX9_go_1 ⟨Nat.zero_le _, Nat.zero_le _⟩ (fun r1 hr1 => ?_)
  subst hr1
  refine rn_eqB X (tgt := 18) dX9_go_4 (by decide) (fun h4 => ?_) (fun h4 => ?_)
  · skip
    refine lv_bipush (v := ((-2))) X.1 X.2.1 dX9_go_18 (by decide) ?_
    subst hQ0
    exact ln_retU X hr hlk hP hSw rfl ⟨⟨hW, hN, rv, bv, hV, hvv, hE, hAK, hTK, hHK, hWK⟩, Or.inl ⟨by first | exact Or.inl h4 | exact Or.inr h15, rfl⟩⟩ dX9_go_20
  · skip
    obtain ⟨r, hr3, rfl⟩ := ln_inr_t (by decide) h4
    refine lv_aload_n X.1 X.2.1 dX9_go_7 rfl (lv_at hl 0 rfl) ?_
    refine gC_0_0 X hP mF_X9_12 dX9_go_8 ?_
    refine lv_iload_n X.1 X.2.1 dX9_go_11 rfl (lv_at hl 2 rfl) ?_
    refine ln_vR X (c_X4_isSet l D g a σ 1 N hW hN y (Nat.le_refl _)) hP 1 rfl rfl mM_X9_115 Y_X4_isSet rfl (by omega) hl.1 rfl (Nat.le_of_ble_eq_true rfl) dX9_go_12 ⟨Nat.zero_le _, Nat.zero_le _⟩ (fun r12 hr12 => ?_)
    subst hr12
    refine rn_neB X (tgt := 21) dX9_go_15 (by decide) (fun h15 => ?_) (fun h15 => ?_)
    · skip
      obtain ⟨S, hS, rfl⟩ := ln_inr_t (by omega) h15
      refine lv_aload_n X.1 X.2.1 dX9_go_21 rfl (lv_at hl 0 rfl) ?_
      refine gC_0_2 X hP mF_X9_30 dX9_go_22 ?_
      refine lv_iload_n X.1 X.2.1 dX9_go_25 rfl (lv_at hl 1 rfl) ?_
      refine lv_iload_n X.1 X.2.1 dX9_go_26 rfl (lv_at hl 2 rfl) ?_
      refine ln_vV X (CW_ad a g) hA (c_X1_follow l D g a σ 3 N hW hN r S hr3 hS (Nat.le_refl _)) hP hDw hSw 10 rfl rfl mM_X9_118 Y_X1_follow rfl (by omega) hl.1 rfl (Nat.le_of_ble_eq_true rfl) dX9_go_27 ⟨Nat.zero_le _, Nat.zero_le _⟩ (fun τ27 H locs hr27 hP hDw hSw => ?_)
      obtain ⟨hR, hf⟩ := hr27
      have hN : ln_nC N τ27 := hN.of (fun c hc => hf c (by omega) (by omega))
      have hV : ln_vs τ27 rv bv := hV.of (hf 1 (by omega) (by omega))
      have hE : ln_eK N τ27 rv bv := hE.of (fun c hc => hf c (by omega) (by omega))
      have hAK : ln_aK N τ27 rv bv := hAK.of (fun c hc => hf c (by omega) (by omega))
      have hTK : ln_tK N τ27 rv := hTK.of (fun c hc => hf c (by omega) (by omega))
      have hHK : ln_hK N τ27 rv := hHK.of (fun c hc => hf c (by omega) (by omega))
      have hWK : ln_wK N τ27 rv bv := hWK.of (fun c hc => hf c (by omega) (by omega))
      refine lv_aload_n X.1 X.2.1 dX9_go_30 rfl (lv_at hl 0 rfl) ?_
      refine gC_0_2 X hP mF_X9_30 dX9_go_31 ?_
      refine ln_vR X (c_X1_onAtEnd l D g a τ27 0 N hW hN r S hS hR (Nat.le_refl _)) hP 10 rfl rfl mM_X9_122 Y_X1_onAtEnd rfl (by omega) hl.1 rfl (Nat.le_of_ble_eq_true rfl) dX9_go_34 ⟨Nat.zero_le _, Nat.zero_le _⟩ (fun r34 hr34 => ?_)
      subst hr34
      subst hQ0
      exact ln_retU X hr hlk hP hSw rfl ⟨⟨hW, hN, rv, bv, hV, hvv, hE, hAK, hTK, hHK, hWK⟩, Or.inr ⟨r, S, hr3, hS, rfl, rfl, rfl⟩⟩ dX9_go_37
    · skip
      refine lv_bipush (v := ((-2))) X.1 X.2.1 dX9_go_18 (by decide) ?_
      subst hQ0
      exact ln_retU X hr hlk hP hSw rfl ⟨⟨hW, hN, rv, bv, hV, hvv, hE, hAK, hTK, hHK, hWK⟩, Or.inl ⟨by first | exact Or.inl h4 | exact Or.inr h15, rfl⟩⟩ dX9_go_20
set_option maxHeartbeats 4000000 in
set_option maxRecDepth 100000 in
theorem c_X9_ticks (l : Launch) (D : va_G) (g : Nat → ClassId) (a : Nat → Nat) (σ : ln_S) (d : Nat) (N : ln_N) (v : Nat) (hI : ln_CI N v σ) (x y : Int32)  (hd : 4 ≤ d) : ln_U l D g (CW a g) yX9_ticks (.code yX9_ticks cX9_ticks 3 (some .int)) d [.ref (a 0), .int x, .int y] σ (fun z τ => ln_CI N v τ ∧ ln_oTi N x y z) := by
  obtain ⟨hW, hN, rv, bv, hV, hvv, hE, hAK, hTK, hHK, hWK⟩ := hI
  have hN12 := hW.n12
  have hp12 := hW.p12
  have hs1 := ln_sub1 (N 0 0)
  refine ln_ofU (by decide +kernel) (Nat.le_of_ble_eq_true rfl) (fun prg env rum sta mid args below meth cod ls A hr hlk X hA hP hDw hSw hl => ?_)
  have hl : lv_has ls 3 [(0, .ref (a 0)), (1, .int x), (2, .int y)] := hl
  generalize hQ0 : (MQ below (va_Qi (fun z τ => ln_CI N v τ ∧ ln_oTi N x y z) (fun τ t => va_P D ln_cl (CW a g τ) t.heap) A) args sta 0 0 A) = Q0
  obtain ⟨H, hH⟩ : ∃ H, H = sta.heap := ⟨_, rfl⟩
  obtain ⟨locs, hlo⟩ : ∃ x : List Loc, x = [] := ⟨_, rfl⟩
  rw [← hH] at hP
  have hSw : va_S A sta.heap H locs := by rw [hH, hlo]; exact hSw
  have goal : W prg l env rum sta mid args below meth cod H locs 0 0 Q0 (F0 mid 0 ls []) := ?_
  · rw [hH, hlo] at goal; exact goal
  clear hlo
  refine lv_iload_n X.1 X.2.1 dX9_ticks_0 rfl (lv_at hl 1 rfl) ?_
  refine ln_sR X (c_X9_isRule l D g 0 x (Nat.le_refl _)) ln_nil mM_X9_112 Y_X9_isRule rfl (by omega) hl.1 rfl (Nat.le_of_ble_eq_true rfl) dX9_ticks_1 ⟨Nat.zero_le _, Nat.zero_le _⟩ (fun r1 hr1 => ?_)
  subst hr1
  refine rn_eqB X (tgt := 18) dX9_ticks_4 (by decide) (fun h4 => ?_) (fun h4 => ?_)
  · skip
    refine lv_bipush (v := ((-2))) X.1 X.2.1 dX9_ticks_18 (by decide) ?_
    subst hQ0
    exact ln_retU X hr hlk hP hSw rfl ⟨⟨hW, hN, rv, bv, hV, hvv, hE, hAK, hTK, hHK, hWK⟩, Or.inl ⟨by first | exact Or.inl h4 | exact Or.inr h15, rfl⟩⟩ dX9_ticks_20
  · skip
    obtain ⟨r, hr3, rfl⟩ := ln_inr_t (by decide) h4
    refine lv_aload_n X.1 X.2.1 dX9_ticks_7 rfl (lv_at hl 0 rfl) ?_
    refine gC_0_0 X hP mF_X9_12 dX9_ticks_8 ?_
    refine lv_iload_n X.1 X.2.1 dX9_ticks_11 rfl (lv_at hl 2 rfl) ?_
    refine ln_vR X (c_X4_isSet l D g a σ 1 N hW hN y (Nat.le_refl _)) hP 1 rfl rfl mM_X9_115 Y_X4_isSet rfl (by omega) hl.1 rfl (Nat.le_of_ble_eq_true rfl) dX9_ticks_12 ⟨Nat.zero_le _, Nat.zero_le _⟩ (fun r12 hr12 => ?_)
    subst hr12
    refine rn_neB X (tgt := 21) dX9_ticks_15 (by decide) (fun h15 => ?_) (fun h15 => ?_)
    · skip
      obtain ⟨S, hS, rfl⟩ := ln_inr_t (by omega) h15
      refine lv_aload_n X.1 X.2.1 dX9_ticks_21 rfl (lv_at hl 0 rfl) ?_
      refine gC_0_2 X hP mF_X9_30 dX9_ticks_22 ?_
      refine lv_iload_n X.1 X.2.1 dX9_ticks_25 rfl (lv_at hl 1 rfl) ?_
      refine lv_iload_n X.1 X.2.1 dX9_ticks_26 rfl (lv_at hl 2 rfl) ?_
      refine ln_vV X (CW_ad a g) hA (c_X1_follow l D g a σ 3 N hW hN r S hr3 hS (Nat.le_refl _)) hP hDw hSw 10 rfl rfl mM_X9_118 Y_X1_follow rfl (by omega) hl.1 rfl (Nat.le_of_ble_eq_true rfl) dX9_ticks_27 ⟨Nat.zero_le _, Nat.zero_le _⟩ (fun τ27 H locs hr27 hP hDw hSw => ?_)
      obtain ⟨hR, hf⟩ := hr27
      have hN : ln_nC N τ27 := hN.of (fun c hc => hf c (by omega) (by omega))
      have hV : ln_vs τ27 rv bv := hV.of (hf 1 (by omega) (by omega))
      have hE : ln_eK N τ27 rv bv := hE.of (fun c hc => hf c (by omega) (by omega))
      have hAK : ln_aK N τ27 rv bv := hAK.of (fun c hc => hf c (by omega) (by omega))
      have hTK : ln_tK N τ27 rv := hTK.of (fun c hc => hf c (by omega) (by omega))
      have hHK : ln_hK N τ27 rv := hHK.of (fun c hc => hf c (by omega) (by omega))
      have hWK : ln_wK N τ27 rv bv := hWK.of (fun c hc => hf c (by omega) (by omega))
      refine lv_aload_n X.1 X.2.1 dX9_ticks_30 rfl (lv_at hl 0 rfl) ?_
      refine gC_0_2 X hP mF_X9_30 dX9_ticks_31 ?_
      refine nC_10_3 X hP (v := nI (ln_et N r S)) hR.1 mF_X9_125 dX9_ticks_34 ?_
      subst hQ0
      exact ln_retU X hr hlk hP hSw rfl ⟨⟨hW, hN, rv, bv, hV, hvv, hE, hAK, hTK, hHK, hWK⟩, Or.inr ⟨r, S, hr3, hS, rfl, rfl, rfl⟩⟩ dX9_ticks_37
    · skip
      refine lv_bipush (v := ((-2))) X.1 X.2.1 dX9_ticks_18 (by decide) ?_
      subst hQ0
      exact ln_retU X hr hlk hP hSw rfl ⟨⟨hW, hN, rv, bv, hV, hvv, hE, hAK, hTK, hHK, hWK⟩, Or.inl ⟨by first | exact Or.inl h4 | exact Or.inr h15, rfl⟩⟩ dX9_ticks_20
set_option maxHeartbeats 4000000 in
set_option maxRecDepth 100000 in
theorem c_X9_when (l : Launch) (D : va_G) (g : Nat → ClassId) (a : Nat → Nat) (σ : ln_S) (d : Nat) (N : ln_N) (v : Nat) (hI : ln_CI N v σ) (x y u : Int32)  (hd : 4 ≤ d) : ln_U l D g (CW a g) yX9_when (.code yX9_when cX9_when 4 (some .int)) d [.ref (a 0), .int x, .int y, .int u] σ (fun z τ => ln_CI N v τ ∧ ln_oWe N x y u z) := by
  obtain ⟨hW, hN, rv, bv, hV, hvv, hE, hAK, hTK, hHK, hWK⟩ := hI
  have hN12 := hW.n12
  have hp12 := hW.p12
  have hs1 := ln_sub1 (N 0 0)
  refine ln_ofU (by decide +kernel) (Nat.le_of_ble_eq_true rfl) (fun prg env rum sta mid args below meth cod ls A hr hlk X hA hP hDw hSw hl => ?_)
  have hl : lv_has ls 4 [(0, .ref (a 0)), (1, .int x), (2, .int y), (3, .int u)] := hl
  generalize hQ0 : (MQ below (va_Qi (fun z τ => ln_CI N v τ ∧ ln_oWe N x y u z) (fun τ t => va_P D ln_cl (CW a g τ) t.heap) A) args sta 0 0 A) = Q0
  obtain ⟨H, hH⟩ : ∃ H, H = sta.heap := ⟨_, rfl⟩
  obtain ⟨locs, hlo⟩ : ∃ x : List Loc, x = [] := ⟨_, rfl⟩
  rw [← hH] at hP
  have hSw : va_S A sta.heap H locs := by rw [hH, hlo]; exact hSw
  have goal : W prg l env rum sta mid args below meth cod H locs 0 0 Q0 (F0 mid 0 ls []) := ?_
  · rw [hH, hlo] at goal; exact goal
  clear hlo
  refine lv_iload_n X.1 X.2.1 dX9_when_0 rfl (lv_at hl 1 rfl) ?_
  refine ln_sR X (c_X9_isRule l D g 0 x (Nat.le_refl _)) ln_nil mM_X9_112 Y_X9_isRule rfl (by omega) hl.1 rfl (Nat.le_of_ble_eq_true rfl) dX9_when_1 ⟨Nat.zero_le _, Nat.zero_le _⟩ (fun r1 hr1 => ?_)
  subst hr1
  refine rn_eqB X (tgt := 29) dX9_when_4 (by decide) (fun h4 => ?_) (fun h4 => ?_)
  · skip
    refine lv_bipush (v := ((-2))) X.1 X.2.1 dX9_when_29 (by decide) ?_
    subst hQ0
    exact ln_retU X hr hlk hP hSw rfl ⟨⟨hW, hN, rv, bv, hV, hvv, hE, hAK, hTK, hHK, hWK⟩, Or.inl ⟨by first | exact Or.inl h4 | exact Or.inr (Or.inl h15) | exact Or.inr (Or.inr h26), rfl⟩⟩ dX9_when_31
  · skip
    obtain ⟨r, hr3, rfl⟩ := ln_inr_t (by decide) h4
    refine lv_aload_n X.1 X.2.1 dX9_when_7 rfl (lv_at hl 0 rfl) ?_
    refine gC_0_0 X hP mF_X9_12 dX9_when_8 ?_
    refine lv_iload_n X.1 X.2.1 dX9_when_11 rfl (lv_at hl 2 rfl) ?_
    refine ln_vR X (c_X4_isSet l D g a σ 1 N hW hN y (Nat.le_refl _)) hP 1 rfl rfl mM_X9_115 Y_X4_isSet rfl (by omega) hl.1 rfl (Nat.le_of_ble_eq_true rfl) dX9_when_12 ⟨Nat.zero_le _, Nat.zero_le _⟩ (fun r12 hr12 => ?_)
    subst hr12
    refine rn_eqB X (tgt := 29) dX9_when_15 (by decide) (fun h15 => ?_) (fun h15 => ?_)
    · skip
      refine lv_bipush (v := ((-2))) X.1 X.2.1 dX9_when_29 (by decide) ?_
      subst hQ0
      exact ln_retU X hr hlk hP hSw rfl ⟨⟨hW, hN, rv, bv, hV, hvv, hE, hAK, hTK, hHK, hWK⟩, Or.inl ⟨by first | exact Or.inl h4 | exact Or.inr (Or.inl h15) | exact Or.inr (Or.inr h26), rfl⟩⟩ dX9_when_31
    · skip
      obtain ⟨S, hS, rfl⟩ := ln_inr_t (by omega) h15
      refine lv_aload_n X.1 X.2.1 dX9_when_18 rfl (lv_at hl 0 rfl) ?_
      refine gC_0_0 X hP mF_X9_12 dX9_when_19 ?_
      refine lv_iload_n X.1 X.2.1 dX9_when_22 rfl (lv_at hl 3 rfl) ?_
      refine ln_vR X (c_X4_isPost l D g a σ 0 N hW hN u (Nat.le_refl _)) hP 1 rfl rfl mM_X9_84 Y_X4_isPost rfl (by omega) hl.1 rfl (Nat.le_of_ble_eq_true rfl) dX9_when_23 ⟨Nat.zero_le _, Nat.zero_le _⟩ (fun r23 hr23 => ?_)
      subst hr23
      refine rn_neB X (tgt := 32) dX9_when_26 (by decide) (fun h26 => ?_) (fun h26 => ?_)
      · skip
        obtain ⟨p, hp, rfl⟩ := ln_inr_t (by omega) h26
        refine lv_aload_n X.1 X.2.1 dX9_when_32 rfl (lv_at hl 0 rfl) ?_
        refine gC_0_2 X hP mF_X9_30 dX9_when_33 ?_
        refine lv_iload_n X.1 X.2.1 dX9_when_36 rfl (lv_at hl 1 rfl) ?_
        refine lv_iload_n X.1 X.2.1 dX9_when_37 rfl (lv_at hl 2 rfl) ?_
        refine ln_vV X (CW_ad a g) hA (c_X1_follow l D g a σ 3 N hW hN r S hr3 hS (Nat.le_refl _)) hP hDw hSw 10 rfl rfl mM_X9_118 Y_X1_follow rfl (by omega) hl.1 rfl (Nat.le_of_ble_eq_true rfl) dX9_when_38 ⟨Nat.zero_le _, Nat.zero_le _⟩ (fun τ38 H locs hr38 hP hDw hSw => ?_)
        obtain ⟨hR, hf⟩ := hr38
        have hN : ln_nC N τ38 := hN.of (fun c hc => hf c (by omega) (by omega))
        have hV : ln_vs τ38 rv bv := hV.of (hf 1 (by omega) (by omega))
        have hE : ln_eK N τ38 rv bv := hE.of (fun c hc => hf c (by omega) (by omega))
        have hAK : ln_aK N τ38 rv bv := hAK.of (fun c hc => hf c (by omega) (by omega))
        have hTK : ln_tK N τ38 rv := hTK.of (fun c hc => hf c (by omega) (by omega))
        have hHK : ln_hK N τ38 rv := hHK.of (fun c hc => hf c (by omega) (by omega))
        have hWK : ln_wK N τ38 rv bv := hWK.of (fun c hc => hf c (by omega) (by omega))
        refine lv_aload_n X.1 X.2.1 dX9_when_41 rfl (lv_at hl 0 rfl) ?_
        refine gC_0_2 X hP mF_X9_30 dX9_when_42 ?_
        refine lv_iload_n X.1 X.2.1 dX9_when_45 rfl (lv_at hl 3 rfl) ?_
        refine ln_vR X (c_X1_tickOf l D g a τ38 1 N hW hN r S p hS (by omega) hR (Nat.le_refl _)) hP 10 rfl rfl mM_X9_128 Y_X1_tickOf rfl (by omega) hl.1 rfl (Nat.le_of_ble_eq_true rfl) dX9_when_46 ⟨Nat.zero_le _, Nat.zero_le _⟩ (fun r46 hr46 => ?_)
        subst hr46
        subst hQ0
        exact ln_retU X hr hlk hP hSw rfl ⟨⟨hW, hN, rv, bv, hV, hvv, hE, hAK, hTK, hHK, hWK⟩, Or.inr ⟨r, S, p, hr3, hS, hp, rfl, rfl, rfl, rfl⟩⟩ dX9_when_49
      · skip
        refine lv_bipush (v := ((-2))) X.1 X.2.1 dX9_when_29 (by decide) ?_
        subst hQ0
        exact ln_retU X hr hlk hP hSw rfl ⟨⟨hW, hN, rv, bv, hV, hvv, hE, hAK, hTK, hHK, hWK⟩, Or.inl ⟨by first | exact Or.inl h4 | exact Or.inr (Or.inl h15) | exact Or.inr (Or.inr h26), rfl⟩⟩ dX9_when_31
set_option maxHeartbeats 4000000 in
set_option maxRecDepth 100000 in
theorem c_X9_brought (l : Launch) (D : va_G) (g : Nat → ClassId) (a : Nat → Nat) (σ : ln_S) (d : Nat) (N : ln_N) (v : Nat) (hI : ln_CI N v σ) (x y u : Int32)  (hd : 4 ≤ d) : ln_U l D g (CW a g) yX9_brought (.code yX9_brought cX9_brought 4 (some .int)) d [.ref (a 0), .int x, .int y, .int u] σ (fun z τ => ln_CI N v τ ∧ ln_oBr N x y u z) := by
  obtain ⟨hW, hN, rv, bv, hV, hvv, hE, hAK, hTK, hHK, hWK⟩ := hI
  have hN12 := hW.n12
  have hp12 := hW.p12
  have hs1 := ln_sub1 (N 0 0)
  refine ln_ofU (by decide +kernel) (Nat.le_of_ble_eq_true rfl) (fun prg env rum sta mid args below meth cod ls A hr hlk X hA hP hDw hSw hl => ?_)
  have hl : lv_has ls 4 [(0, .ref (a 0)), (1, .int x), (2, .int y), (3, .int u)] := hl
  generalize hQ0 : (MQ below (va_Qi (fun z τ => ln_CI N v τ ∧ ln_oBr N x y u z) (fun τ t => va_P D ln_cl (CW a g τ) t.heap) A) args sta 0 0 A) = Q0
  obtain ⟨H, hH⟩ : ∃ H, H = sta.heap := ⟨_, rfl⟩
  obtain ⟨locs, hlo⟩ : ∃ x : List Loc, x = [] := ⟨_, rfl⟩
  rw [← hH] at hP
  have hSw : va_S A sta.heap H locs := by rw [hH, hlo]; exact hSw
  have goal : W prg l env rum sta mid args below meth cod H locs 0 0 Q0 (F0 mid 0 ls []) := ?_
  · rw [hH, hlo] at goal; exact goal
  clear hlo
  refine lv_iload_n X.1 X.2.1 dX9_brought_0 rfl (lv_at hl 1 rfl) ?_
  refine ln_sR X (c_X9_isRule l D g 0 x (Nat.le_refl _)) ln_nil mM_X9_112 Y_X9_isRule rfl (by omega) hl.1 rfl (Nat.le_of_ble_eq_true rfl) dX9_brought_1 ⟨Nat.zero_le _, Nat.zero_le _⟩ (fun r1 hr1 => ?_)
  subst hr1
  refine rn_eqB X (tgt := 29) dX9_brought_4 (by decide) (fun h4 => ?_) (fun h4 => ?_)
  · skip
    refine lv_bipush (v := ((-2))) X.1 X.2.1 dX9_brought_29 (by decide) ?_
    subst hQ0
    exact ln_retU X hr hlk hP hSw rfl ⟨⟨hW, hN, rv, bv, hV, hvv, hE, hAK, hTK, hHK, hWK⟩, Or.inl ⟨by first | exact Or.inl h4 | exact Or.inr (Or.inl h15) | exact Or.inr (Or.inr h26), rfl⟩⟩ dX9_brought_31
  · skip
    obtain ⟨r, hr3, rfl⟩ := ln_inr_t (by decide) h4
    refine lv_aload_n X.1 X.2.1 dX9_brought_7 rfl (lv_at hl 0 rfl) ?_
    refine gC_0_0 X hP mF_X9_12 dX9_brought_8 ?_
    refine lv_iload_n X.1 X.2.1 dX9_brought_11 rfl (lv_at hl 2 rfl) ?_
    refine ln_vR X (c_X4_isSet l D g a σ 1 N hW hN y (Nat.le_refl _)) hP 1 rfl rfl mM_X9_115 Y_X4_isSet rfl (by omega) hl.1 rfl (Nat.le_of_ble_eq_true rfl) dX9_brought_12 ⟨Nat.zero_le _, Nat.zero_le _⟩ (fun r12 hr12 => ?_)
    subst hr12
    refine rn_eqB X (tgt := 29) dX9_brought_15 (by decide) (fun h15 => ?_) (fun h15 => ?_)
    · skip
      refine lv_bipush (v := ((-2))) X.1 X.2.1 dX9_brought_29 (by decide) ?_
      subst hQ0
      exact ln_retU X hr hlk hP hSw rfl ⟨⟨hW, hN, rv, bv, hV, hvv, hE, hAK, hTK, hHK, hWK⟩, Or.inl ⟨by first | exact Or.inl h4 | exact Or.inr (Or.inl h15) | exact Or.inr (Or.inr h26), rfl⟩⟩ dX9_brought_31
    · skip
      obtain ⟨S, hS, rfl⟩ := ln_inr_t (by omega) h15
      refine lv_aload_n X.1 X.2.1 dX9_brought_18 rfl (lv_at hl 0 rfl) ?_
      refine gC_0_0 X hP mF_X9_12 dX9_brought_19 ?_
      refine lv_iload_n X.1 X.2.1 dX9_brought_22 rfl (lv_at hl 3 rfl) ?_
      refine ln_vR X (c_X4_isPost l D g a σ 0 N hW hN u (Nat.le_refl _)) hP 1 rfl rfl mM_X9_84 Y_X4_isPost rfl (by omega) hl.1 rfl (Nat.le_of_ble_eq_true rfl) dX9_brought_23 ⟨Nat.zero_le _, Nat.zero_le _⟩ (fun r23 hr23 => ?_)
      subst hr23
      refine rn_neB X (tgt := 32) dX9_brought_26 (by decide) (fun h26 => ?_) (fun h26 => ?_)
      · skip
        obtain ⟨p, hp, rfl⟩ := ln_inr_t (by omega) h26
        refine lv_aload_n X.1 X.2.1 dX9_brought_32 rfl (lv_at hl 0 rfl) ?_
        refine gC_0_2 X hP mF_X9_30 dX9_brought_33 ?_
        refine lv_iload_n X.1 X.2.1 dX9_brought_36 rfl (lv_at hl 1 rfl) ?_
        refine lv_iload_n X.1 X.2.1 dX9_brought_37 rfl (lv_at hl 2 rfl) ?_
        refine ln_vV X (CW_ad a g) hA (c_X1_follow l D g a σ 3 N hW hN r S hr3 hS (Nat.le_refl _)) hP hDw hSw 10 rfl rfl mM_X9_118 Y_X1_follow rfl (by omega) hl.1 rfl (Nat.le_of_ble_eq_true rfl) dX9_brought_38 ⟨Nat.zero_le _, Nat.zero_le _⟩ (fun τ38 H locs hr38 hP hDw hSw => ?_)
        obtain ⟨hR, hf⟩ := hr38
        have hN : ln_nC N τ38 := hN.of (fun c hc => hf c (by omega) (by omega))
        have hV : ln_vs τ38 rv bv := hV.of (hf 1 (by omega) (by omega))
        have hE : ln_eK N τ38 rv bv := hE.of (fun c hc => hf c (by omega) (by omega))
        have hAK : ln_aK N τ38 rv bv := hAK.of (fun c hc => hf c (by omega) (by omega))
        have hTK : ln_tK N τ38 rv := hTK.of (fun c hc => hf c (by omega) (by omega))
        have hHK : ln_hK N τ38 rv := hHK.of (fun c hc => hf c (by omega) (by omega))
        have hWK : ln_wK N τ38 rv bv := hWK.of (fun c hc => hf c (by omega) (by omega))
        refine lv_aload_n X.1 X.2.1 dX9_brought_41 rfl (lv_at hl 0 rfl) ?_
        refine gC_0_2 X hP mF_X9_30 dX9_brought_42 ?_
        refine lv_iload_n X.1 X.2.1 dX9_brought_45 rfl (lv_at hl 1 rfl) ?_
        refine lv_iload_n X.1 X.2.1 dX9_brought_46 rfl (lv_at hl 3 rfl) ?_
        refine ln_vR X (c_X1_bringersOf l D g a τ38 2 N hW hN r S p hr3 hS hp hR (Nat.le_refl _)) hP 10 rfl rfl mM_X9_132 Y_X1_bringersOf rfl (by omega) hl.1 rfl (Nat.le_of_ble_eq_true rfl) dX9_brought_47 ⟨Nat.zero_le _, Nat.zero_le _⟩ (fun r47 hr47 => ?_)
        subst hr47
        subst hQ0
        exact ln_retU X hr hlk hP hSw rfl ⟨⟨hW, hN, rv, bv, hV, hvv, hE, hAK, hTK, hHK, hWK⟩, Or.inr ⟨r, S, p, hr3, hS, hp, rfl, rfl, rfl, rfl⟩⟩ dX9_brought_50
      · skip
        refine lv_bipush (v := ((-2))) X.1 X.2.1 dX9_brought_29 (by decide) ?_
        subst hQ0
        exact ln_retU X hr hlk hP hSw rfl ⟨⟨hW, hN, rv, bv, hV, hvv, hE, hAK, hTK, hHK, hWK⟩, Or.inl ⟨by first | exact Or.inl h4 | exact Or.inr (Or.inl h15) | exact Or.inr (Or.inr h26), rfl⟩⟩ dX9_brought_31
set_option maxHeartbeats 4000000 in
set_option maxRecDepth 100000 in
theorem c_X9_fort (l : Launch) (D : va_G) (g : Nat → ClassId) (a : Nat → Nat) (σ : ln_S) (d : Nat) (N : ln_N) (v : Nat) (hI : ln_CI N v σ) (x y : Int32)  (hd : 6 ≤ d) : ln_U l D g (CW a g) yX9_fort (.code yX9_fort cX9_fort 3 (some .int)) d [.ref (a 0), .int x, .int y] σ (fun z τ => ln_CI N v τ ∧ ln_oFt N x y z) := by
  obtain ⟨hW, hN, rv, bv, hV, hvv, hE, hAK, hTK, hHK, hWK⟩ := hI
  have hN12 := hW.n12
  have hp12 := hW.p12
  have hs1 := ln_sub1 (N 0 0)
  refine ln_ofU (by decide +kernel) (Nat.le_of_ble_eq_true rfl) (fun prg env rum sta mid args below meth cod ls A hr hlk X hA hP hDw hSw hl => ?_)
  have hl : lv_has ls 3 [(0, .ref (a 0)), (1, .int x), (2, .int y)] := hl
  generalize hQ0 : (MQ below (va_Qi (fun z τ => ln_CI N v τ ∧ ln_oFt N x y z) (fun τ t => va_P D ln_cl (CW a g τ) t.heap) A) args sta 0 0 A) = Q0
  obtain ⟨H, hH⟩ : ∃ H, H = sta.heap := ⟨_, rfl⟩
  obtain ⟨locs, hlo⟩ : ∃ x : List Loc, x = [] := ⟨_, rfl⟩
  rw [← hH] at hP
  have hSw : va_S A sta.heap H locs := by rw [hH, hlo]; exact hSw
  have goal : W prg l env rum sta mid args below meth cod H locs 0 0 Q0 (F0 mid 0 ls []) := ?_
  · rw [hH, hlo] at goal; exact goal
  clear hlo
  refine lv_iload_n X.1 X.2.1 dX9_fort_0 rfl (lv_at hl 1 rfl) ?_
  refine ln_sR X (c_X9_isPlainRule l D g 0 x (Nat.le_refl _)) ln_nil mM_X9_135 Y_X9_isPlainRule rfl (by omega) hl.1 rfl (Nat.le_of_ble_eq_true rfl) dX9_fort_1 ⟨Nat.zero_le _, Nat.zero_le _⟩ (fun r1 hr1 => ?_)
  subst hr1
  refine rn_eqB X (tgt := 18) dX9_fort_4 (by decide) (fun h4 => ?_) (fun h4 => ?_)
  · skip
    refine lv_bipush (v := ((-2))) X.1 X.2.1 dX9_fort_18 (by decide) ?_
    subst hQ0
    exact ln_retU X hr hlk hP hSw rfl ⟨⟨hW, hN, rv, bv, hV, hvv, hE, hAK, hTK, hHK, hWK⟩, Or.inl ⟨by first | exact Or.inl h4 | exact Or.inr h15, rfl⟩⟩ dX9_fort_20
  · skip
    obtain ⟨r, hr2, rfl⟩ := ln_inr_t (by decide) h4
    refine lv_aload_n X.1 X.2.1 dX9_fort_7 rfl (lv_at hl 0 rfl) ?_
    refine gC_0_0 X hP mF_X9_12 dX9_fort_8 ?_
    refine lv_iload_n X.1 X.2.1 dX9_fort_11 rfl (lv_at hl 2 rfl) ?_
    refine ln_vR X (c_X4_isSet l D g a σ 1 N hW hN y (Nat.le_refl _)) hP 1 rfl rfl mM_X9_115 Y_X4_isSet rfl (by omega) hl.1 rfl (Nat.le_of_ble_eq_true rfl) dX9_fort_12 ⟨Nat.zero_le _, Nat.zero_le _⟩ (fun r12 hr12 => ?_)
    subst hr12
    refine rn_neB X (tgt := 21) dX9_fort_15 (by decide) (fun h15 => ?_) (fun h15 => ?_)
    · skip
      obtain ⟨S, hS, rfl⟩ := ln_inr_t (by omega) h15
      refine lv_aload_n X.1 X.2.1 dX9_fort_21 rfl (lv_at hl 0 rfl) ?_
      refine gC_0_4 X hP mF_X9_44 dX9_fort_22 ?_
      refine lv_iload_n X.1 X.2.1 dX9_fort_25 rfl (lv_at hl 1 rfl) ?_
      refine lv_iload_n X.1 X.2.1 dX9_fort_26 rfl (lv_at hl 2 rfl) ?_
      refine ln_vU X (CW_ad a g) hA (c_X7_isFort l D g a σ 5 N hW hN rv bv hV hE r hr2 S hS (Nat.le_refl _)) hP hDw hSw 13 rfl rfl mM_X9_138 Y_X7_isFort rfl (by omega) hl.1 rfl (Nat.le_of_ble_eq_true rfl) dX9_fort_27 ⟨Nat.zero_le _, Nat.zero_le _⟩ (fun r27 τ27 H locs hr27 hP hDw hSw => ?_)
      obtain ⟨hz, hE1, hf⟩ := hr27
      subst hz
      have hN : ln_nC N τ27 := hN.of (fun c hc => hf c (by omega) (by omega) (by omega) (by omega))
      have hV : ln_vs τ27 rv bv := hV.of (hf 1 (by omega) (by omega) (by omega) (by omega))
      have hAK : ln_aK N τ27 rv bv := hAK.of (fun c hc => hf c (by omega) (by omega) (by omega) (by omega))
      have hTK : ln_tK N τ27 rv := hTK.of (fun c hc => hf c (by omega) (by omega) (by omega) (by omega))
      have hHK : ln_hK N τ27 rv := hHK.of (fun c hc => hf c (by omega) (by omega) (by omega) (by omega))
      have hWK : ln_wK N τ27 rv bv := hWK.of (fun c hc => hf c (by omega) (by omega) (by omega) (by omega))
      have hE := hE1
      refine rn_eqB X (tgt := 37) dX9_fort_30 (by decide) (fun h30 => ?_) (fun h30 => ?_)
      · skip
        refine lv_iconst (v := nI 0) X.1 X.2.1 dX9_fort_37 (by decide) ?_
        subst hQ0
        exact ln_retU X hr hlk hP hSw rfl ⟨⟨hW, hN, rv, bv, hV, hvv, hE, hAK, hTK, hHK, hWK⟩, Or.inr ⟨r, S, hr2, hS, rfl, rfl, by rw [h30]; rfl⟩⟩ dX9_fort_38
      · skip
        refine lv_iconst (v := nI 1) X.1 X.2.1 dX9_fort_33 (by decide) ?_
        refine lv_goto (tgt := 38) X.1 X.2.1 dX9_fort_34 (by decide) ?_
        subst hQ0
        exact ln_retU X hr hlk hP hSw rfl ⟨⟨hW, hN, rv, bv, hV, hvv, hE, hAK, hTK, hHK, hWK⟩, Or.inr ⟨r, S, hr2, hS, rfl, rfl, by rw [h30]; rfl⟩⟩ dX9_fort_38
    · skip
      refine lv_bipush (v := ((-2))) X.1 X.2.1 dX9_fort_18 (by decide) ?_
      subst hQ0
      exact ln_retU X hr hlk hP hSw rfl ⟨⟨hW, hN, rv, bv, hV, hvv, hE, hAK, hTK, hHK, hWK⟩, Or.inl ⟨by first | exact Or.inl h4 | exact Or.inr h15, rfl⟩⟩ dX9_fort_20
set_option maxHeartbeats 4000000 in
set_option maxRecDepth 100000 in
theorem c_X9_forts (l : Launch) (D : va_G) (g : Nat → ClassId) (a : Nat → Nat) (σ : ln_S) (d : Nat) (N : ln_N) (v : Nat) (hI : ln_CI N v σ) (x y : Int32)  (hd : 6 ≤ d) : ln_U l D g (CW a g) yX9_forts (.code yX9_forts cX9_forts 3 (some .int)) d [.ref (a 0), .int x, .int y] σ (fun z τ => ln_CI N v τ ∧ ln_oFk N x y z) := by
  obtain ⟨hW, hN, rv, bv, hV, hvv, hE, hAK, hTK, hHK, hWK⟩ := hI
  have hN12 := hW.n12
  have hp12 := hW.p12
  have hs1 := ln_sub1 (N 0 0)
  refine ln_ofU (by decide +kernel) (Nat.le_of_ble_eq_true rfl) (fun prg env rum sta mid args below meth cod ls A hr hlk X hA hP hDw hSw hl => ?_)
  have hl : lv_has ls 3 [(0, .ref (a 0)), (1, .int x), (2, .int y)] := hl
  generalize hQ0 : (MQ below (va_Qi (fun z τ => ln_CI N v τ ∧ ln_oFk N x y z) (fun τ t => va_P D ln_cl (CW a g τ) t.heap) A) args sta 0 0 A) = Q0
  obtain ⟨H, hH⟩ : ∃ H, H = sta.heap := ⟨_, rfl⟩
  obtain ⟨locs, hlo⟩ : ∃ x : List Loc, x = [] := ⟨_, rfl⟩
  rw [← hH] at hP
  have hSw : va_S A sta.heap H locs := by rw [hH, hlo]; exact hSw
  have goal : W prg l env rum sta mid args below meth cod H locs 0 0 Q0 (F0 mid 0 ls []) := ?_
  · rw [hH, hlo] at goal; exact goal
  clear hlo
  refine lv_iload_n X.1 X.2.1 dX9_forts_0 rfl (lv_at hl 1 rfl) ?_
  refine ln_sR X (c_X9_isPlainRule l D g 0 x (Nat.le_refl _)) ln_nil mM_X9_135 Y_X9_isPlainRule rfl (by omega) hl.1 rfl (Nat.le_of_ble_eq_true rfl) dX9_forts_1 ⟨Nat.zero_le _, Nat.zero_le _⟩ (fun r1 hr1 => ?_)
  subst hr1
  refine rn_eqB X (tgt := 11) dX9_forts_4 (by decide) (fun h4 => ?_) (fun h4 => ?_)
  · skip
    refine lv_bipush (v := ((-2))) X.1 X.2.1 dX9_forts_11 (by decide) ?_
    subst hQ0
    exact ln_retU X hr hlk hP hSw rfl ⟨⟨hW, hN, rv, bv, hV, hvv, hE, hAK, hTK, hHK, hWK⟩, Or.inl ⟨by first | exact Or.inl h4 | exact Or.inr (Int32.not_le.mp h8), rfl⟩⟩ dX9_forts_13
  · skip
    obtain ⟨r, hr2, rfl⟩ := ln_inr_t (by decide) h4
    refine lv_iload_n X.1 X.2.1 dX9_forts_7 rfl (lv_at hl 2 rfl) ?_
    refine lv_if_ge (tgt := 14) X.1 X.2.1 dX9_forts_8 (by decide) (fun h8 => ?_) (fun h8 => ?_)
    · skip
      obtain ⟨kk, hkk, rfl⟩ := nI_of (show ¬ y < 0 from Int32.not_lt.mpr h8)
      refine lv_aload_n X.1 X.2.1 dX9_forts_14 rfl (lv_at hl 0 rfl) ?_
      refine gC_0_4 X hP mF_X9_44 dX9_forts_15 ?_
      refine lv_iload_n X.1 X.2.1 dX9_forts_18 rfl (lv_at hl 1 rfl) ?_
      refine lv_iload_n X.1 X.2.1 dX9_forts_19 rfl (lv_at hl 2 rfl) ?_
      refine ln_vU X (CW_ad a g) hA (c_X7_leastFort l D g a σ 5 N hW hN rv bv hV hE r hr2 kk hkk (Nat.le_refl _)) hP hDw hSw 13 rfl rfl mM_X9_142 Y_X7_leastFort rfl (by omega) hl.1 rfl (Nat.le_of_ble_eq_true rfl) dX9_forts_20 ⟨Nat.zero_le _, Nat.zero_le _⟩ (fun r20 τ20 H locs hr20 hP hDw hSw => ?_)
      obtain ⟨hz, hE1, hf⟩ := hr20
      have hN : ln_nC N τ20 := hN.of (fun c hc => hf c (by omega) (by omega) (by omega) (by omega))
      have hV : ln_vs τ20 rv bv := hV.of (hf 1 (by omega) (by omega) (by omega) (by omega))
      have hAK : ln_aK N τ20 rv bv := hAK.of (fun c hc => hf c (by omega) (by omega) (by omega) (by omega))
      have hTK : ln_tK N τ20 rv := hTK.of (fun c hc => hf c (by omega) (by omega) (by omega) (by omega))
      have hHK : ln_hK N τ20 rv := hHK.of (fun c hc => hf c (by omega) (by omega) (by omega) (by omega))
      have hWK : ln_wK N τ20 rv bv := hWK.of (fun c hc => hf c (by omega) (by omega) (by omega) (by omega))
      have hE := hE1
      subst hQ0
      exact ln_retU X hr hlk hP hSw rfl ⟨⟨hW, hN, rv, bv, hV, hvv, hE, hAK, hTK, hHK, hWK⟩, Or.inr ⟨r, kk, hr2, hkk, rfl, rfl, hz⟩⟩ dX9_forts_23
    · skip
      refine lv_bipush (v := ((-2))) X.1 X.2.1 dX9_forts_11 (by decide) ?_
      subst hQ0
      exact ln_retU X hr hlk hP hSw rfl ⟨⟨hW, hN, rv, bv, hV, hvv, hE, hAK, hTK, hHK, hWK⟩, Or.inl ⟨by first | exact Or.inl h4 | exact Or.inr (Int32.not_le.mp h8), rfl⟩⟩ dX9_forts_13
set_option maxHeartbeats 4000000 in
set_option maxRecDepth 100000 in
theorem c_X9_apart (l : Launch) (D : va_G) (g : Nat → ClassId) (a : Nat → Nat) (σ : ln_S) (d : Nat) (N : ln_N) (v : Nat) (hI : ln_CI N v σ) (x : Int32)  (hd : 6 ≤ d) : ln_U l D g (CW a g) yX9_apart (.code yX9_apart cX9_apart 2 (some .int)) d [.ref (a 0), .int x] σ (fun z τ => ln_CI N v τ ∧ ln_oAp N x z) := by
  obtain ⟨hW, hN, rv, bv, hV, hvv, hE, hAK, hTK, hHK, hWK⟩ := hI
  have hN12 := hW.n12
  have hp12 := hW.p12
  have hs1 := ln_sub1 (N 0 0)
  refine ln_ofU (by decide +kernel) (Nat.le_of_ble_eq_true rfl) (fun prg env rum sta mid args below meth cod ls A hr hlk X hA hP hDw hSw hl => ?_)
  have hl : lv_has ls 2 [(0, .ref (a 0)), (1, .int x)] := hl
  generalize hQ0 : (MQ below (va_Qi (fun z τ => ln_CI N v τ ∧ ln_oAp N x z) (fun τ t => va_P D ln_cl (CW a g τ) t.heap) A) args sta 0 0 A) = Q0
  obtain ⟨H, hH⟩ : ∃ H, H = sta.heap := ⟨_, rfl⟩
  obtain ⟨locs, hlo⟩ : ∃ x : List Loc, x = [] := ⟨_, rfl⟩
  rw [← hH] at hP
  have hSw : va_S A sta.heap H locs := by rw [hH, hlo]; exact hSw
  have goal : W prg l env rum sta mid args below meth cod H locs 0 0 Q0 (F0 mid 0 ls []) := ?_
  · rw [hH, hlo] at goal; exact goal
  clear hlo
  refine lv_iload_n X.1 X.2.1 dX9_apart_0 rfl (lv_at hl 1 rfl) ?_
  refine ln_sR X (c_X9_isPlainRule l D g 0 x (Nat.le_refl _)) ln_nil mM_X9_135 Y_X9_isPlainRule rfl (by omega) hl.1 rfl (Nat.le_of_ble_eq_true rfl) dX9_apart_1 ⟨Nat.zero_le _, Nat.zero_le _⟩ (fun r1 hr1 => ?_)
  subst hr1
  refine rn_eqB X (tgt := 18) dX9_apart_4 (by decide) (fun h4 => ?_) (fun h4 => ?_)
  · skip
    refine lv_bipush (v := ((-2))) X.1 X.2.1 dX9_apart_18 (by decide) ?_
    subst hQ0
    exact ln_retU X hr hlk hP hSw rfl (by first | exact ⟨⟨hW, hN, rv, bv, hV, hvv, hE, hAK, hTK, hHK, hWK⟩, Or.inr ⟨r, w, hr2, rfl, rfl, hA2⟩⟩ | exact ⟨⟨hW, hN, rv, bv, hV, hvv, hE, hAK, hTK, hHK, hWK⟩, Or.inl ⟨h4, rfl⟩⟩) dX9_apart_20
  · skip
    obtain ⟨r, hr2, rfl⟩ := ln_inr_t (by decide) h4
    refine lv_aload_n X.1 X.2.1 dX9_apart_7 rfl (lv_at hl 0 rfl) ?_
    refine gC_0_4 X hP mF_X9_44 dX9_apart_8 ?_
    refine lv_iload_n X.1 X.2.1 dX9_apart_11 rfl (lv_at hl 1 rfl) ?_
    refine ln_vU X (CW_ad a g) hA (c_X7_mostApart l D g a σ 5 N hW hN rv bv hV hE hAK r hr2 (Nat.le_refl _)) hP hDw hSw 13 rfl rfl mM_X9_145 Y_X7_mostApart rfl (by omega) hl.1 rfl (Nat.le_of_ble_eq_true rfl) dX9_apart_12 ⟨Nat.zero_le _, Nat.zero_le _⟩ (fun r12 τ12 H locs hr12 hP hDw hSw => ?_)
    obtain ⟨⟨w, hz, hA2⟩, hE1, hA1, hf⟩ := hr12
    subst hz
    have hN : ln_nC N τ12 := hN.of (fun c hc => hf c (by omega) (by omega) (by omega) (by omega) (by omega) (by omega) (by omega))
    have hV : ln_vs τ12 rv bv := hV.of (hf 1 (by omega) (by omega) (by omega) (by omega) (by omega) (by omega) (by omega))
    have hTK : ln_tK N τ12 rv := hTK.of (fun c hc => hf c (by omega) (by omega) (by omega) (by omega) (by omega) (by omega) (by omega))
    have hHK : ln_hK N τ12 rv := hHK.of (fun c hc => hf c (by omega) (by omega) (by omega) (by omega) (by omega) (by omega) (by omega))
    have hWK : ln_wK N τ12 rv bv := hWK.of (fun c hc => hf c (by omega) (by omega) (by omega) (by omega) (by omega) (by omega) (by omega))
    have hE := hE1
    have hAK := hA1
    refine lv_goto (tgt := 20) X.1 X.2.1 dX9_apart_15 (by decide) ?_
    subst hQ0
    exact ln_retU X hr hlk hP hSw rfl (by first | exact ⟨⟨hW, hN, rv, bv, hV, hvv, hE, hAK, hTK, hHK, hWK⟩, Or.inr ⟨r, w, hr2, rfl, rfl, hA2⟩⟩ | exact ⟨⟨hW, hN, rv, bv, hV, hvv, hE, hAK, hTK, hHK, hWK⟩, Or.inl ⟨h4, rfl⟩⟩) dX9_apart_20
set_option maxHeartbeats 4000000 in
set_option maxRecDepth 100000 in
theorem c_X9_least (l : Launch) (D : va_G) (g : Nat → ClassId) (a : Nat → Nat) (σ : ln_S) (d : Nat) (N : ln_N) (v : Nat) (hI : ln_CI N v σ) (x : Int32)  (hd : 5 ≤ d) : ln_U l D g (CW a g) yX9_least (.code yX9_least cX9_least 2 (some .int)) d [.ref (a 0), .int x] σ (fun z τ => ln_CI N v τ ∧ ln_oLs N x z) := by
  obtain ⟨hW, hN, rv, bv, hV, hvv, hE, hAK, hTK, hHK, hWK⟩ := hI
  have hN12 := hW.n12
  have hp12 := hW.p12
  have hs1 := ln_sub1 (N 0 0)
  refine ln_ofU (by decide +kernel) (Nat.le_of_ble_eq_true rfl) (fun prg env rum sta mid args below meth cod ls A hr hlk X hA hP hDw hSw hl => ?_)
  have hl : lv_has ls 2 [(0, .ref (a 0)), (1, .int x)] := hl
  generalize hQ0 : (MQ below (va_Qi (fun z τ => ln_CI N v τ ∧ ln_oLs N x z) (fun τ t => va_P D ln_cl (CW a g τ) t.heap) A) args sta 0 0 A) = Q0
  obtain ⟨H, hH⟩ : ∃ H, H = sta.heap := ⟨_, rfl⟩
  obtain ⟨locs, hlo⟩ : ∃ x : List Loc, x = [] := ⟨_, rfl⟩
  rw [← hH] at hP
  have hSw : va_S A sta.heap H locs := by rw [hH, hlo]; exact hSw
  have goal : W prg l env rum sta mid args below meth cod H locs 0 0 Q0 (F0 mid 0 ls []) := ?_
  · rw [hH, hlo] at goal; exact goal
  clear hlo
  refine lv_iload_n X.1 X.2.1 dX9_least_0 rfl (lv_at hl 1 rfl) ?_
  refine ln_sR X (c_X9_isRule l D g 0 x (Nat.le_refl _)) ln_nil mM_X9_112 Y_X9_isRule rfl (by omega) hl.1 rfl (Nat.le_of_ble_eq_true rfl) dX9_least_1 ⟨Nat.zero_le _, Nat.zero_le _⟩ (fun r1 hr1 => ?_)
  subst hr1
  refine rn_eqB X (tgt := 25) dX9_least_4 (by decide) (fun h4 => ?_) (fun h4 => ?_)
  · skip
    refine lv_bipush (v := ((-2))) X.1 X.2.1 dX9_least_25 (by decide) ?_
    subst hQ0
    exact ln_retU X hr hlk hP hSw rfl (by first | exact ⟨⟨hW, hN, rv, bv, hV, hvv, hE, hAK, hTK, hHK, hWK⟩, Or.inr ⟨r, s, hr3, rfl, rfl, hL⟩⟩ | exact ⟨⟨hW, hN, rv, bv, hV, hvv, hE, hAK, hTK, hHK, hWK⟩, Or.inl ⟨h4, rfl⟩⟩) dX9_least_27
  · skip
    obtain ⟨r, hr3, rfl⟩ := ln_inr_t (by decide) h4
    refine lv_aload_n X.1 X.2.1 dX9_least_7 rfl (lv_at hl 0 rfl) ?_
    refine gC_0_3 X hP mF_X9_37 dX9_least_8 ?_
    refine lv_aload_n X.1 X.2.1 dX9_least_11 rfl (lv_at hl 0 rfl) ?_
    refine gC_0_1 X hP mF_X9_21 dX9_least_12 ?_
    refine lv_iload_n X.1 X.2.1 dX9_least_15 rfl (lv_at hl 1 rfl) ?_
    refine ln_vF X (CW_ad a g) hA (c_X6_endsOf l D g a σ 4 N hW hN rv bv hV hE r hr3 (Nat.le_refl _)) hP hDw hSw 7 rfl rfl mM_X9_148 Y_X6_endsOf rfl (by omega) hl.1 rfl (Nat.le_of_ble_eq_true rfl) dX9_least_16 ⟨Nat.zero_le _, Nat.zero_le _⟩ (fun τ16 H locs hr16 hP hDw hSw => ?_)
    obtain ⟨q1, hE1, hf⟩ := hr16
    have hN : ln_nC N τ16 := hN.of (fun c hc => hf c (by omega) (by omega) (by omega) (by omega))
    have hV : ln_vs τ16 rv bv := hV.of (hf 1 (by omega) (by omega) (by omega) (by omega))
    have hAK : ln_aK N τ16 rv bv := hAK.of (fun c hc => hf c (by omega) (by omega) (by omega) (by omega))
    have hTK : ln_tK N τ16 rv := hTK.of (fun c hc => hf c (by omega) (by omega) (by omega) (by omega))
    have hHK : ln_hK N τ16 rv := hHK.of (fun c hc => hf c (by omega) (by omega) (by omega) (by omega))
    have hWK : ln_wK N τ16 rv bv := hWK.of (fun c hc => hf c (by omega) (by omega) (by omega) (by omega))
    have hE := hE1
    refine ln_vR X (c_X5_smallest l D g a τ16 1 N hW hN r hr3 q1 (Nat.le_refl _)) hP 12 rfl rfl mM_X9_152 Y_X5_smallest rfl (by omega) hl.1 rfl (Nat.le_of_ble_eq_true rfl) dX9_least_19 ⟨Nat.zero_le _, Nat.zero_le _⟩ (fun r19 hr19 => ?_)
    obtain ⟨s, hz, hL⟩ := hr19
    subst hz
    refine lv_goto (tgt := 27) X.1 X.2.1 dX9_least_22 (by decide) ?_
    subst hQ0
    exact ln_retU X hr hlk hP hSw rfl (by first | exact ⟨⟨hW, hN, rv, bv, hV, hvv, hE, hAK, hTK, hHK, hWK⟩, Or.inr ⟨r, s, hr3, rfl, rfl, hL⟩⟩ | exact ⟨⟨hW, hN, rv, bv, hV, hvv, hE, hAK, hTK, hHK, hWK⟩, Or.inl ⟨h4, rfl⟩⟩) dX9_least_27
set_option maxHeartbeats 4000000 in
set_option maxRecDepth 100000 in
theorem c_X9_many (l : Launch) (D : va_G) (g : Nat → ClassId) (a : Nat → Nat) (σ : ln_S) (d : Nat) (N : ln_N) (v : Nat) (hI : ln_CI N v σ) (x : Int32)  (hd : 5 ≤ d) : ln_U l D g (CW a g) yX9_many (.code yX9_many cX9_many 2 (some .int)) d [.ref (a 0), .int x] σ (fun z τ => ln_CI N v τ ∧ ln_oMn N x z) := by
  obtain ⟨hW, hN, rv, bv, hV, hvv, hE, hAK, hTK, hHK, hWK⟩ := hI
  have hN12 := hW.n12
  have hp12 := hW.p12
  have hs1 := ln_sub1 (N 0 0)
  refine ln_ofU (by decide +kernel) (Nat.le_of_ble_eq_true rfl) (fun prg env rum sta mid args below meth cod ls A hr hlk X hA hP hDw hSw hl => ?_)
  have hl : lv_has ls 2 [(0, .ref (a 0)), (1, .int x)] := hl
  generalize hQ0 : (MQ below (va_Qi (fun z τ => ln_CI N v τ ∧ ln_oMn N x z) (fun τ t => va_P D ln_cl (CW a g τ) t.heap) A) args sta 0 0 A) = Q0
  obtain ⟨H, hH⟩ : ∃ H, H = sta.heap := ⟨_, rfl⟩
  obtain ⟨locs, hlo⟩ : ∃ x : List Loc, x = [] := ⟨_, rfl⟩
  rw [← hH] at hP
  have hSw : va_S A sta.heap H locs := by rw [hH, hlo]; exact hSw
  have goal : W prg l env rum sta mid args below meth cod H locs 0 0 Q0 (F0 mid 0 ls []) := ?_
  · rw [hH, hlo] at goal; exact goal
  clear hlo
  refine lv_iload_n X.1 X.2.1 dX9_many_0 rfl (lv_at hl 1 rfl) ?_
  refine ln_sR X (c_X9_isRule l D g 0 x (Nat.le_refl _)) ln_nil mM_X9_112 Y_X9_isRule rfl (by omega) hl.1 rfl (Nat.le_of_ble_eq_true rfl) dX9_many_1 ⟨Nat.zero_le _, Nat.zero_le _⟩ (fun r1 hr1 => ?_)
  subst hr1
  refine rn_eqB X (tgt := 25) dX9_many_4 (by decide) (fun h4 => ?_) (fun h4 => ?_)
  · skip
    refine lv_bipush (v := ((-2))) X.1 X.2.1 dX9_many_25 (by decide) ?_
    subst hQ0
    exact ln_retU X hr hlk hP hSw rfl (by first | exact ⟨⟨hW, hN, rv, bv, hV, hvv, hE, hAK, hTK, hHK, hWK⟩, Or.inr ⟨r, s, hr3, rfl, hL, rfl⟩⟩ | exact ⟨⟨hW, hN, rv, bv, hV, hvv, hE, hAK, hTK, hHK, hWK⟩, Or.inl ⟨h4, rfl⟩⟩) dX9_many_27
  · skip
    obtain ⟨r, hr3, rfl⟩ := ln_inr_t (by decide) h4
    refine lv_aload_n X.1 X.2.1 dX9_many_7 rfl (lv_at hl 0 rfl) ?_
    refine gC_0_3 X hP mF_X9_37 dX9_many_8 ?_
    refine lv_aload_n X.1 X.2.1 dX9_many_11 rfl (lv_at hl 0 rfl) ?_
    refine gC_0_1 X hP mF_X9_21 dX9_many_12 ?_
    refine lv_iload_n X.1 X.2.1 dX9_many_15 rfl (lv_at hl 1 rfl) ?_
    refine ln_vF X (CW_ad a g) hA (c_X6_endsOf l D g a σ 4 N hW hN rv bv hV hE r hr3 (Nat.le_refl _)) hP hDw hSw 7 rfl rfl mM_X9_148 Y_X6_endsOf rfl (by omega) hl.1 rfl (Nat.le_of_ble_eq_true rfl) dX9_many_16 ⟨Nat.zero_le _, Nat.zero_le _⟩ (fun τ16 H locs hr16 hP hDw hSw => ?_)
    obtain ⟨q1, hE1, hf⟩ := hr16
    have hN : ln_nC N τ16 := hN.of (fun c hc => hf c (by omega) (by omega) (by omega) (by omega))
    have hV : ln_vs τ16 rv bv := hV.of (hf 1 (by omega) (by omega) (by omega) (by omega))
    have hAK : ln_aK N τ16 rv bv := hAK.of (fun c hc => hf c (by omega) (by omega) (by omega) (by omega))
    have hTK : ln_tK N τ16 rv := hTK.of (fun c hc => hf c (by omega) (by omega) (by omega) (by omega))
    have hHK : ln_hK N τ16 rv := hHK.of (fun c hc => hf c (by omega) (by omega) (by omega) (by omega))
    have hWK : ln_wK N τ16 rv bv := hWK.of (fun c hc => hf c (by omega) (by omega) (by omega) (by omega))
    have hE := hE1
    refine ln_vR X (c_X5_howManySmallest l D g a τ16 2 N hW hN r hr3 q1 (Nat.le_refl _)) hP 12 rfl rfl mM_X9_156 Y_X5_howManySmallest rfl (by omega) hl.1 rfl (Nat.le_of_ble_eq_true rfl) dX9_many_19 ⟨Nat.zero_le _, Nat.zero_le _⟩ (fun r19 hr19 => ?_)
    obtain ⟨s, hL, hz⟩ := hr19
    subst hz
    refine lv_goto (tgt := 27) X.1 X.2.1 dX9_many_22 (by decide) ?_
    subst hQ0
    exact ln_retU X hr hlk hP hSw rfl (by first | exact ⟨⟨hW, hN, rv, bv, hV, hvv, hE, hAK, hTK, hHK, hWK⟩, Or.inr ⟨r, s, hr3, rfl, hL, rfl⟩⟩ | exact ⟨⟨hW, hN, rv, bv, hV, hvv, hE, hAK, hTK, hHK, hWK⟩, Or.inl ⟨h4, rfl⟩⟩) dX9_many_27
set_option maxHeartbeats 4000000 in
set_option maxRecDepth 100000 in
theorem c_X9_cheapest (l : Launch) (D : va_G) (g : Nat → ClassId) (a : Nat → Nat) (σ : ln_S) (d : Nat) (N : ln_N) (v : Nat) (hI : ln_CI N v σ) (x : Int32)  (hd : 5 ≤ d) : ln_U l D g (CW a g) yX9_cheapest (.code yX9_cheapest cX9_cheapest 2 (some .int)) d [.ref (a 0), .int x] σ (fun z τ => ln_CI N v τ ∧ ln_oCh N x z) := by
  obtain ⟨hW, hN, rv, bv, hV, hvv, hE, hAK, hTK, hHK, hWK⟩ := hI
  have hN12 := hW.n12
  have hp12 := hW.p12
  have hs1 := ln_sub1 (N 0 0)
  refine ln_ofU (by decide +kernel) (Nat.le_of_ble_eq_true rfl) (fun prg env rum sta mid args below meth cod ls A hr hlk X hA hP hDw hSw hl => ?_)
  have hl : lv_has ls 2 [(0, .ref (a 0)), (1, .int x)] := hl
  generalize hQ0 : (MQ below (va_Qi (fun z τ => ln_CI N v τ ∧ ln_oCh N x z) (fun τ t => va_P D ln_cl (CW a g τ) t.heap) A) args sta 0 0 A) = Q0
  obtain ⟨H, hH⟩ : ∃ H, H = sta.heap := ⟨_, rfl⟩
  obtain ⟨locs, hlo⟩ : ∃ x : List Loc, x = [] := ⟨_, rfl⟩
  rw [← hH] at hP
  have hSw : va_S A sta.heap H locs := by rw [hH, hlo]; exact hSw
  have goal : W prg l env rum sta mid args below meth cod H locs 0 0 Q0 (F0 mid 0 ls []) := ?_
  · rw [hH, hlo] at goal; exact goal
  clear hlo
  refine lv_iload_n X.1 X.2.1 dX9_cheapest_0 rfl (lv_at hl 1 rfl) ?_
  refine ln_sR X (c_X9_isRule l D g 0 x (Nat.le_refl _)) ln_nil mM_X9_112 Y_X9_isRule rfl (by omega) hl.1 rfl (Nat.le_of_ble_eq_true rfl) dX9_cheapest_1 ⟨Nat.zero_le _, Nat.zero_le _⟩ (fun r1 hr1 => ?_)
  subst hr1
  refine rn_eqB X (tgt := 25) dX9_cheapest_4 (by decide) (fun h4 => ?_) (fun h4 => ?_)
  · skip
    refine lv_bipush (v := ((-2))) X.1 X.2.1 dX9_cheapest_25 (by decide) ?_
    subst hQ0
    exact ln_retU X hr hlk hP hSw rfl (by first | exact ⟨⟨hW, hN, rv, bv, hV, hvv, hE, hAK, hTK, hHK, hWK⟩, Or.inr ⟨r, s, hr3, rfl, rfl, hL⟩⟩ | exact ⟨⟨hW, hN, rv, bv, hV, hvv, hE, hAK, hTK, hHK, hWK⟩, Or.inl ⟨h4, rfl⟩⟩) dX9_cheapest_27
  · skip
    obtain ⟨r, hr3, rfl⟩ := ln_inr_t (by decide) h4
    refine lv_aload_n X.1 X.2.1 dX9_cheapest_7 rfl (lv_at hl 0 rfl) ?_
    refine gC_0_3 X hP mF_X9_37 dX9_cheapest_8 ?_
    refine lv_aload_n X.1 X.2.1 dX9_cheapest_11 rfl (lv_at hl 0 rfl) ?_
    refine gC_0_1 X hP mF_X9_21 dX9_cheapest_12 ?_
    refine lv_iload_n X.1 X.2.1 dX9_cheapest_15 rfl (lv_at hl 1 rfl) ?_
    refine ln_vF X (CW_ad a g) hA (c_X6_endsOf l D g a σ 4 N hW hN rv bv hV hE r hr3 (Nat.le_refl _)) hP hDw hSw 7 rfl rfl mM_X9_148 Y_X6_endsOf rfl (by omega) hl.1 rfl (Nat.le_of_ble_eq_true rfl) dX9_cheapest_16 ⟨Nat.zero_le _, Nat.zero_le _⟩ (fun τ16 H locs hr16 hP hDw hSw => ?_)
    obtain ⟨q1, hE1, hf⟩ := hr16
    have hN : ln_nC N τ16 := hN.of (fun c hc => hf c (by omega) (by omega) (by omega) (by omega))
    have hV : ln_vs τ16 rv bv := hV.of (hf 1 (by omega) (by omega) (by omega) (by omega))
    have hAK : ln_aK N τ16 rv bv := hAK.of (fun c hc => hf c (by omega) (by omega) (by omega) (by omega))
    have hTK : ln_tK N τ16 rv := hTK.of (fun c hc => hf c (by omega) (by omega) (by omega) (by omega))
    have hHK : ln_hK N τ16 rv := hHK.of (fun c hc => hf c (by omega) (by omega) (by omega) (by omega))
    have hWK : ln_wK N τ16 rv bv := hWK.of (fun c hc => hf c (by omega) (by omega) (by omega) (by omega))
    have hE := hE1
    refine ln_vR X (c_X5_leastPriced l D g a τ16 2 N hW hN r hr3 q1 (Nat.le_refl _)) hP 12 rfl rfl mM_X9_159 Y_X5_leastPriced rfl (by omega) hl.1 rfl (Nat.le_of_ble_eq_true rfl) dX9_cheapest_19 ⟨Nat.zero_le _, Nat.zero_le _⟩ (fun r19 hr19 => ?_)
    obtain ⟨s, hz, hL⟩ := hr19
    subst hz
    refine lv_goto (tgt := 27) X.1 X.2.1 dX9_cheapest_22 (by decide) ?_
    subst hQ0
    exact ln_retU X hr hlk hP hSw rfl (by first | exact ⟨⟨hW, hN, rv, bv, hV, hvv, hE, hAK, hTK, hHK, hWK⟩, Or.inr ⟨r, s, hr3, rfl, rfl, hL⟩⟩ | exact ⟨⟨hW, hN, rv, bv, hV, hvv, hE, hAK, hTK, hHK, hWK⟩, Or.inl ⟨h4, rfl⟩⟩) dX9_cheapest_27
set_option maxHeartbeats 4000000 in
set_option maxRecDepth 100000 in
theorem c_X9_pared (l : Launch) (D : va_G) (g : Nat → ClassId) (a : Nat → Nat) (σ : ln_S) (d : Nat) (N : ln_N) (v : Nat) (hI : ln_CI N v σ) (x : Int32)  (hd : 5 ≤ d) : ln_U l D g (CW a g) yX9_pared (.code yX9_pared cX9_pared 2 (some .int)) d [.ref (a 0), .int x] σ (fun z τ => ln_CI N v τ ∧ ln_oPd N x z) := by
  obtain ⟨hW, hN, rv, bv, hV, hvv, hE, hAK, hTK, hHK, hWK⟩ := hI
  have hN12 := hW.n12
  have hp12 := hW.p12
  have hs1 := ln_sub1 (N 0 0)
  refine ln_ofU (by decide +kernel) (Nat.le_of_ble_eq_true rfl) (fun prg env rum sta mid args below meth cod ls A hr hlk X hA hP hDw hSw hl => ?_)
  have hl : lv_has ls 2 [(0, .ref (a 0)), (1, .int x)] := hl
  generalize hQ0 : (MQ below (va_Qi (fun z τ => ln_CI N v τ ∧ ln_oPd N x z) (fun τ t => va_P D ln_cl (CW a g τ) t.heap) A) args sta 0 0 A) = Q0
  obtain ⟨H, hH⟩ : ∃ H, H = sta.heap := ⟨_, rfl⟩
  obtain ⟨locs, hlo⟩ : ∃ x : List Loc, x = [] := ⟨_, rfl⟩
  rw [← hH] at hP
  have hSw : va_S A sta.heap H locs := by rw [hH, hlo]; exact hSw
  have goal : W prg l env rum sta mid args below meth cod H locs 0 0 Q0 (F0 mid 0 ls []) := ?_
  · rw [hH, hlo] at goal; exact goal
  clear hlo
  refine lv_iload_n X.1 X.2.1 dX9_pared_0 rfl (lv_at hl 1 rfl) ?_
  refine ln_sR X (c_X9_isRule l D g 0 x (Nat.le_refl _)) ln_nil mM_X9_112 Y_X9_isRule rfl (by omega) hl.1 rfl (Nat.le_of_ble_eq_true rfl) dX9_pared_1 ⟨Nat.zero_le _, Nat.zero_le _⟩ (fun r1 hr1 => ?_)
  subst hr1
  refine rn_eqB X (tgt := 25) dX9_pared_4 (by decide) (fun h4 => ?_) (fun h4 => ?_)
  · skip
    refine lv_bipush (v := ((-2))) X.1 X.2.1 dX9_pared_25 (by decide) ?_
    subst hQ0
    exact ln_retU X hr hlk hP hSw rfl (by first | exact ⟨⟨hW, hN, rv, bv, hV, hvv, hE, hAK, hTK, hHK, hWK⟩, Or.inr ⟨r, hr3, rfl, rfl⟩⟩ | exact ⟨⟨hW, hN, rv, bv, hV, hvv, hE, hAK, hTK, hHK, hWK⟩, Or.inl ⟨h4, rfl⟩⟩) dX9_pared_27
  · skip
    obtain ⟨r, hr3, rfl⟩ := ln_inr_t (by decide) h4
    refine lv_aload_n X.1 X.2.1 dX9_pared_7 rfl (lv_at hl 0 rfl) ?_
    refine gC_0_3 X hP mF_X9_37 dX9_pared_8 ?_
    refine lv_aload_n X.1 X.2.1 dX9_pared_11 rfl (lv_at hl 0 rfl) ?_
    refine gC_0_1 X hP mF_X9_21 dX9_pared_12 ?_
    refine lv_iload_n X.1 X.2.1 dX9_pared_15 rfl (lv_at hl 1 rfl) ?_
    refine ln_vF X (CW_ad a g) hA (c_X6_endsOf l D g a σ 4 N hW hN rv bv hV hE r hr3 (Nat.le_refl _)) hP hDw hSw 7 rfl rfl mM_X9_148 Y_X6_endsOf rfl (by omega) hl.1 rfl (Nat.le_of_ble_eq_true rfl) dX9_pared_16 ⟨Nat.zero_le _, Nat.zero_le _⟩ (fun τ16 H locs hr16 hP hDw hSw => ?_)
    obtain ⟨q1, hE1, hf⟩ := hr16
    have hN : ln_nC N τ16 := hN.of (fun c hc => hf c (by omega) (by omega) (by omega) (by omega))
    have hV : ln_vs τ16 rv bv := hV.of (hf 1 (by omega) (by omega) (by omega) (by omega))
    have hAK : ln_aK N τ16 rv bv := hAK.of (fun c hc => hf c (by omega) (by omega) (by omega) (by omega))
    have hTK : ln_tK N τ16 rv := hTK.of (fun c hc => hf c (by omega) (by omega) (by omega) (by omega))
    have hHK : ln_hK N τ16 rv := hHK.of (fun c hc => hf c (by omega) (by omega) (by omega) (by omega))
    have hWK : ln_wK N τ16 rv bv := hWK.of (fun c hc => hf c (by omega) (by omega) (by omega) (by omega))
    have hE := hE1
    refine ln_vR X (c_X5_paredDown l D g a τ16 1 N hW hN r hr3 q1 (Nat.le_refl _)) hP 12 rfl rfl mM_X9_162 Y_X5_paredDown rfl (by omega) hl.1 rfl (Nat.le_of_ble_eq_true rfl) dX9_pared_19 ⟨Nat.zero_le _, Nat.zero_le _⟩ (fun r19 hr19 => ?_)
    subst hr19
    refine lv_goto (tgt := 27) X.1 X.2.1 dX9_pared_22 (by decide) ?_
    subst hQ0
    exact ln_retU X hr hlk hP hSw rfl (by first | exact ⟨⟨hW, hN, rv, bv, hV, hvv, hE, hAK, hTK, hHK, hWK⟩, Or.inr ⟨r, hr3, rfl, rfl⟩⟩ | exact ⟨⟨hW, hN, rv, bv, hV, hvv, hE, hAK, hTK, hHK, hWK⟩, Or.inl ⟨h4, rfl⟩⟩) dX9_pared_27
set_option maxHeartbeats 4000000 in
set_option maxRecDepth 100000 in
theorem c_X9_burn (l : Launch) (D : va_G) (g : Nat → ClassId) (a : Nat → Nat) (σ : ln_S) (d : Nat) (N : ln_N) (v : Nat) (hI : ln_CI N v σ)  (hd : 4 ≤ d) : ln_U l D g (CW a g) yX9_burn (.code yX9_burn cX9_burn 1 (some .int)) d [.ref (a 0)] σ (fun z τ => ln_CI N v τ ∧ z = nI (ln_bt N 0)) := by
  obtain ⟨hW, hN, rv, bv, hV, hvv, hE, hAK, hTK, hHK, hWK⟩ := hI
  have hN12 := hW.n12
  have hp12 := hW.p12
  have hs1 := ln_sub1 (N 0 0)
  refine ln_ofU (by decide +kernel) (Nat.le_of_ble_eq_true rfl) (fun prg env rum sta mid args below meth cod ls A hr hlk X hA hP hDw hSw hl => ?_)
  have hl : lv_has ls 1 [(0, .ref (a 0))] := hl
  generalize hQ0 : (MQ below (va_Qi (fun z τ => ln_CI N v τ ∧ z = nI (ln_bt N 0)) (fun τ t => va_P D ln_cl (CW a g τ) t.heap) A) args sta 0 0 A) = Q0
  obtain ⟨H, hH⟩ : ∃ H, H = sta.heap := ⟨_, rfl⟩
  obtain ⟨locs, hlo⟩ : ∃ x : List Loc, x = [] := ⟨_, rfl⟩
  rw [← hH] at hP
  have hSw : va_S A sta.heap H locs := by rw [hH, hlo]; exact hSw
  have goal : W prg l env rum sta mid args below meth cod H locs 0 0 Q0 (F0 mid 0 ls []) := ?_
  · rw [hH, hlo] at goal; exact goal
  clear hlo
  refine lv_aload_n X.1 X.2.1 dX9_burn_0 rfl (lv_at hl 0 rfl) ?_
  refine gC_0_5 X hP mF_X9_51 dX9_burn_1 ?_
  refine ln_vU X (CW_ad a g) hA (c_X0_fewestTicks l D g a σ 3 N hW hN rv bv hV hTK (Nat.le_refl _)) hP hDw hSw 17 rfl rfl mM_X9_165 Y_X0_fewestTicks rfl (by omega) hl.1 rfl (Nat.le_of_ble_eq_true rfl) dX9_burn_4 ⟨Nat.zero_le _, Nat.zero_le _⟩ (fun r4 τ4 H locs hr4 hP hDw hSw => ?_)
  obtain ⟨hz, hT1, hf⟩ := hr4
  subst hz
  have hN : ln_nC N τ4 := hN.of (fun c hc => hf c (by omega) (by omega))
  have hV : ln_vs τ4 rv bv := hV.of (hf 1 (by omega) (by omega))
  have hE : ln_eK N τ4 rv bv := hE.of (fun c hc => hf c (by omega) (by omega))
  have hAK : ln_aK N τ4 rv bv := hAK.of (fun c hc => hf c (by omega) (by omega))
  have hHK : ln_hK N τ4 rv := hHK.of (fun c hc => hf c (by omega) (by omega))
  have hWK : ln_wK N τ4 rv bv := hWK.of (fun c hc => hf c (by omega) (by omega))
  have hTK := hT1
  subst hQ0
  exact ln_retU X hr hlk hP hSw rfl ⟨⟨hW, hN, rv, bv, hV, hvv, hE, hAK, hTK, hHK, hWK⟩, rfl⟩ dX9_burn_7
set_option maxHeartbeats 4000000 in
set_option maxRecDepth 100000 in
theorem c_X9_hand (l : Launch) (D : va_G) (g : Nat → ClassId) (a : Nat → Nat) (σ : ln_S) (d : Nat) (N : ln_N) (v : Nat) (hI : ln_CI N v σ) (x : Int32)  (hd : 4 ≤ d) : ln_U l D g (CW a g) yX9_hand (.code yX9_hand cX9_hand 2 (some .int)) d [.ref (a 0), .int x] σ (fun z τ => ln_CI N v τ ∧ z = ln_hl N x 12 0 0) := by
  obtain ⟨hW, hN, rv, bv, hV, hvv, hE, hAK, hTK, hHK, hWK⟩ := hI
  have hN12 := hW.n12
  have hp12 := hW.p12
  have hs1 := ln_sub1 (N 0 0)
  refine ln_ofU (by decide +kernel) (Nat.le_of_ble_eq_true rfl) (fun prg env rum sta mid args below meth cod ls A hr hlk X hA hP hDw hSw hl => ?_)
  have hl : lv_has ls 2 [(0, .ref (a 0)), (1, .int x)] := hl
  generalize hQ0 : (MQ below (va_Qi (fun z τ => ln_CI N v τ ∧ z = ln_hl N x 12 0 0) (fun τ t => va_P D ln_cl (CW a g τ) t.heap) A) args sta 0 0 A) = Q0
  obtain ⟨H, hH⟩ : ∃ H, H = sta.heap := ⟨_, rfl⟩
  obtain ⟨locs, hlo⟩ : ∃ x : List Loc, x = [] := ⟨_, rfl⟩
  rw [← hH] at hP
  have hSw : va_S A sta.heap H locs := by rw [hH, hlo]; exact hSw
  have goal : W prg l env rum sta mid args below meth cod H locs 0 0 Q0 (F0 mid 0 ls []) := ?_
  · rw [hH, hlo] at goal; exact goal
  clear hlo
  refine lv_aload_n X.1 X.2.1 dX9_hand_0 rfl (lv_at hl 0 rfl) ?_
  refine gC_0_5 X hP mF_X9_51 dX9_hand_1 ?_
  refine lv_iload_n X.1 X.2.1 dX9_hand_4 rfl (lv_at hl 1 rfl) ?_
  refine ln_vU X (CW_ad a g) hA (c_X0_bestHand l D g a σ 3 N hW hN rv bv hV hTK x (Nat.le_refl _)) hP hDw hSw 17 rfl rfl mM_X9_168 Y_X0_bestHand rfl (by omega) hl.1 rfl (Nat.le_of_ble_eq_true rfl) dX9_hand_5 ⟨Nat.zero_le _, Nat.zero_le _⟩ (fun r5 τ5 H locs hr5 hP hDw hSw => ?_)
  obtain ⟨hz, hT1, hf⟩ := hr5
  subst hz
  have hN : ln_nC N τ5 := hN.of (fun c hc => hf c (by omega) (by omega))
  have hV : ln_vs τ5 rv bv := hV.of (hf 1 (by omega) (by omega))
  have hE : ln_eK N τ5 rv bv := hE.of (fun c hc => hf c (by omega) (by omega))
  have hAK : ln_aK N τ5 rv bv := hAK.of (fun c hc => hf c (by omega) (by omega))
  have hHK : ln_hK N τ5 rv := hHK.of (fun c hc => hf c (by omega) (by omega))
  have hWK : ln_wK N τ5 rv bv := hWK.of (fun c hc => hf c (by omega) (by omega))
  have hTK := hT1
  subst hQ0
  exact ln_retU X hr hlk hP hSw rfl ⟨⟨hW, hN, rv, bv, hV, hvv, hE, hAK, hTK, hHK, hWK⟩, rfl⟩ dX9_hand_8
set_option maxHeartbeats 4000000 in
set_option maxRecDepth 100000 in
theorem c_X9_burntN (l : Launch) (D : va_G) (g : Nat → ClassId) (a : Nat → Nat) (σ : ln_S) (d : Nat) (x : Int64) (hx : x < 0) (hd : 0 ≤ d) : ln_R l D g (CW a g σ) yX9_burnt (.code yX9_burnt cX9_burnt 3 (some .int)) d [.ref (a 0), .long x] (fun z => z = -2) := by
  refine ln_ofR (by decide +kernel) (Nat.le_of_ble_eq_true rfl) (fun prg env rum sta mid args below meth cod ls hr hlk X hP hl => ?_)
  have hl : lv_has ls 3 [(0, .ref (a 0)), (1, .long x)] := hl
  generalize hQ0 : (MQ below (vp_Si (fun z => z = -2)) args sta 0 0 (fun _ => False)) = Q0
  refine lv_lload_n X.1 X.2.1 dX9_burnt_0 rfl (lv_at hl 1 rfl) ?_
  refine lv_lconst (v := lN 0) X.1 X.2.1 dX9_burnt_1 (by decide) ?_
  refine W.lcmp X.1 X.2.1 dX9_burnt_2 ?_
  refine rn_top (y := ((-1))) (ln_cmpn hx) ?_
  refine lv_if_ge (tgt := 11) X.1 X.2.1 dX9_burnt_3 (by decide) (fun h3 => absurd h3 (by decide)) (fun h3 => ?_)
  refine lv_bipush (v := ((-2))) X.1 X.2.1 dX9_burnt_6 (by decide) ?_
  refine lv_goto (tgt := 19) X.1 X.2.1 dX9_burnt_8 (by decide) ?_
  subst hQ0
  exact ln_retR X hr hlk rfl rfl dX9_burnt_19
set_option maxHeartbeats 4000000 in
set_option maxRecDepth 100000 in
theorem c_X9_burnt (l : Launch) (D : va_G) (g : Nat → ClassId) (a : Nat → Nat) (σ : ln_S) (d : Nat) (N : ln_N) (v : Nat) (hI : ln_CI N v σ) (q : Nat) (hq : q < 2 ^ 63)  (hd : 3 ≤ d) : ln_R l D g (CW a g σ) yX9_burnt (.code yX9_burnt cX9_burnt 3 (some .int)) d [.ref (a 0), .long (lN q)] (fun z => z = ln_bn N 13 0 0 q) := by
  obtain ⟨hW, hN, rv, bv, hV, hvv, hE, hAK, hTK, hHK, hWK⟩ := hI
  have hN12 := hW.n12
  have hp12 := hW.p12
  have hs1 := ln_sub1 (N 0 0)
  refine ln_ofR (by decide +kernel) (Nat.le_of_ble_eq_true rfl) (fun prg env rum sta mid args below meth cod ls hr hlk X hP hl => ?_)
  have hl : lv_has ls 3 [(0, .ref (a 0)), (1, .long (lN q))] := hl
  generalize hQ0 : (MQ below (vp_Si (fun z => z = ln_bn N 13 0 0 q)) args sta 0 0 (fun _ => False)) = Q0
  refine lv_lload_n X.1 X.2.1 dX9_burnt_0 rfl (lv_at hl 1 rfl) ?_
  refine lv_lconst (v := lN 0) X.1 X.2.1 dX9_burnt_1 (by decide) ?_
  refine rn_lcmp0 X (by omega) dX9_burnt_2 ?_
  refine rn_ge0 X (by split <;> decide) (tgt := 11) dX9_burnt_3 (by decide) ?_
  refine lv_aload_n X.1 X.2.1 dX9_burnt_11 rfl (lv_at hl 0 rfl) ?_
  refine gC_0_5 X hP mF_X9_51 dX9_burnt_12 ?_
  refine lv_lload_n X.1 X.2.1 dX9_burnt_15 rfl (lv_at hl 1 rfl) ?_
  refine ln_vR X (c_X0_ticksByHands l D g a σ 2 N hW hN q hq (Nat.le_refl _)) hP 17 rfl rfl mM_X9_171 Y_X0_ticksByHands rfl (by omega) hl.1 rfl (Nat.le_of_ble_eq_true rfl) dX9_burnt_16 ⟨Nat.zero_le _, Nat.zero_le _⟩ (fun r16 hr16 => ?_)
  subst hr16
  subst hQ0
  exact ln_retR X hr hlk rfl rfl dX9_burnt_19
set_option maxHeartbeats 4000000 in
set_option maxRecDepth 100000 in
theorem c_X9_save (l : Launch) (D : va_G) (g : Nat → ClassId) (a : Nat → Nat) (σ : ln_S) (d : Nat) (N : ln_N) (v : Nat) (hI : ln_CI N v σ) (x : Int32)  (hd : 33 ≤ d) : ln_R l D g (CW a g σ) yX9_save (.code yX9_save cX9_save 2 (some .int)) d [.ref (a 0), .int x] (fun z => ln_oSv N x z) := by
  obtain ⟨hW, hN, rv, bv, hV, hvv, hE, hAK, hTK, hHK, hWK⟩ := hI
  have hN12 := hW.n12
  have hp12 := hW.p12
  have hs1 := ln_sub1 (N 0 0)
  refine ln_ofR (by decide +kernel) (Nat.le_of_ble_eq_true rfl) (fun prg env rum sta mid args below meth cod ls hr hlk X hP hl => ?_)
  have hl : lv_has ls 2 [(0, .ref (a 0)), (1, .int x)] := hl
  generalize hQ0 : (MQ below (vp_Si (fun z => ln_oSv N x z)) args sta 0 0 (fun _ => False)) = Q0
  refine lv_aload_n X.1 X.2.1 dX9_save_0 rfl (lv_at hl 0 rfl) ?_
  refine gC_0_0 X hP mF_X9_12 dX9_save_1 ?_
  refine lv_iload_n X.1 X.2.1 dX9_save_4 rfl (lv_at hl 1 rfl) ?_
  refine ln_vR X (c_X4_isSet l D g a σ 1 N hW hN x (Nat.le_refl _)) hP 1 rfl rfl mM_X9_115 Y_X4_isSet rfl (by omega) hl.1 rfl (Nat.le_of_ble_eq_true rfl) dX9_save_5 ⟨Nat.zero_le _, Nat.zero_le _⟩ (fun r5 hr5 => ?_)
  subst hr5
  refine rn_eqB X (tgt := 23) dX9_save_8 (by decide) (fun h8 => ?_) (fun h8 => ?_)
  · skip
    refine lv_bipush (v := ((-2))) X.1 X.2.1 dX9_save_23 (by decide) ?_
    subst hQ0
    exact ln_retR X hr hlk rfl (Or.inl ⟨by first | exact Or.inl h8 | exact Or.inr (by omega), rfl⟩) dX9_save_25
  · skip
    obtain ⟨S, hS, rfl⟩ := ln_inr_t (by omega) h8
    refine lv_aload_n X.1 X.2.1 dX9_save_11 rfl (lv_at hl 0 rfl) ?_
    refine gC_0_0 X hP mF_X9_12 dX9_save_12 ?_
    refine nC_1_0 X hP (v := nI (N 0 0)) hN.n mF_X9_76 dX9_save_15 ?_
    refine lv_bipush (v := nI 10) X.1 X.2.1 dX9_save_18 (by decide) ?_
    refine rn_le X (by omega) (by decide) (tgt := 26) dX9_save_20 (by decide) (fun h20 => ?_) (fun h20 => ?_)
    · skip
      refine lv_aload_n X.1 X.2.1 dX9_save_26 rfl (lv_at hl 0 rfl) ?_
      refine gC_0_6 X hP mF_X9_58 dX9_save_27 ?_
      refine lv_iload_n X.1 X.2.1 dX9_save_30 rfl (lv_at hl 1 rfl) ?_
      refine ln_vR X (c_X2_saved l D g a σ 31 N hW hN S hS (Nat.le_refl _)) hP 19 rfl rfl mM_X9_175 Y_X2_saved rfl (by omega) hl.1 rfl (Nat.le_of_ble_eq_true rfl) dX9_save_31 ⟨Nat.zero_le _, Nat.zero_le _⟩ (fun r31 hr31 => ?_)
      subst hr31
      subst hQ0
      exact ln_retR X hr hlk rfl (Or.inr ⟨S, hS, h20, rfl, rfl⟩) dX9_save_34
    · skip
      refine lv_bipush (v := ((-2))) X.1 X.2.1 dX9_save_23 (by decide) ?_
      subst hQ0
      exact ln_retR X hr hlk rfl (Or.inl ⟨by first | exact Or.inl h8 | exact Or.inr (by omega), rfl⟩) dX9_save_25
set_option maxHeartbeats 4000000 in
set_option maxRecDepth 100000 in
theorem c_X9_wall (l : Launch) (D : va_G) (g : Nat → ClassId) (a : Nat → Nat) (σ : ln_S) (d : Nat) (N : ln_N) (v : Nat) (hI : ln_CI N v σ) (x y : Int32)  (hd : 33 ≤ d) : ln_R l D g (CW a g σ) yX9_wall (.code yX9_wall cX9_wall 3 (some .int)) d [.ref (a 0), .int x, .int y] (fun z => ln_oWl N x y z) := by
  obtain ⟨hW, hN, rv, bv, hV, hvv, hE, hAK, hTK, hHK, hWK⟩ := hI
  have hN12 := hW.n12
  have hp12 := hW.p12
  have hs1 := ln_sub1 (N 0 0)
  refine ln_ofR (by decide +kernel) (Nat.le_of_ble_eq_true rfl) (fun prg env rum sta mid args below meth cod ls hr hlk X hP hl => ?_)
  have hl : lv_has ls 3 [(0, .ref (a 0)), (1, .int x), (2, .int y)] := hl
  generalize hQ0 : (MQ below (vp_Si (fun z => ln_oWl N x y z)) args sta 0 0 (fun _ => False)) = Q0
  refine lv_aload_n X.1 X.2.1 dX9_wall_0 rfl (lv_at hl 0 rfl) ?_
  refine gC_0_0 X hP mF_X9_12 dX9_wall_1 ?_
  refine lv_iload_n X.1 X.2.1 dX9_wall_4 rfl (lv_at hl 1 rfl) ?_
  refine ln_vR X (c_X4_isSet l D g a σ 1 N hW hN x (Nat.le_refl _)) hP 1 rfl rfl mM_X9_115 Y_X4_isSet rfl (by omega) hl.1 rfl (Nat.le_of_ble_eq_true rfl) dX9_wall_5 ⟨Nat.zero_le _, Nat.zero_le _⟩ (fun r5 hr5 => ?_)
  subst hr5
  refine rn_eqB X (tgt := 23) dX9_wall_8 (by decide) (fun h8 => ?_) (fun h8 => ?_)
  · skip
    refine lv_bipush (v := ((-2))) X.1 X.2.1 dX9_wall_23 (by decide) ?_
    subst hQ0
    exact ln_retR X hr hlk rfl (Or.inl ⟨by first | exact Or.inl h8 | exact Or.inr (by omega), rfl⟩) dX9_wall_25
  · skip
    obtain ⟨S, hS, rfl⟩ := ln_inr_t (by omega) h8
    refine lv_aload_n X.1 X.2.1 dX9_wall_11 rfl (lv_at hl 0 rfl) ?_
    refine gC_0_0 X hP mF_X9_12 dX9_wall_12 ?_
    refine nC_1_0 X hP (v := nI (N 0 0)) hN.n mF_X9_76 dX9_wall_15 ?_
    refine lv_bipush (v := nI 10) X.1 X.2.1 dX9_wall_18 (by decide) ?_
    refine rn_le X (by omega) (by decide) (tgt := 26) dX9_wall_20 (by decide) (fun h20 => ?_) (fun h20 => ?_)
    · skip
      refine lv_aload_n X.1 X.2.1 dX9_wall_26 rfl (lv_at hl 0 rfl) ?_
      refine gC_0_6 X hP mF_X9_58 dX9_wall_27 ?_
      refine lv_iload_n X.1 X.2.1 dX9_wall_30 rfl (lv_at hl 1 rfl) ?_
      refine lv_iload_n X.1 X.2.1 dX9_wall_31 rfl (lv_at hl 2 rfl) ?_
      refine ln_vR X (c_X2_bestWall l D g a σ 32 N hW hN S hS y (Nat.le_refl _)) hP 19 rfl rfl mM_X9_178 Y_X2_bestWall rfl (by omega) hl.1 rfl (Nat.le_of_ble_eq_true rfl) dX9_wall_32 ⟨Nat.zero_le _, Nat.zero_le _⟩ (fun r32 hr32 => ?_)
      subst hr32
      subst hQ0
      exact ln_retR X hr hlk rfl (Or.inr ⟨S, hS, h20, rfl, rfl⟩) dX9_wall_35
    · skip
      refine lv_bipush (v := ((-2))) X.1 X.2.1 dX9_wall_23 (by decide) ?_
      subst hQ0
      exact ln_retR X hr hlk rfl (Or.inl ⟨by first | exact Or.inl h8 | exact Or.inr (by omega), rfl⟩) dX9_wall_25
set_option maxHeartbeats 4000000 in
set_option maxRecDepth 100000 in
theorem c_X9_holds (l : Launch) (D : va_G) (g : Nat → ClassId) (a : Nat → Nat) (σ : ln_S) (d : Nat) (N : ln_N) (v : Nat) (hI : ln_CI N v σ) (x : Int32)  (hd : 6 ≤ d) : ln_U l D g (CW a g) yX9_holds (.code yX9_holds cX9_holds 2 (some .int)) d [.ref (a 0), .int x] σ (fun z τ => ln_CI N v τ ∧ ln_oHo N x z) := by
  obtain ⟨hW, hN, rv, bv, hV, hvv, hE, hAK, hTK, hHK, hWK⟩ := hI
  have hN12 := hW.n12
  have hp12 := hW.p12
  have hs1 := ln_sub1 (N 0 0)
  refine ln_ofU (by decide +kernel) (Nat.le_of_ble_eq_true rfl) (fun prg env rum sta mid args below meth cod ls A hr hlk X hA hP hDw hSw hl => ?_)
  have hl : lv_has ls 2 [(0, .ref (a 0)), (1, .int x)] := hl
  generalize hQ0 : (MQ below (va_Qi (fun z τ => ln_CI N v τ ∧ ln_oHo N x z) (fun τ t => va_P D ln_cl (CW a g τ) t.heap) A) args sta 0 0 A) = Q0
  obtain ⟨H, hH⟩ : ∃ H, H = sta.heap := ⟨_, rfl⟩
  obtain ⟨locs, hlo⟩ : ∃ x : List Loc, x = [] := ⟨_, rfl⟩
  rw [← hH] at hP
  have hSw : va_S A sta.heap H locs := by rw [hH, hlo]; exact hSw
  have goal : W prg l env rum sta mid args below meth cod H locs 0 0 Q0 (F0 mid 0 ls []) := ?_
  · rw [hH, hlo] at goal; exact goal
  clear hlo
  refine lv_aload_n X.1 X.2.1 dX9_holds_0 rfl (lv_at hl 0 rfl) ?_
  refine gC_0_0 X hP mF_X9_12 dX9_holds_1 ?_
  refine lv_iload_n X.1 X.2.1 dX9_holds_4 rfl (lv_at hl 1 rfl) ?_
  refine ln_vR X (c_X4_isSet l D g a σ 1 N hW hN x (Nat.le_refl _)) hP 1 rfl rfl mM_X9_115 Y_X4_isSet rfl (by omega) hl.1 rfl (Nat.le_of_ble_eq_true rfl) dX9_holds_5 ⟨Nat.zero_le _, Nat.zero_le _⟩ (fun r5 hr5 => ?_)
  subst hr5
  refine rn_neB X (tgt := 14) dX9_holds_8 (by decide) (fun h8 => ?_) (fun h8 => ?_)
  · skip
    obtain ⟨S, hS, rfl⟩ := ln_inr_t (by omega) h8
    refine lv_aload_n X.1 X.2.1 dX9_holds_14 rfl (lv_at hl 0 rfl) ?_
    refine gC_0_7 X hP mF_X9_65 dX9_holds_15 ?_
    refine ln_vF X (CW_ad a g) hA (c_X8_freshHolding l D g a σ 5 N hW hN rv bv hV hHK (Nat.le_refl _)) hP hDw hSw 20 rfl rfl mM_X9_181 Y_X8_freshHolding rfl (by omega) hl.1 rfl (Nat.le_of_ble_eq_true rfl) dX9_holds_18 ⟨Nat.zero_le _, Nat.zero_le _⟩ (fun τ18 H locs hr18 hP hDw hSw => ?_)
    obtain ⟨hT, hH1, hf⟩ := hr18
    have hN : ln_nC N τ18 := hN.of (fun c hc => hf c (by omega) (by omega))
    have hV : ln_vs τ18 rv bv := hV.of (hf 1 (by omega) (by omega))
    have hE : ln_eK N τ18 rv bv := hE.of (fun c hc => hf c (by omega) (by omega))
    have hAK : ln_aK N τ18 rv bv := hAK.of (fun c hc => hf c (by omega) (by omega))
    have hTK : ln_tK N τ18 rv := hTK.of (fun c hc => hf c (by omega) (by omega))
    have hWK : ln_wK N τ18 rv bv := hWK.of (fun c hc => hf c (by omega) (by omega))
    have hHK := hH1
    refine lv_iload_n X.1 X.2.1 dX9_holds_21 rfl (lv_at hl 1 rfl) ?_
    refine lC_21 X hP (ln_n12 hW hS) (v := ln_b (ln_hd N S)) (hT S hS) dX9_holds_22 ?_
    refine rn_eqB X (tgt := 30) dX9_holds_23 (by decide) (fun h23 => ?_) (fun h23 => ?_)
    · skip
      refine lv_iconst (v := nI 0) X.1 X.2.1 dX9_holds_30 (by decide) ?_
      subst hQ0
      exact ln_retU X hr hlk hP hSw rfl ⟨⟨hW, hN, rv, bv, hV, hvv, hE, hAK, hTK, hHK, hWK⟩, Or.inr ⟨S, hS, rfl, by rw [h23]; rfl⟩⟩ dX9_holds_31
    · skip
      refine lv_iconst (v := nI 1) X.1 X.2.1 dX9_holds_26 (by decide) ?_
      refine lv_goto (tgt := 31) X.1 X.2.1 dX9_holds_27 (by decide) ?_
      subst hQ0
      exact ln_retU X hr hlk hP hSw rfl ⟨⟨hW, hN, rv, bv, hV, hvv, hE, hAK, hTK, hHK, hWK⟩, Or.inr ⟨S, hS, rfl, by rw [h23]; rfl⟩⟩ dX9_holds_31
  · skip
    refine lv_bipush (v := ((-2))) X.1 X.2.1 dX9_holds_11 (by decide) ?_
    subst hQ0
    exact ln_retU X hr hlk hP hSw rfl ⟨⟨hW, hN, rv, bv, hV, hvv, hE, hAK, hTK, hHK, hWK⟩, Or.inl ⟨h8, rfl⟩⟩ dX9_holds_13
set_option maxHeartbeats 4000000 in
set_option maxRecDepth 100000 in
theorem c_X9_guards (l : Launch) (D : va_G) (g : Nat → ClassId) (a : Nat → Nat) (σ : ln_S) (d : Nat) (N : ln_N) (v : Nat) (hI : ln_CI N v σ)  (hd : 7 ≤ d) : ln_U l D g (CW a g) yX9_guards (.code yX9_guards cX9_guards 1 (some .int)) d [.ref (a 0)] σ (fun z τ => ln_CI N v τ ∧ z = nI (ln_gd N (2 ^ N 0 0))) := by
  obtain ⟨hW, hN, rv, bv, hV, hvv, hE, hAK, hTK, hHK, hWK⟩ := hI
  have hN12 := hW.n12
  have hp12 := hW.p12
  have hs1 := ln_sub1 (N 0 0)
  refine ln_ofU (by decide +kernel) (Nat.le_of_ble_eq_true rfl) (fun prg env rum sta mid args below meth cod ls A hr hlk X hA hP hDw hSw hl => ?_)
  have hl : lv_has ls 1 [(0, .ref (a 0))] := hl
  generalize hQ0 : (MQ below (va_Qi (fun z τ => ln_CI N v τ ∧ z = nI (ln_gd N (2 ^ N 0 0))) (fun τ t => va_P D ln_cl (CW a g τ) t.heap) A) args sta 0 0 A) = Q0
  obtain ⟨H, hH⟩ : ∃ H, H = sta.heap := ⟨_, rfl⟩
  obtain ⟨locs, hlo⟩ : ∃ x : List Loc, x = [] := ⟨_, rfl⟩
  rw [← hH] at hP
  have hSw : va_S A sta.heap H locs := by rw [hH, hlo]; exact hSw
  have goal : W prg l env rum sta mid args below meth cod H locs 0 0 Q0 (F0 mid 0 ls []) := ?_
  · rw [hH, hlo] at goal; exact goal
  clear hlo
  refine lv_aload_n X.1 X.2.1 dX9_guards_0 rfl (lv_at hl 0 rfl) ?_
  refine gC_0_7 X hP mF_X9_65 dX9_guards_1 ?_
  refine ln_vU X (CW_ad a g) hA (c_X8_fewestHolding l D g a σ 6 N hW hN rv bv hV hHK (Nat.le_refl _)) hP hDw hSw 20 rfl rfl mM_X9_185 Y_X8_fewestHolding rfl (by omega) hl.1 rfl (Nat.le_of_ble_eq_true rfl) dX9_guards_4 ⟨Nat.zero_le _, Nat.zero_le _⟩ (fun r4 τ4 H locs hr4 hP hDw hSw => ?_)
  obtain ⟨hz, hH1, hf⟩ := hr4
  subst hz
  have hN : ln_nC N τ4 := hN.of (fun c hc => hf c (by omega) (by omega))
  have hV : ln_vs τ4 rv bv := hV.of (hf 1 (by omega) (by omega))
  have hE : ln_eK N τ4 rv bv := hE.of (fun c hc => hf c (by omega) (by omega))
  have hAK : ln_aK N τ4 rv bv := hAK.of (fun c hc => hf c (by omega) (by omega))
  have hTK : ln_tK N τ4 rv := hTK.of (fun c hc => hf c (by omega) (by omega))
  have hWK : ln_wK N τ4 rv bv := hWK.of (fun c hc => hf c (by omega) (by omega))
  have hHK := hH1
  subst hQ0
  exact ln_retU X hr hlk hP hSw rfl ⟨⟨hW, hN, rv, bv, hV, hvv, hE, hAK, hTK, hHK, hWK⟩, rfl⟩ dX9_guards_7
set_option maxHeartbeats 4000000 in
set_option maxRecDepth 100000 in
theorem c_X9_answer (l : Launch) (D : va_G) (g : Nat → ClassId) (a : Nat → Nat) (σ : ln_S) (d : Nat) (N : ln_N) (v : Nat) (hI : ln_CI N v σ) (x y : Int32)  (hd : 7 ≤ d) : ln_U l D g (CW a g) yX9_answer (.code yX9_answer cX9_answer 3 (some .int)) d [.ref (a 0), .int x, .int y] σ (fun z τ => ln_CI N v τ ∧ ln_oAn N x y z) := by
  obtain ⟨hW, hN, rv, bv, hV, hvv, hE, hAK, hTK, hHK, hWK⟩ := hI
  have hN12 := hW.n12
  have hp12 := hW.p12
  have hs1 := ln_sub1 (N 0 0)
  refine ln_ofU (by decide +kernel) (Nat.le_of_ble_eq_true rfl) (fun prg env rum sta mid args below meth cod ls A hr hlk X hA hP hDw hSw hl => ?_)
  have hl : lv_has ls 3 [(0, .ref (a 0)), (1, .int x), (2, .int y)] := hl
  generalize hQ0 : (MQ below (va_Qi (fun z τ => ln_CI N v τ ∧ ln_oAn N x y z) (fun τ t => va_P D ln_cl (CW a g τ) t.heap) A) args sta 0 0 A) = Q0
  obtain ⟨H, hH⟩ : ∃ H, H = sta.heap := ⟨_, rfl⟩
  obtain ⟨locs, hlo⟩ : ∃ x : List Loc, x = [] := ⟨_, rfl⟩
  rw [← hH] at hP
  have hSw : va_S A sta.heap H locs := by rw [hH, hlo]; exact hSw
  have goal : W prg l env rum sta mid args below meth cod H locs 0 0 Q0 (F0 mid 0 ls []) := ?_
  · rw [hH, hlo] at goal; exact goal
  clear hlo
  refine lv_aload_n X.1 X.2.1 dX9_answer_0 rfl (lv_at hl 0 rfl) ?_
  refine gC_0_0 X hP mF_X9_12 dX9_answer_1 ?_
  refine lv_iload_n X.1 X.2.1 dX9_answer_4 rfl (lv_at hl 1 rfl) ?_
  refine ln_vR X (c_X4_isSet l D g a σ 1 N hW hN x (Nat.le_refl _)) hP 1 rfl rfl mM_X9_115 Y_X4_isSet rfl (by omega) hl.1 rfl (Nat.le_of_ble_eq_true rfl) dX9_answer_5 ⟨Nat.zero_le _, Nat.zero_le _⟩ (fun r5 hr5 => ?_)
  subst hr5
  refine rn_eqB X (tgt := 22) dX9_answer_8 (by decide) (fun h8 => ?_) (fun h8 => ?_)
  · skip
    refine lv_bipush (v := ((-2))) X.1 X.2.1 dX9_answer_22 (by decide) ?_
    subst hQ0
    exact ln_retU X hr hlk hP hSw rfl ⟨⟨hW, hN, rv, bv, hV, hvv, hE, hAK, hTK, hHK, hWK⟩, Or.inl ⟨by first | exact Or.inl h8 | exact Or.inr h19, rfl⟩⟩ dX9_answer_24
  · skip
    obtain ⟨S, hS, rfl⟩ := ln_inr_t (by omega) h8
    refine lv_aload_n X.1 X.2.1 dX9_answer_11 rfl (lv_at hl 0 rfl) ?_
    refine gC_0_0 X hP mF_X9_12 dX9_answer_12 ?_
    refine lv_iload_n X.1 X.2.1 dX9_answer_15 rfl (lv_at hl 2 rfl) ?_
    refine ln_vR X (c_X4_isPost l D g a σ 0 N hW hN y (Nat.le_refl _)) hP 1 rfl rfl mM_X9_84 Y_X4_isPost rfl (by omega) hl.1 rfl (Nat.le_of_ble_eq_true rfl) dX9_answer_16 ⟨Nat.zero_le _, Nat.zero_le _⟩ (fun r16 hr16 => ?_)
    subst hr16
    refine rn_neB X (tgt := 25) dX9_answer_19 (by decide) (fun h19 => ?_) (fun h19 => ?_)
    · skip
      obtain ⟨p, hp, rfl⟩ := ln_inr_t (by omega) h19
      refine lv_aload_n X.1 X.2.1 dX9_answer_25 rfl (lv_at hl 0 rfl) ?_
      refine gC_0_7 X hP mF_X9_65 dX9_answer_26 ?_
      refine lv_iload_n X.1 X.2.1 dX9_answer_29 rfl (lv_at hl 1 rfl) ?_
      refine lv_iload_n X.1 X.2.1 dX9_answer_30 rfl (lv_at hl 2 rfl) ?_
      refine ln_vU X (CW_ad a g) hA (c_X8_answerFrom l D g a σ 6 N hW hN rv bv hV hHK S p hS hp (Nat.le_refl _)) hP hDw hSw 20 rfl rfl mM_X9_188 Y_X8_answerFrom rfl (by omega) hl.1 rfl (Nat.le_of_ble_eq_true rfl) dX9_answer_31 ⟨Nat.zero_le _, Nat.zero_le _⟩ (fun r31 τ31 H locs hr31 hP hDw hSw => ?_)
      obtain ⟨hz, hH1, hf⟩ := hr31
      subst hz
      have hN : ln_nC N τ31 := hN.of (fun c hc => hf c (by omega) (by omega))
      have hV : ln_vs τ31 rv bv := hV.of (hf 1 (by omega) (by omega))
      have hE : ln_eK N τ31 rv bv := hE.of (fun c hc => hf c (by omega) (by omega))
      have hAK : ln_aK N τ31 rv bv := hAK.of (fun c hc => hf c (by omega) (by omega))
      have hTK : ln_tK N τ31 rv := hTK.of (fun c hc => hf c (by omega) (by omega))
      have hWK : ln_wK N τ31 rv bv := hWK.of (fun c hc => hf c (by omega) (by omega))
      have hHK := hH1
      subst hQ0
      exact ln_retU X hr hlk hP hSw rfl ⟨⟨hW, hN, rv, bv, hV, hvv, hE, hAK, hTK, hHK, hWK⟩, Or.inr ⟨S, p, hS, hp, rfl, rfl, rfl⟩⟩ dX9_answer_34
    · skip
      refine lv_bipush (v := ((-2))) X.1 X.2.1 dX9_answer_22 (by decide) ?_
      subst hQ0
      exact ln_retU X hr hlk hP hSw rfl ⟨⟨hW, hN, rv, bv, hV, hvv, hE, hAK, hTK, hHK, hWK⟩, Or.inl ⟨by first | exact Or.inl h8 | exact Or.inr h19, rfl⟩⟩ dX9_answer_24
set_option maxHeartbeats 4000000 in
set_option maxRecDepth 100000 in
theorem c_X9_win (l : Launch) (D : va_G) (g : Nat → ClassId) (a : Nat → Nat) (σ : ln_S) (d : Nat) (N : ln_N) (v : Nat) (hI : ln_CI N v σ) (x y : Int32)  (hd : 6 ≤ d) : ln_U l D g (CW a g) yX9_win (.code yX9_win cX9_win 3 (some .int)) d [.ref (a 0), .int x, .int y] σ (fun z τ => ln_CI N v τ ∧ ln_oWn N x y z) := by
  obtain ⟨hW, hN, rv, bv, hV, hvv, hE, hAK, hTK, hHK, hWK⟩ := hI
  have hN12 := hW.n12
  have hp12 := hW.p12
  have hs1 := ln_sub1 (N 0 0)
  refine ln_ofU (by decide +kernel) (Nat.le_of_ble_eq_true rfl) (fun prg env rum sta mid args below meth cod ls A hr hlk X hA hP hDw hSw hl => ?_)
  have hl : lv_has ls 3 [(0, .ref (a 0)), (1, .int x), (2, .int y)] := hl
  generalize hQ0 : (MQ below (va_Qi (fun z τ => ln_CI N v τ ∧ ln_oWn N x y z) (fun τ t => va_P D ln_cl (CW a g τ) t.heap) A) args sta 0 0 A) = Q0
  obtain ⟨H, hH⟩ : ∃ H, H = sta.heap := ⟨_, rfl⟩
  obtain ⟨locs, hlo⟩ : ∃ x : List Loc, x = [] := ⟨_, rfl⟩
  rw [← hH] at hP
  have hSw : va_S A sta.heap H locs := by rw [hH, hlo]; exact hSw
  have goal : W prg l env rum sta mid args below meth cod H locs 0 0 Q0 (F0 mid 0 ls []) := ?_
  · rw [hH, hlo] at goal; exact goal
  clear hlo
  refine lv_iload_n X.1 X.2.1 dX9_win_0 rfl (lv_at hl 1 rfl) ?_
  refine ln_sR X (c_X9_isRule l D g 0 x (Nat.le_refl _)) ln_nil mM_X9_112 Y_X9_isRule rfl (by omega) hl.1 rfl (Nat.le_of_ble_eq_true rfl) dX9_win_1 ⟨Nat.zero_le _, Nat.zero_le _⟩ (fun r1 hr1 => ?_)
  subst hr1
  refine rn_eqB X (tgt := 18) dX9_win_4 (by decide) (fun h4 => ?_) (fun h4 => ?_)
  · skip
    refine lv_bipush (v := ((-2))) X.1 X.2.1 dX9_win_18 (by decide) ?_
    subst hQ0
    exact ln_retU X hr hlk hP hSw rfl ⟨⟨hW, hN, rv, bv, hV, hvv, hE, hAK, hTK, hHK, hWK⟩, Or.inl ⟨by first | exact Or.inl h4 | exact Or.inr h15, rfl⟩⟩ dX9_win_20
  · skip
    obtain ⟨r, hr3, rfl⟩ := ln_inr_t (by decide) h4
    refine lv_aload_n X.1 X.2.1 dX9_win_7 rfl (lv_at hl 0 rfl) ?_
    refine gC_0_0 X hP mF_X9_12 dX9_win_8 ?_
    refine lv_iload_n X.1 X.2.1 dX9_win_11 rfl (lv_at hl 2 rfl) ?_
    refine ln_vR X (c_X4_isSet l D g a σ 1 N hW hN y (Nat.le_refl _)) hP 1 rfl rfl mM_X9_115 Y_X4_isSet rfl (by omega) hl.1 rfl (Nat.le_of_ble_eq_true rfl) dX9_win_12 ⟨Nat.zero_le _, Nat.zero_le _⟩ (fun r12 hr12 => ?_)
    subst hr12
    refine rn_neB X (tgt := 21) dX9_win_15 (by decide) (fun h15 => ?_) (fun h15 => ?_)
    · skip
      obtain ⟨S, hS, rfl⟩ := ln_inr_t (by omega) h15
      refine lv_aload_n X.1 X.2.1 dX9_win_21 rfl (lv_at hl 0 rfl) ?_
      refine gC_0_8 X hP mF_X9_72 dX9_win_22 ?_
      refine lv_iload_n X.1 X.2.1 dX9_win_25 rfl (lv_at hl 1 rfl) ?_
      refine ln_vF X (CW_ad a g) hA (c_X3_winsOf l D g a σ 5 N hW hN rv bv hV hE hWK r hr3 (Nat.le_refl _)) hP hDw hSw 22 rfl rfl mM_X9_191 Y_X3_winsOf rfl (by omega) hl.1 rfl (Nat.le_of_ble_eq_true rfl) dX9_win_26 ⟨Nat.zero_le _, Nat.zero_le _⟩ (fun τ26 H locs hr26 hP hDw hSw => ?_)
      obtain ⟨hT, hW1, hE1, hf⟩ := hr26
      have hN : ln_nC N τ26 := hN.of (fun c hc => hf c (by omega) (by omega) (by omega) (by omega) (by omega) (by omega) (by omega) (by omega))
      have hV : ln_vs τ26 rv bv := hV.of (hf 1 (by omega) (by omega) (by omega) (by omega) (by omega) (by omega) (by omega) (by omega))
      have hAK : ln_aK N τ26 rv bv := hAK.of (fun c hc => hf c (by omega) (by omega) (by omega) (by omega) (by omega) (by omega) (by omega) (by omega))
      have hTK : ln_tK N τ26 rv := hTK.of (fun c hc => hf c (by omega) (by omega) (by omega) (by omega) (by omega) (by omega) (by omega) (by omega))
      have hHK : ln_hK N τ26 rv := hHK.of (fun c hc => hf c (by omega) (by omega) (by omega) (by omega) (by omega) (by omega) (by omega) (by omega))
      have hE := hE1
      have hWK := hW1
      refine lv_iload_n X.1 X.2.1 dX9_win_29 rfl (lv_at hl 2 rfl) ?_
      refine lC_r40 X hP hr3 (ln_n12 hW hS) (v := ln_b (ln_wn N r S)) (hT S hS) dX9_win_30 ?_
      subst hQ0
      exact ln_retU X hr hlk hP hSw rfl ⟨⟨hW, hN, rv, bv, hV, hvv, hE, hAK, hTK, hHK, hWK⟩, Or.inr ⟨r, S, hr3, hS, rfl, rfl, rfl⟩⟩ dX9_win_31
    · skip
      refine lv_bipush (v := ((-2))) X.1 X.2.1 dX9_win_18 (by decide) ?_
      subst hQ0
      exact ln_retU X hr hlk hP hSw rfl ⟨⟨hW, hN, rv, bv, hV, hvv, hE, hAK, hTK, hHK, hWK⟩, Or.inl ⟨by first | exact Or.inl h4 | exact Or.inr h15, rfl⟩⟩ dX9_win_20
set_option maxHeartbeats 4000000 in
set_option maxRecDepth 100000 in
theorem c_X9_first (l : Launch) (D : va_G) (g : Nat → ClassId) (a : Nat → Nat) (σ : ln_S) (d : Nat) (N : ln_N) (v : Nat) (hI : ln_CI N v σ) (x y : Int32)  (hd : 6 ≤ d) : ln_U l D g (CW a g) yX9_first (.code yX9_first cX9_first 3 (some .int)) d [.ref (a 0), .int x, .int y] σ (fun z τ => ln_CI N v τ ∧ ln_oFi N x y z) := by
  obtain ⟨hW, hN, rv, bv, hV, hvv, hE, hAK, hTK, hHK, hWK⟩ := hI
  have hN12 := hW.n12
  have hp12 := hW.p12
  have hs1 := ln_sub1 (N 0 0)
  refine ln_ofU (by decide +kernel) (Nat.le_of_ble_eq_true rfl) (fun prg env rum sta mid args below meth cod ls A hr hlk X hA hP hDw hSw hl => ?_)
  have hl : lv_has ls 3 [(0, .ref (a 0)), (1, .int x), (2, .int y)] := hl
  generalize hQ0 : (MQ below (va_Qi (fun z τ => ln_CI N v τ ∧ ln_oFi N x y z) (fun τ t => va_P D ln_cl (CW a g τ) t.heap) A) args sta 0 0 A) = Q0
  obtain ⟨H, hH⟩ : ∃ H, H = sta.heap := ⟨_, rfl⟩
  obtain ⟨locs, hlo⟩ : ∃ x : List Loc, x = [] := ⟨_, rfl⟩
  rw [← hH] at hP
  have hSw : va_S A sta.heap H locs := by rw [hH, hlo]; exact hSw
  have goal : W prg l env rum sta mid args below meth cod H locs 0 0 Q0 (F0 mid 0 ls []) := ?_
  · rw [hH, hlo] at goal; exact goal
  clear hlo
  refine lv_iload_n X.1 X.2.1 dX9_first_0 rfl (lv_at hl 1 rfl) ?_
  refine ln_sR X (c_X9_isRule l D g 0 x (Nat.le_refl _)) ln_nil mM_X9_112 Y_X9_isRule rfl (by omega) hl.1 rfl (Nat.le_of_ble_eq_true rfl) dX9_first_1 ⟨Nat.zero_le _, Nat.zero_le _⟩ (fun r1 hr1 => ?_)
  subst hr1
  refine rn_eqB X (tgt := 18) dX9_first_4 (by decide) (fun h4 => ?_) (fun h4 => ?_)
  · skip
    refine lv_bipush (v := ((-2))) X.1 X.2.1 dX9_first_18 (by decide) ?_
    subst hQ0
    exact ln_retU X hr hlk hP hSw rfl ⟨⟨hW, hN, rv, bv, hV, hvv, hE, hAK, hTK, hHK, hWK⟩, Or.inl ⟨by first | exact Or.inl h4 | exact Or.inr h15, rfl⟩⟩ dX9_first_20
  · skip
    obtain ⟨r, hr3, rfl⟩ := ln_inr_t (by decide) h4
    refine lv_aload_n X.1 X.2.1 dX9_first_7 rfl (lv_at hl 0 rfl) ?_
    refine gC_0_0 X hP mF_X9_12 dX9_first_8 ?_
    refine lv_iload_n X.1 X.2.1 dX9_first_11 rfl (lv_at hl 2 rfl) ?_
    refine ln_vR X (c_X4_isSet l D g a σ 1 N hW hN y (Nat.le_refl _)) hP 1 rfl rfl mM_X9_115 Y_X4_isSet rfl (by omega) hl.1 rfl (Nat.le_of_ble_eq_true rfl) dX9_first_12 ⟨Nat.zero_le _, Nat.zero_le _⟩ (fun r12 hr12 => ?_)
    subst hr12
    refine rn_neB X (tgt := 21) dX9_first_15 (by decide) (fun h15 => ?_) (fun h15 => ?_)
    · skip
      obtain ⟨S, hS, rfl⟩ := ln_inr_t (by omega) h15
      refine lv_aload_n X.1 X.2.1 dX9_first_21 rfl (lv_at hl 0 rfl) ?_
      refine gC_0_8 X hP mF_X9_72 dX9_first_22 ?_
      refine lv_aload_n X.1 X.2.1 dX9_first_25 rfl (lv_at hl 0 rfl) ?_
      refine gC_0_8 X hP mF_X9_72 dX9_first_26 ?_
      refine lv_iload_n X.1 X.2.1 dX9_first_29 rfl (lv_at hl 1 rfl) ?_
      refine ln_vF X (CW_ad a g) hA (c_X3_winsOf l D g a σ 5 N hW hN rv bv hV hE hWK r hr3 (Nat.le_refl _)) hP hDw hSw 22 rfl rfl mM_X9_191 Y_X3_winsOf rfl (by omega) hl.1 rfl (Nat.le_of_ble_eq_true rfl) dX9_first_30 ⟨Nat.zero_le _, Nat.zero_le _⟩ (fun τ30 H locs hr30 hP hDw hSw => ?_)
      obtain ⟨hT, hW1, hE1, hf⟩ := hr30
      have hN : ln_nC N τ30 := hN.of (fun c hc => hf c (by omega) (by omega) (by omega) (by omega) (by omega) (by omega) (by omega) (by omega))
      have hV : ln_vs τ30 rv bv := hV.of (hf 1 (by omega) (by omega) (by omega) (by omega) (by omega) (by omega) (by omega) (by omega))
      have hAK : ln_aK N τ30 rv bv := hAK.of (fun c hc => hf c (by omega) (by omega) (by omega) (by omega) (by omega) (by omega) (by omega) (by omega))
      have hTK : ln_tK N τ30 rv := hTK.of (fun c hc => hf c (by omega) (by omega) (by omega) (by omega) (by omega) (by omega) (by omega) (by omega))
      have hHK : ln_hK N τ30 rv := hHK.of (fun c hc => hf c (by omega) (by omega) (by omega) (by omega) (by omega) (by omega) (by omega) (by omega))
      have hE := hE1
      have hWK := hW1
      refine lv_aload_n X.1 X.2.1 dX9_first_33 rfl (lv_at hl 0 rfl) ?_
      refine gC_0_1 X hP mF_X9_21 dX9_first_34 ?_
      refine lv_iload_n X.1 X.2.1 dX9_first_37 rfl (lv_at hl 1 rfl) ?_
      refine ln_vF X (CW_ad a g) hA (c_X6_endsOf l D g a τ30 4 N hW hN rv bv hV hE r hr3 (Nat.le_refl _)) hP hDw hSw 7 rfl rfl mM_X9_148 Y_X6_endsOf rfl (by omega) hl.1 rfl (Nat.le_of_ble_eq_true rfl) dX9_first_38 ⟨Nat.zero_le _, Nat.zero_le _⟩ (fun τ38 H locs hr38 hP hDw hSw => ?_)
      obtain ⟨q1, hE1, hf⟩ := hr38
      have hT2 : ln_wT N τ38 r := fun S hS => by rw [hf _ (by omega) (by omega) (by omega) (by omega)]; exact hT S hS
      have hN : ln_nC N τ38 := hN.of (fun c hc => hf c (by omega) (by omega) (by omega) (by omega))
      have hV : ln_vs τ38 rv bv := hV.of (hf 1 (by omega) (by omega) (by omega) (by omega))
      have hAK : ln_aK N τ38 rv bv := hAK.of (fun c hc => hf c (by omega) (by omega) (by omega) (by omega))
      have hTK : ln_tK N τ38 rv := hTK.of (fun c hc => hf c (by omega) (by omega) (by omega) (by omega))
      have hHK : ln_hK N τ38 rv := hHK.of (fun c hc => hf c (by omega) (by omega) (by omega) (by omega))
      have hWK : ln_wK N τ38 rv bv := hWK.of (fun c hc => hf c (by omega) (by omega) (by omega) (by omega))
      have hE := hE1
      refine lv_iload_n X.1 X.2.1 dX9_first_41 rfl (lv_at hl 2 rfl) ?_
      refine ln_vR X (c_X3_winningPost l D g a τ38 1 N hW hN r S hr3 hS q1 (ln_wn N r) (fun T h1 h2 => hT2 T h2) (Nat.le_refl _)) hP 22 rfl rfl mM_X9_195 Y_X3_winningPost rfl (by omega) hl.1 rfl (Nat.le_of_ble_eq_true rfl) dX9_first_42 ⟨Nat.zero_le _, Nat.zero_le _⟩ (fun r42 hr42 => ?_)
      subst hr42
      subst hQ0
      exact ln_retU X hr hlk hP hSw rfl ⟨⟨hW, hN, rv, bv, hV, hvv, hE, hAK, hTK, hHK, hWK⟩, Or.inr ⟨r, S, hr3, hS, rfl, rfl, rfl⟩⟩ dX9_first_45
    · skip
      refine lv_bipush (v := ((-2))) X.1 X.2.1 dX9_first_18 (by decide) ?_
      subst hQ0
      exact ln_retU X hr hlk hP hSw rfl ⟨⟨hW, hN, rv, bv, hV, hvv, hE, hAK, hTK, hHK, hWK⟩, Or.inl ⟨by first | exact Or.inl h4 | exact Or.inr h15, rfl⟩⟩ dX9_first_20
