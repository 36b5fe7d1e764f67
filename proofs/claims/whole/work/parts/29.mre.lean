theorem ln_cmpn {x : Int64} (h : x < 0) : lg_cmp x (lN 0) = -1 := by
  have h1 : x < lN 0 := h
  have h2 : ¬ lN 0 < x := fun q => by
    have a1 := Int64.lt_iff_toInt_lt.mp h1
    have a2 := Int64.lt_iff_toInt_lt.mp q
    omega
  have h3 : x ≠ lN 0 := fun q => by
    have a1 := Int64.lt_iff_toInt_lt.mp h1
    rw [q] at a1
    omega
  simp [lg_cmp, h2, h3]
theorem lN_of {x : Int64} (h : ¬ x < 0) : ∃ q : Nat, q < 2 ^ 63 ∧ x = lN q := by
  have h1 : ¬ x.toInt < 0 := fun z => h (Int64.lt_iff_toInt_lt.mpr z)
  have h2 := x.toInt_lt
  refine ⟨x.toInt.toNat, by omega, ?_⟩
  apply Int64.toInt_inj.mp
  rw [show (lN x.toInt.toNat).toInt = ((x.toInt.toNat : Nat) : Int) from lg_ofNat_toInt (by omega)]
  omega
def ln_oBu (N : ln_N) (x : Int64) (z : Int32) : Prop := (x < 0 ∧ z = -2) ∨ ∃ q, q < 2 ^ 63 ∧ x = lN q ∧ z = ln_bn N 13 0 0 q
theorem lN_inj {p q : Nat} (hp : p < 2 ^ 63) (hq : q < 2 ^ 63) (h : lN p = lN q) : p = q := by
  have h1 : (lN p).toInt = (p : Int) := lg_ofNat_toInt (by omega)
  have h2 : (lN q).toInt = (q : Int) := lg_ofNat_toInt (by omega)
  rw [h, h2] at h1
  omega
theorem lN_nn {q : Nat} (h : q < 2 ^ 63) : ¬ lN q < 0 := fun z => by
  have h1 : (lN q).toInt = (q : Int) := lg_ofNat_toInt (by omega)
  have h2 := Int64.lt_iff_toInt_lt.mp z
  rw [h1] at h2
  have h3 : (0 : Int64).toInt = 0 := rfl
  omega
theorem ln_oBu_one {N : ln_N} {x : Int64} {z w : Int32} (h : ln_oBu N x z) (h2 : ln_oBu N x w) : z = w := by
  rcases h with ⟨a1, a2⟩ | ⟨q, hq, hx, hz⟩ <;> rcases h2 with ⟨b1, b2⟩ | ⟨r, hr, hy, hw⟩
  · rw [a2, b2]
  · rw [hy] at a1; exact absurd a1 (lN_nn hr)
  · rw [hx] at b1; exact absurd b1 (lN_nn hq)
  · have e := lN_inj hq hr (hx.symm.trans hy)
    subst e
    rw [hz, hw]
def ln_wh (N : ln_N) (p : Nat) (y : Int32) : Int32 := if y = nI 0 then nI (N 1 p) else if y = nI 1 then nI (N 2 p) else if y = nI 2 then nI (N 3 p) else if y = nI 3 then nI (N 4 p) else -2
theorem ln_wh_0 {N : ln_N} {p : Nat} {y : Int32} (h : y = nI 0) : nI (N 1 p) = ln_wh N p y := (if_pos h).symm
theorem ln_wh_1 {N : ln_N} {p : Nat} {y : Int32} (h : y = nI 1) : nI (N 2 p) = ln_wh N p y := by unfold ln_wh; rw [h, if_neg (by decide), if_pos rfl]
theorem ln_wh_2 {N : ln_N} {p : Nat} {y : Int32} (h : y = nI 2) : nI (N 3 p) = ln_wh N p y := by unfold ln_wh; rw [h, if_neg (by decide), if_neg (by decide), if_pos rfl]
theorem ln_wh_3 {N : ln_N} {p : Nat} {y : Int32} (h : y = nI 3) : nI (N 4 p) = ln_wh N p y := by unfold ln_wh; rw [h, if_neg (by decide), if_neg (by decide), if_neg (by decide), if_pos rfl]
theorem ln_wh_4 {N : ln_N} {p : Nat} {y : Int32} (h0 : y ≠ nI 0) (h1 : y ≠ nI 1) (h2 : y ≠ nI 2) (h3 : y ≠ nI 3) : -2 = ln_wh N p y := by unfold ln_wh; rw [if_neg h0, if_neg h1, if_neg h2, if_neg h3]
def ln_oOf (N : ln_N) (x y z : Int32) : Prop := (ln_inr x (N 0 0) = false ∧ z = -2) ∨ ∃ p, p < N 0 0 ∧ x = nI p ∧ z = ln_wh N p y
theorem ln_oOf_one {N : ln_N} (hW : ln_wf N) {x y z w : Int32} (h : ln_oOf N x y z) (h2 : ln_oOf N x y w) : z = w := by
  have hn := hW.n12
  rcases h with ⟨a1, a2⟩ | ⟨S, hS, hx, hz⟩ <;> rcases h2 with ⟨b1, b2⟩ | ⟨T, hT, hy, hw⟩
  · rw [a2, b2]
  · exact (ln_r_in hT (by omega) hy a1).elim
  · exact (ln_r_in hS (by omega) hx b1).elim
  · have e := ln_s_one (by omega) hS hT hx hy
    subst e
    rw [hz, hw]
def ln_oGo (N : ln_N) : Int32 → Int32 → Int32 → Prop := ln_oRS 3 (fun r S => nI (ln_end N r S)) N
def ln_oTi (N : ln_N) : Int32 → Int32 → Int32 → Prop := ln_oRS 3 (fun r S => nI (ln_et N r S)) N
/-- a rule, a set, a post -/
def ln_oRP (F : Nat → Nat → Nat → Int32) (N : ln_N) (x y u z : Int32) : Prop := ((ln_inr x 3 = false ∨ ln_inr y (2 ^ N 0 0) = false ∨ ln_inr u (N 0 0) = false) ∧ z = -2) ∨ ∃ r S p, r < 3 ∧ S < 2 ^ N 0 0 ∧ p < N 0 0 ∧ x = nI r ∧ y = nI S ∧ u = nI p ∧ z = F r S p
theorem ln_oRP_one {F : Nat → Nat → Nat → Int32} {N : ln_N} (hW : ln_wf N) {x y u z w : Int32} (h : ln_oRP F N x y u z) (h2 : ln_oRP F N x y u w) : z = w := by
  have hp := hW.p12
  have hn := hW.n12
  rcases h with ⟨a1, a2⟩ | ⟨r, S, p, hr, hS, hp1, hx, hy, hu, hz⟩ <;> rcases h2 with ⟨b1, b2⟩ | ⟨r2, S2, p2, hr2, hS2, hp2, hx2, hy2, hu2, hz2⟩
  · rw [a2, b2]
  · rcases a1 with a1 | a1 | a1
    · exact (ln_r_in hr2 (by omega) hx2 a1).elim
    · exact (ln_r_in hS2 (by omega) hy2 a1).elim
    · exact (ln_r_in hp2 (by omega) hu2 a1).elim
  · rcases b1 with a1 | a1 | a1
    · exact (ln_r_in hr (by omega) hx a1).elim
    · exact (ln_r_in hS (by omega) hy a1).elim
    · exact (ln_r_in hp1 (by omega) hu a1).elim
  · have e := ln_s_one (by omega) hr hr2 hx hx2
    have e2 := ln_s_one (by omega) hS hS2 hy hy2
    have e3 := ln_s_one (by omega) hp1 hp2 hu hu2
    subst e e2 e3
    rw [hz, hz2]
def ln_oWe (N : ln_N) : Int32 → Int32 → Int32 → Int32 → Prop := ln_oRP (fun r S p => ln_cm N r S p) N
def ln_oBr (N : ln_N) : Int32 → Int32 → Int32 → Int32 → Prop := ln_oRP (fun r S p => ln_br N r S p) N
theorem ln_pw_ext {f g : Nat → Bool} {k m : Nat} (hkm : k ≤ m) (h : ∀ j, j < k → g j = f j) (h2 : ∀ j, k ≤ j → j < m → g j = false) : ln_pw g m = ln_pw f k := by
  by_cases e : ln_fs f k < k
  · have e1 : ln_pw f k = 2 ^ ln_fs f k := if_pos e
    rw [e1]
    exact (ln_pw_eq (by rw [h _ e]; exact ln_fs_yes e) (fun j hj => by rw [h j (by omega)]; exact ln_fs_no hj) (by omega)).symm
  · have e1 : ln_pw f k = 0 := if_neg e
    rw [e1]
    refine (ln_pw_none (fun j hj => ?_)).symm
    by_cases e2 : j < k
    · rw [h j e2]
      cases hf : f j with
      | false => rfl
      | true => exact absurd (ln_fs_ex e2 hf) e
    · exact h2 j (by omega) hj
def ln_bg (N : ln_N) (r t on p : Nat) : Nat → Bool := fun q => on.testBit q && (if r = 2 ∧ t = 1 then (N 3 q).testBit p else decide (ln_df (N 3 q) on = 2 ^ p))
theorem ln_bg_a {N : ln_N} {r t on p q : Nat} (h : on.testBit q = false) : ln_bg N r t on p q = false := by unfold ln_bg; rw [h]; rfl
theorem ln_bg_b {N : ln_N} {r t on p q : Nat} (h : r = 2 ∧ t = 1) (h2 : (N 3 q).testBit p = false) : ln_bg N r t on p q = false := by unfold ln_bg; rw [if_pos h, h2, Bool.and_false]
theorem ln_bg_c {N : ln_N} {r t on p q : Nat} (h : ¬ (r = 2 ∧ t = 1)) (h2 : ln_df (N 3 q) on ≠ 2 ^ p) : ln_bg N r t on p q = false := by unfold ln_bg; rw [if_neg h, decide_eq_false h2, Bool.and_false]
theorem ln_bg_d {N : ln_N} {r t on p q : Nat} (h0 : on.testBit q = true) (h : r = 2 ∧ t = 1) (h2 : (N 3 q).testBit p = true) : ln_bg N r t on p q = true := by unfold ln_bg; rw [if_pos h, h2, h0]; rfl
theorem ln_bg_e {N : ln_N} {r t on p q : Nat} (h0 : on.testBit q = true) (h : ¬ (r = 2 ∧ t = 1)) (h2 : ln_df (N 3 q) on = 2 ^ p) : ln_bg N r t on p q = true := by unfold ln_bg; rw [if_neg h, decide_eq_true h2, h0]; rfl
theorem ln_br_g {N : ln_N} (hW : ln_wf N) {r S p : Nat} (hS : S < 2 ^ N 0 0) (c1 : ln_fs (ln_stb N r S p) (ln_et N r S + 1) < ln_et N r S + 1) (c2 : ln_fs (ln_stb N r S p) (ln_et N r S + 1) ≠ 0) (c3 : r ≠ 0) : ln_br N r S p = nI (ln_pw (ln_bg N r (ln_fs (ln_stb N r S p) (ln_et N r S + 1)) (ln_st N r S (ln_fs (ln_stb N r S p) (ln_et N r S + 1) - 1)) p) (N 0 0)) := by
  unfold ln_br
  rw [if_pos c1, if_neg c2, if_neg c3]
  generalize ln_fs (ln_stb N r S p) (ln_et N r S + 1) = t at c1 c2
  have hon := ln_st_lt hW r hS (t - 1)
  by_cases e : r = 2 ∧ t = 1
  · rw [if_pos e]
    unfold ln_lw
    rw [ln_pw_ext (f := ln_bg N r t (ln_st N r S (t - 1)) p) hW.n12 (fun j hj => ?_) (fun j hj _ => ?_)]
    · unfold ln_bg
      rw [if_pos e, ln_aw hW, ((hW.2 j).2.2 p).2.1]
    · rw [Nat.testBit_and, Nat.testBit_lt_two_pow (Nat.lt_of_lt_of_le hon (Nat.pow_le_pow_right (by decide) hj))]; rfl
  · rw [if_neg e]
    rw [ln_pw_ext (g := ln_cb1 N (ln_st N r S (t - 1)) p) (f := ln_bg N r t (ln_st N r S (t - 1)) p) (Nat.le_refl _) (fun j hj => ?_) (fun j h1 h2 => absurd h1 (by omega))]
    unfold ln_bg ln_cb1
    rw [if_neg e]
set_option maxHeartbeats 4000000 in
set_option maxRecDepth 100000 in
theorem c_X10_burntN (l : Launch) (D : va_G) (g : Nat → ClassId) (a : Nat → Nat) (σ : ln_S) (d : Nat) (x : Int64) (hx : x < 0) (hd : 0 ≤ d) : ln_R l D g (MW a g σ) yX10_burnt (.code yX10_burnt cX10_burnt 9 (some .int)) d [.ref (a 0), .long x] (fun z => z = -2) := by
  refine ln_ofR (by decide +kernel) (Nat.le_of_ble_eq_true rfl) (fun prg env rum sta mid args below meth cod ls hr hlk X hP hl => ?_)
  have hl : lv_has ls 9 [(0, .ref (a 0)), (1, .long x)] := hl
  generalize hQ0 : (MQ below (vp_Si (fun z => z = -2)) args sta 0 0 (fun _ => False)) = Q0
  refine lv_lload_n X.1 X.2.1 dX10_burnt_0 rfl (lv_at hl 1 rfl) ?_
  refine lv_lconst (v := lN 0) X.1 X.2.1 dX10_burnt_1 (by decide) ?_
  refine W.lcmp X.1 X.2.1 dX10_burnt_2 ?_
  refine rn_top (y := ((-1))) (ln_cmpn hx) ?_
  refine lv_if_ge (tgt := 9) X.1 X.2.1 dX10_burnt_3 (by decide) (fun h3 => absurd h3 (by decide)) (fun h3 => ?_)
  refine lv_bipush (v := ((-2))) X.1 X.2.1 dX10_burnt_6 (by decide) ?_
  subst hQ0
  exact ln_retR X hr hlk rfl rfl dX10_burnt_8
set_option maxHeartbeats 4000000 in
set_option maxRecDepth 100000 in
theorem c_X10_count (l : Launch) (D : va_G) (g : Nat → ClassId) (a : Nat → Nat) (σ : ln_S) (d : Nat) (N : ln_N) (hW : ln_wf N) (hN : ln_nM N σ)  (hd : 0 ≤ d) : ln_R l D g (MW a g σ) yX10_count (.code yX10_count cX10_count 1 (some .int)) d [.ref (a 0)] (fun z => z = nI (N 0 0)) := by
  refine ln_ofR (by decide +kernel) (Nat.le_of_ble_eq_true rfl) (fun prg env rum sta mid args below meth cod ls hr hlk X hP hl => ?_)
  have hl : lv_has ls 1 [(0, .ref (a 0))] := hl
  generalize hQ0 : (MQ below (vp_Si (fun z => z = nI (N 0 0))) args sta 0 0 (fun _ => False)) = Q0
  refine lv_aload_n X.1 X.2.1 dX10_count_0 rfl (lv_at hl 0 rfl) ?_
  refine gM_0_0 X hP (v := nI (N 0 0)) hN.n mF_X10_48 dX10_count_1 ?_
  subst hQ0
  exact ln_retR X hr hlk rfl rfl dX10_count_4
set_option maxHeartbeats 4000000 in
set_option maxRecDepth 100000 in
theorem c_X10_of (l : Launch) (D : va_G) (g : Nat → ClassId) (a : Nat → Nat) (σ : ln_S) (d : Nat) (N : ln_N) (hW : ln_wf N) (hN : ln_nM N σ) (x y : Int32) (hd : 2 ≤ d) : ln_R l D g (MW a g σ) yX10_of (.code yX10_of cX10_of 3 (some .int)) d [.ref (a 0), .int x, .int y] (fun z => ln_oOf N x y z) := by
  have hN12 := hW.n12
  have hp12 := hW.p12
  have hs1 := ln_sub1 (N 0 0)
  refine ln_ofR (by decide +kernel) (Nat.le_of_ble_eq_true rfl) (fun prg env rum sta mid args below meth cod ls hr hlk X hP hl => ?_)
  have hl : lv_has ls 3 [(0, .ref (a 0)), (1, .int x), (2, .int y)] := hl
  generalize hQ0 : (MQ below (vp_Si (fun z => ln_oOf N x y z)) args sta 0 0 (fun _ => False)) = Q0
  refine lv_aload_n X.1 X.2.1 dX10_of_0 rfl (lv_at hl 0 rfl) ?_
  refine lv_iload_n X.1 X.2.1 dX10_of_1 rfl (lv_at hl 1 rfl) ?_
  refine ln_vR X (c_X10_isPost l D g a σ 1 N hW hN x (Nat.le_refl _)) hP 0 rfl rfl mM_X10_59 Y_X10_isPost rfl (by omega) hl.1 rfl (Nat.le_of_ble_eq_true rfl) dX10_of_2 ⟨Nat.zero_le _, Nat.zero_le _⟩ (fun r2 hr2 => ?_)
  subst hr2
  refine rn_neB X (tgt := 11) dX10_of_5 (by decide) (fun h5 => ?_) (fun h5 => ?_)
  · skip
    obtain ⟨p, hp, rfl⟩ := ln_inr_t (by omega) h5
    refine lv_iload_n X.1 X.2.1 dX10_of_11 rfl (lv_at hl 2 rfl) ?_
    refine lv_if_ne (tgt := 24) X.1 X.2.1 dX10_of_12 (by decide) (fun h12 => ?_) (fun h12 => ?_)
    · skip
      refine lv_iload_n X.1 X.2.1 dX10_of_24 rfl (lv_at hl 2 rfl) ?_
      refine lv_iconst (v := nI 1) X.1 X.2.1 dX10_of_25 (by decide) ?_
      refine lv_icmp_ne (tgt := 38) X.1 X.2.1 dX10_of_26 (by decide) (fun h26 => ?_) (fun h26 => ?_)
      · skip
        refine lv_iload_n X.1 X.2.1 dX10_of_38 rfl (lv_at hl 2 rfl) ?_
        refine lv_iconst (v := nI 2) X.1 X.2.1 dX10_of_39 (by decide) ?_
        refine lv_icmp_ne (tgt := 51) X.1 X.2.1 dX10_of_40 (by decide) (fun h40 => ?_) (fun h40 => ?_)
        · skip
          refine lv_iload_n X.1 X.2.1 dX10_of_51 rfl (lv_at hl 2 rfl) ?_
          refine lv_iconst (v := nI 3) X.1 X.2.1 dX10_of_52 (by decide) ?_
          refine lv_icmp_ne (tgt := 64) X.1 X.2.1 dX10_of_53 (by decide) (fun h53 => ?_) (fun h53 => ?_)
          · skip
            refine lv_bipush (v := ((-2))) X.1 X.2.1 dX10_of_64 (by decide) ?_
            subst hQ0
            exact ln_retR X hr hlk rfl (Or.inr ⟨p, hp, rfl, by first | exact ln_wh_0 h12 | exact ln_wh_1 h26 | exact ln_wh_2 h40 | exact ln_wh_3 h53 | exact ln_wh_4 h12 h26 h40 h53⟩) dX10_of_66
          · skip
            refine lv_aload_n X.1 X.2.1 dX10_of_56 rfl (lv_at hl 0 rfl) ?_
            refine lv_iload_n X.1 X.2.1 dX10_of_57 rfl (lv_at hl 1 rfl) ?_
            refine ln_vR X (c_X10_ahead l D g a σ 0 N hW hN p (by omega) (Nat.le_refl _)) hP 0 rfl rfl mM_X10_67 Y_X10_ahead rfl (by omega) hl.1 rfl (Nat.le_of_ble_eq_true rfl) dX10_of_58 ⟨Nat.zero_le _, Nat.zero_le _⟩ (fun r58 hr58 => ?_)
            subst hr58
            refine lv_goto (tgt := 66) X.1 X.2.1 dX10_of_61 (by decide) ?_
            subst hQ0
            exact ln_retR X hr hlk rfl (Or.inr ⟨p, hp, rfl, by first | exact ln_wh_0 h12 | exact ln_wh_1 h26 | exact ln_wh_2 h40 | exact ln_wh_3 h53 | exact ln_wh_4 h12 h26 h40 h53⟩) dX10_of_66
        · skip
          refine lv_aload_n X.1 X.2.1 dX10_of_43 rfl (lv_at hl 0 rfl) ?_
          refine lv_iload_n X.1 X.2.1 dX10_of_44 rfl (lv_at hl 1 rfl) ?_
          refine ln_vR X (c_X10_behind l D g a σ 0 N hW hN p (by omega) (Nat.le_refl _)) hP 0 rfl rfl mM_X10_63 Y_X10_behind rfl (by omega) hl.1 rfl (Nat.le_of_ble_eq_true rfl) dX10_of_45 ⟨Nat.zero_le _, Nat.zero_le _⟩ (fun r45 hr45 => ?_)
          subst hr45
          refine lv_goto (tgt := 66) X.1 X.2.1 dX10_of_48 (by decide) ?_
          subst hQ0
          exact ln_retR X hr hlk rfl (Or.inr ⟨p, hp, rfl, by first | exact ln_wh_0 h12 | exact ln_wh_1 h26 | exact ln_wh_2 h40 | exact ln_wh_3 h53 | exact ln_wh_4 h12 h26 h40 h53⟩) dX10_of_66
      · skip
        refine lv_aload_n X.1 X.2.1 dX10_of_29 rfl (lv_at hl 0 rfl) ?_
        refine gM_0_3 X hP mF_X10_16 dX10_of_30 ?_
        refine lv_iload_n X.1 X.2.1 dX10_of_33 rfl (lv_at hl 1 rfl) ?_
        refine lM_3 X hP (by omega) (v := nI (N 2 p)) (hN.pr (by omega)) dX10_of_34 ?_
        refine lv_goto (tgt := 66) X.1 X.2.1 dX10_of_35 (by decide) ?_
        subst hQ0
        exact ln_retR X hr hlk rfl (Or.inr ⟨p, hp, rfl, by first | exact ln_wh_0 h12 | exact ln_wh_1 h26 | exact ln_wh_2 h40 | exact ln_wh_3 h53 | exact ln_wh_4 h12 h26 h40 h53⟩) dX10_of_66
    · skip
      refine lv_aload_n X.1 X.2.1 dX10_of_15 rfl (lv_at hl 0 rfl) ?_
      refine gM_0_2 X hP mF_X10_13 dX10_of_16 ?_
      refine lv_iload_n X.1 X.2.1 dX10_of_19 rfl (lv_at hl 1 rfl) ?_
      refine lM_2 X hP (by omega) (v := nI (N 1 p)) (hN.b (by omega)) dX10_of_20 ?_
      refine lv_goto (tgt := 66) X.1 X.2.1 dX10_of_21 (by decide) ?_
      subst hQ0
      exact ln_retR X hr hlk rfl (Or.inr ⟨p, hp, rfl, by first | exact ln_wh_0 h12 | exact ln_wh_1 h26 | exact ln_wh_2 h40 | exact ln_wh_3 h53 | exact ln_wh_4 h12 h26 h40 h53⟩) dX10_of_66
  · skip
    refine lv_bipush (v := ((-2))) X.1 X.2.1 dX10_of_8 (by decide) ?_
    subst hQ0
    exact ln_retR X hr hlk rfl (Or.inl ⟨h5, rfl⟩) dX10_of_10
set_option maxHeartbeats 4000000 in
set_option maxRecDepth 100000 in
theorem c_X10_go (l : Launch) (D : va_G) (g : Nat → ClassId) (a : Nat → Nat) (σ : ln_S) (d : Nat) (N : ln_N) (hI : ln_MI N σ) (x y : Int32) (hd : 4 ≤ d) : ln_U l D g (MW a g) yX10_go (.code yX10_go cX10_go 3 (some .int)) d [.ref (a 0), .int x, .int y] σ (fun z τ => ln_MI N τ ∧ ln_oGo N x y z) := by
  obtain ⟨hW, hN, hK⟩ := hI
  have hN12 := hW.n12
  have hp12 := hW.p12
  have hs1 := ln_sub1 (N 0 0)
  refine ln_ofU (by decide +kernel) (Nat.le_of_ble_eq_true rfl) (fun prg env rum sta mid args below meth cod ls A hr hlk X hA hP hDw hSw hl => ?_)
  have hl : lv_has ls 3 [(0, .ref (a 0)), (1, .int x), (2, .int y)] := hl
  generalize hQ0 : (MQ below (va_Qi (fun z τ => ln_MI N τ ∧ ln_oGo N x y z) (fun τ t => va_P D ln_cl (MW a g τ) t.heap) A) args sta 0 0 A) = Q0
  obtain ⟨H, hH⟩ : ∃ H, H = sta.heap := ⟨_, rfl⟩
  obtain ⟨locs, hlo⟩ : ∃ x : List Loc, x = [] := ⟨_, rfl⟩
  rw [← hH] at hP
  have hSw : va_S A sta.heap H locs := by rw [hH, hlo]; exact hSw
  have goal : W prg l env rum sta mid args below meth cod H locs 0 0 Q0 (F0 mid 0 ls []) := ?_
  · rw [hH, hlo] at goal; exact goal
  clear hlo
  refine lv_iload_n X.1 X.2.1 dX10_go_0 rfl (lv_at hl 1 rfl) ?_
  refine ln_sR X (c_X10_isRule l D g 1 x (Nat.le_refl _)) ln_nil mM_X10_95 Y_X10_isRule rfl (by omega) hl.1 rfl (Nat.le_of_ble_eq_true rfl) dX10_go_1 ⟨Nat.zero_le _, Nat.zero_le _⟩ (fun r1 hr1 => ?_)
  subst hr1
  refine rn_eqB X (tgt := 24) dX10_go_4 (by decide) (fun h4 => ?_) (fun h4 => ?_)
  · skip
    refine lv_bipush (v := ((-2))) X.1 X.2.1 dX10_go_24 (by decide) ?_
    subst hQ0
    exact ln_retU X hr hlk hP hSw rfl ⟨⟨hW, hN, hK⟩, by first | exact Or.inl ⟨Or.inl h4, rfl⟩ | exact Or.inl ⟨Or.inr h12, rfl⟩ | exact Or.inr ⟨r, S, hr3, hS, rfl, rfl, rfl⟩⟩ dX10_go_26
  · skip
    obtain ⟨r, hr3, rfl⟩ := ln_inr_t (by decide) h4
    refine lv_aload_n X.1 X.2.1 dX10_go_7 rfl (lv_at hl 0 rfl) ?_
    refine lv_iload_n X.1 X.2.1 dX10_go_8 rfl (lv_at hl 2 rfl) ?_
    refine ln_vR X (c_X10_isSet l D g a σ 0 N hW hN y (Nat.le_refl _)) hP 0 rfl rfl mM_X10_98 Y_X10_isSet rfl (by omega) hl.1 rfl (Nat.le_of_ble_eq_true rfl) dX10_go_9 ⟨Nat.zero_le _, Nat.zero_le _⟩ (fun r9 hr9 => ?_)
    subst hr9
    refine rn_eqB X (tgt := 24) dX10_go_12 (by decide) (fun h12 => ?_) (fun h12 => ?_)
    · skip
      refine lv_bipush (v := ((-2))) X.1 X.2.1 dX10_go_24 (by decide) ?_
      subst hQ0
      exact ln_retU X hr hlk hP hSw rfl ⟨⟨hW, hN, hK⟩, by first | exact Or.inl ⟨Or.inl h4, rfl⟩ | exact Or.inl ⟨Or.inr h12, rfl⟩ | exact Or.inr ⟨r, S, hr3, hS, rfl, rfl, rfl⟩⟩ dX10_go_26
    · skip
      obtain ⟨S, hS, rfl⟩ := ln_inr_t (by omega) h12
      refine lv_aload_n X.1 X.2.1 dX10_go_15 rfl (lv_at hl 0 rfl) ?_
      refine lv_iload_n X.1 X.2.1 dX10_go_16 rfl (lv_at hl 1 rfl) ?_
      refine lv_iload_n X.1 X.2.1 dX10_go_17 rfl (lv_at hl 2 rfl) ?_
      refine ln_vU X (MW_ad a g) hA (c_X10_runs l D g a σ 3 N hW hN r S hr3 hS (Nat.le_refl _)) hP hDw hSw 0 rfl rfl mM_X10_91 Y_X10_runs rfl (by omega) hl.1 rfl (Nat.le_of_ble_eq_true rfl) dX10_go_18 ⟨Nat.zero_le _, Nat.zero_le _⟩ (fun r18 τ18 H locs hr18 hP hDw hSw => ?_)
      obtain ⟨hz, hR, hf1, hf2⟩ := hr18
      subst hz
      have hN : ln_nM N τ18 := hN.of (hf2 0 (by decide)) (fun c h1 h2 => hf1 c (by omega) (by omega))
      have hK : ln_MK N τ18 99 := hK.of (hf2 1 (by decide)) (fun c h1 h2 h3 => hf1 c (by omega) (by omega))
      refine lv_goto (tgt := 26) X.1 X.2.1 dX10_go_21 (by decide) ?_
      subst hQ0
      exact ln_retU X hr hlk hP hSw rfl ⟨⟨hW, hN, hK⟩, by first | exact Or.inl ⟨Or.inl h4, rfl⟩ | exact Or.inl ⟨Or.inr h12, rfl⟩ | exact Or.inr ⟨r, S, hr3, hS, rfl, rfl, rfl⟩⟩ dX10_go_26
set_option maxHeartbeats 4000000 in
set_option maxRecDepth 100000 in
theorem c_X10_ticks (l : Launch) (D : va_G) (g : Nat → ClassId) (a : Nat → Nat) (σ : ln_S) (d : Nat) (N : ln_N) (hI : ln_MI N σ) (x y : Int32) (hd : 4 ≤ d) : ln_U l D g (MW a g) yX10_ticks (.code yX10_ticks cX10_ticks 4 (some .int)) d [.ref (a 0), .int x, .int y] σ (fun z τ => ln_MI N τ ∧ ln_oTi N x y z) := by
  obtain ⟨hW, hN, hK⟩ := hI
  have hN12 := hW.n12
  have hp12 := hW.p12
  have hs1 := ln_sub1 (N 0 0)
  refine ln_ofU (by decide +kernel) (Nat.le_of_ble_eq_true rfl) (fun prg env rum sta mid args below meth cod ls A hr hlk X hA hP hDw hSw hl => ?_)
  have hl : lv_has ls 4 [(0, .ref (a 0)), (1, .int x), (2, .int y)] := hl
  generalize hQ0 : (MQ below (va_Qi (fun z τ => ln_MI N τ ∧ ln_oTi N x y z) (fun τ t => va_P D ln_cl (MW a g τ) t.heap) A) args sta 0 0 A) = Q0
  obtain ⟨H, hH⟩ : ∃ H, H = sta.heap := ⟨_, rfl⟩
  obtain ⟨locs, hlo⟩ : ∃ x : List Loc, x = [] := ⟨_, rfl⟩
  rw [← hH] at hP
  have hSw : va_S A sta.heap H locs := by rw [hH, hlo]; exact hSw
  have goal : W prg l env rum sta mid args below meth cod H locs 0 0 Q0 (F0 mid 0 ls []) := ?_
  · rw [hH, hlo] at goal; exact goal
  clear hlo
  refine lv_iload_n X.1 X.2.1 dX10_ticks_0 rfl (lv_at hl 1 rfl) ?_
  refine ln_sR X (c_X10_isRule l D g 1 x (Nat.le_refl _)) ln_nil mM_X10_95 Y_X10_isRule rfl (by omega) hl.1 rfl (Nat.le_of_ble_eq_true rfl) dX10_ticks_1 ⟨Nat.zero_le _, Nat.zero_le _⟩ (fun r1 hr1 => ?_)
  subst hr1
  refine rn_eqB X (tgt := 15) dX10_ticks_4 (by decide) (fun h4 => ?_) (fun h4 => ?_)
  · skip
    refine lv_bipush (v := ((-2))) X.1 X.2.1 dX10_ticks_15 (by decide) ?_
    subst hQ0
    exact ln_retU X hr hlk hP hSw rfl ⟨⟨hW, hN, hK⟩, Or.inl ⟨by first | exact Or.inl h4 | exact Or.inr h12, rfl⟩⟩ dX10_ticks_17
  · skip
    obtain ⟨r, hr3, rfl⟩ := ln_inr_t (by decide) h4
    refine lv_aload_n X.1 X.2.1 dX10_ticks_7 rfl (lv_at hl 0 rfl) ?_
    refine lv_iload_n X.1 X.2.1 dX10_ticks_8 rfl (lv_at hl 2 rfl) ?_
    refine ln_vR X (c_X10_isSet l D g a σ 0 N hW hN y (Nat.le_refl _)) hP 0 rfl rfl mM_X10_98 Y_X10_isSet rfl (by omega) hl.1 rfl (Nat.le_of_ble_eq_true rfl) dX10_ticks_9 ⟨Nat.zero_le _, Nat.zero_le _⟩ (fun r9 hr9 => ?_)
    subst hr9
    refine rn_neB X (tgt := 18) dX10_ticks_12 (by decide) (fun h12 => ?_) (fun h12 => ?_)
    · skip
      obtain ⟨S, hS, rfl⟩ := ln_inr_t (by omega) h12
      refine lv_aload_n X.1 X.2.1 dX10_ticks_18 rfl (lv_at hl 0 rfl) ?_
      refine lv_iload_n X.1 X.2.1 dX10_ticks_19 rfl (lv_at hl 1 rfl) ?_
      refine lv_iload_n X.1 X.2.1 dX10_ticks_20 rfl (lv_at hl 2 rfl) ?_
      refine ln_vU X (MW_ad a g) hA (c_X10_runs l D g a σ 3 N hW hN r S hr3 hS (Nat.le_refl _)) hP hDw hSw 0 rfl rfl mM_X10_91 Y_X10_runs rfl (by omega) hl.1 rfl (Nat.le_of_ble_eq_true rfl) dX10_ticks_21 ⟨Nat.zero_le _, Nat.zero_le _⟩ (fun r21 τ21 H locs hr21 hP hDw hSw => ?_)
      obtain ⟨hz, hR, hf1, hf2⟩ := hr21
      subst hz
      have hN : ln_nM N τ21 := hN.of (hf2 0 (by decide)) (fun c h1 h2 => hf1 c (by omega) (by omega))
      have hK : ln_MK N τ21 99 := hK.of (hf2 1 (by decide)) (fun c h1 h2 h3 => hf1 c (by omega) (by omega))
      refine lv_istore_n (lv' := [(3, .int (nI (ln_end N r S))), (0, .ref (a 0)), (1, .int (nI r)), (2, .int (nI S))]) X.1 X.2.1 dX10_ticks_24 rfl hl (by decide) rfl (fun ls hl => ?_)
      refine lv_aload_n X.1 X.2.1 dX10_ticks_25 rfl (lv_at hl 1 rfl) ?_
      refine gM_0_7 X hP (v := nI (ln_et N r S)) hR.1 mF_X10_77 dX10_ticks_26 ?_
      subst hQ0
      exact ln_retU X hr hlk hP hSw rfl ⟨⟨hW, hN, hK⟩, Or.inr ⟨r, S, hr3, hS, rfl, rfl, rfl⟩⟩ dX10_ticks_29
    · skip
      refine lv_bipush (v := ((-2))) X.1 X.2.1 dX10_ticks_15 (by decide) ?_
      subst hQ0
      exact ln_retU X hr hlk hP hSw rfl ⟨⟨hW, hN, hK⟩, Or.inl ⟨by first | exact Or.inl h4 | exact Or.inr h12, rfl⟩⟩ dX10_ticks_17
set_option maxHeartbeats 4000000 in
set_option maxRecDepth 100000 in
theorem c_X10_when (l : Launch) (D : va_G) (g : Nat → ClassId) (a : Nat → Nat) (σ : ln_S) (d : Nat) (N : ln_N) (hI : ln_MI N σ) (x y u : Int32) (hd : 4 ≤ d) : ln_U l D g (MW a g) yX10_when (.code yX10_when cX10_when 5 (some .int)) d [.ref (a 0), .int x, .int y, .int u] σ (fun z τ => ln_MI N τ ∧ ln_oWe N x y u z) := by
  obtain ⟨hW, hN, hK⟩ := hI
  have hN12 := hW.n12
  have hp12 := hW.p12
  have hs1 := ln_sub1 (N 0 0)
  refine ln_ofU (by decide +kernel) (Nat.le_of_ble_eq_true rfl) (fun prg env rum sta mid args below meth cod ls A hr hlk X hA hP hDw hSw hl => ?_)
  have hl : lv_has ls 5 [(0, .ref (a 0)), (1, .int x), (2, .int y), (3, .int u)] := hl
  generalize hQ0 : (MQ below (va_Qi (fun z τ => ln_MI N τ ∧ ln_oWe N x y u z) (fun τ t => va_P D ln_cl (MW a g τ) t.heap) A) args sta 0 0 A) = Q0
  obtain ⟨H, hH⟩ : ∃ H, H = sta.heap := ⟨_, rfl⟩
  obtain ⟨locs, hlo⟩ : ∃ x : List Loc, x = [] := ⟨_, rfl⟩
  rw [← hH] at hP
  have hSw : va_S A sta.heap H locs := by rw [hH, hlo]; exact hSw
  have goal : W prg l env rum sta mid args below meth cod H locs 0 0 Q0 (F0 mid 0 ls []) := ?_
  · rw [hH, hlo] at goal; exact goal
  clear hlo
  refine lv_iload_n X.1 X.2.1 dX10_when_0 rfl (lv_at hl 1 rfl) ?_
  refine ln_sR X (c_X10_isRule l D g 1 x (Nat.le_refl _)) ln_nil mM_X10_95 Y_X10_isRule rfl (by omega) hl.1 rfl (Nat.le_of_ble_eq_true rfl) dX10_when_1 ⟨Nat.zero_le _, Nat.zero_le _⟩ (fun r1 hr1 => ?_)
  subst hr1
  refine rn_eqB X (tgt := 23) dX10_when_4 (by decide) (fun h4 => ?_) (fun h4 => ?_)
  · skip
    refine lv_bipush (v := ((-2))) X.1 X.2.1 dX10_when_23 (by decide) ?_
    subst hQ0
    exact ln_retU X hr hlk hP hSw rfl ⟨⟨hW, hN, hK⟩, Or.inl ⟨by first | exact Or.inl h4 | exact Or.inr (Or.inl h12) | exact Or.inr (Or.inr h20), rfl⟩⟩ dX10_when_25
  · skip
    obtain ⟨r, hr3, rfl⟩ := ln_inr_t (by decide) h4
    refine lv_aload_n X.1 X.2.1 dX10_when_7 rfl (lv_at hl 0 rfl) ?_
    refine lv_iload_n X.1 X.2.1 dX10_when_8 rfl (lv_at hl 2 rfl) ?_
    refine ln_vR X (c_X10_isSet l D g a σ 0 N hW hN y (Nat.le_refl _)) hP 0 rfl rfl mM_X10_98 Y_X10_isSet rfl (by omega) hl.1 rfl (Nat.le_of_ble_eq_true rfl) dX10_when_9 ⟨Nat.zero_le _, Nat.zero_le _⟩ (fun r9 hr9 => ?_)
    subst hr9
    refine rn_eqB X (tgt := 23) dX10_when_12 (by decide) (fun h12 => ?_) (fun h12 => ?_)
    · skip
      refine lv_bipush (v := ((-2))) X.1 X.2.1 dX10_when_23 (by decide) ?_
      subst hQ0
      exact ln_retU X hr hlk hP hSw rfl ⟨⟨hW, hN, hK⟩, Or.inl ⟨by first | exact Or.inl h4 | exact Or.inr (Or.inl h12) | exact Or.inr (Or.inr h20), rfl⟩⟩ dX10_when_25
    · skip
      obtain ⟨S, hS, rfl⟩ := ln_inr_t (by omega) h12
      refine lv_aload_n X.1 X.2.1 dX10_when_15 rfl (lv_at hl 0 rfl) ?_
      refine lv_iload_n X.1 X.2.1 dX10_when_16 rfl (lv_at hl 3 rfl) ?_
      refine ln_vR X (c_X10_isPost l D g a σ 1 N hW hN u (Nat.le_refl _)) hP 0 rfl rfl mM_X10_59 Y_X10_isPost rfl (by omega) hl.1 rfl (Nat.le_of_ble_eq_true rfl) dX10_when_17 ⟨Nat.zero_le _, Nat.zero_le _⟩ (fun r17 hr17 => ?_)
      subst hr17
      refine rn_neB X (tgt := 26) dX10_when_20 (by decide) (fun h20 => ?_) (fun h20 => ?_)
      · skip
        obtain ⟨p, hp, rfl⟩ := ln_inr_t (by omega) h20
        refine lv_aload_n X.1 X.2.1 dX10_when_26 rfl (lv_at hl 0 rfl) ?_
        refine lv_iload_n X.1 X.2.1 dX10_when_27 rfl (lv_at hl 1 rfl) ?_
        refine lv_iload_n X.1 X.2.1 dX10_when_28 rfl (lv_at hl 2 rfl) ?_
        refine ln_vU X (MW_ad a g) hA (c_X10_runs l D g a σ 3 N hW hN r S hr3 hS (Nat.le_refl _)) hP hDw hSw 0 rfl rfl mM_X10_91 Y_X10_runs rfl (by omega) hl.1 rfl (Nat.le_of_ble_eq_true rfl) dX10_when_29 ⟨Nat.zero_le _, Nat.zero_le _⟩ (fun r29 τ29 H locs hr29 hP hDw hSw => ?_)
        obtain ⟨hz, hR, hf1, hf2⟩ := hr29
        subst hz
        have hN : ln_nM N τ29 := hN.of (hf2 0 (by decide)) (fun c h1 h2 => hf1 c (by omega) (by omega))
        have hK : ln_MK N τ29 99 := hK.of (hf2 1 (by decide)) (fun c h1 h2 h3 => hf1 c (by omega) (by omega))
        refine lv_istore (lv' := [(4, .int (nI (ln_end N r S))), (0, .ref (a 0)), (1, .int (nI r)), (2, .int (nI S)), (3, .int (nI p))]) X.1 X.2.1 dX10_when_32 hl (by decide) rfl (fun ls hl => ?_)
        refine lv_aload_n X.1 X.2.1 dX10_when_34 rfl (lv_at hl 1 rfl) ?_
        refine lv_iload_n X.1 X.2.1 dX10_when_35 rfl (lv_at hl 4 rfl) ?_
        refine ln_vR X (c_X10_comes l D g a τ29 1 N hW r S p hS (by omega) hR (Nat.le_refl _)) hP 0 rfl rfl mM_X10_101 Y_X10_comes rfl (by omega) hl.1 rfl (Nat.le_of_ble_eq_true rfl) dX10_when_36 ⟨Nat.zero_le _, Nat.zero_le _⟩ (fun r36 hr36 => ?_)
        subst hr36
        subst hQ0
        exact ln_retU X hr hlk hP hSw rfl ⟨⟨hW, hN, hK⟩, Or.inr ⟨r, S, p, hr3, hS, hp, rfl, rfl, rfl, rfl⟩⟩ dX10_when_39
      · skip
        refine lv_bipush (v := ((-2))) X.1 X.2.1 dX10_when_23 (by decide) ?_
        subst hQ0
        exact ln_retU X hr hlk hP hSw rfl ⟨⟨hW, hN, hK⟩, Or.inl ⟨by first | exact Or.inl h4 | exact Or.inr (Or.inl h12) | exact Or.inr (Or.inr h20), rfl⟩⟩ dX10_when_25
set_option maxHeartbeats 4000000 in
set_option maxRecDepth 100000 in
theorem c_X10_brought (l : Launch) (D : va_G) (g : Nat → ClassId) (a : Nat → Nat) (σ : ln_S) (d : Nat) (N : ln_N) (hI : ln_MI N σ) (x y u : Int32) (hd : 4 ≤ d) : ln_U l D g (MW a g) yX10_brought (.code yX10_brought cX10_brought 8 (some .int)) d [.ref (a 0), .int x, .int y, .int u] σ (fun z τ => ln_MI N τ ∧ ln_oBr N x y u z) := by
  obtain ⟨hW, hN, hK⟩ := hI
  have hN12 := hW.n12
  have hp12 := hW.p12
  have hs1 := ln_sub1 (N 0 0)
  refine ln_ofU (by decide +kernel) (Nat.le_of_ble_eq_true rfl) (fun prg env rum sta mid args below meth cod ls A hr hlk X hA hP hDw hSw hl => ?_)
  have hl : lv_has ls 8 [(0, .ref (a 0)), (1, .int x), (2, .int y), (3, .int u)] := hl
  generalize hQ0 : (MQ below (va_Qi (fun z τ => ln_MI N τ ∧ ln_oBr N x y u z) (fun τ t => va_P D ln_cl (MW a g τ) t.heap) A) args sta 0 0 A) = Q0
  obtain ⟨H, hH⟩ : ∃ H, H = sta.heap := ⟨_, rfl⟩
  obtain ⟨locs, hlo⟩ : ∃ x : List Loc, x = [] := ⟨_, rfl⟩
  rw [← hH] at hP
  have hSw : va_S A sta.heap H locs := by rw [hH, hlo]; exact hSw
  have goal : W prg l env rum sta mid args below meth cod H locs 0 0 Q0 (F0 mid 0 ls []) := ?_
  · rw [hH, hlo] at goal; exact goal
  clear hlo
  refine lv_iload_n X.1 X.2.1 dX10_brought_0 rfl (lv_at hl 1 rfl) ?_
  refine ln_sR X (c_X10_isRule l D g 1 x (Nat.le_refl _)) ln_nil mM_X10_95 Y_X10_isRule rfl (by omega) hl.1 rfl (Nat.le_of_ble_eq_true rfl) dX10_brought_1 ⟨Nat.zero_le _, Nat.zero_le _⟩ (fun r1 hr1 => ?_)
  subst hr1
  refine rn_eqB X (tgt := 23) dX10_brought_4 (by decide) (fun h4 => ?_) (fun h4 => ?_)
  · skip
    refine lv_bipush (v := ((-2))) X.1 X.2.1 dX10_brought_23 (by decide) ?_
    subst hQ0
    exact ln_retU X hr hlk hP hSw rfl ⟨⟨hW, hN, hK⟩, Or.inl ⟨by first | exact Or.inl h4 | exact Or.inr (Or.inl h12) | exact Or.inr (Or.inr h20), rfl⟩⟩ dX10_brought_25
  · skip
    obtain ⟨r, hr3, rfl⟩ := ln_inr_t (by decide) h4
    refine lv_aload_n X.1 X.2.1 dX10_brought_7 rfl (lv_at hl 0 rfl) ?_
    refine lv_iload_n X.1 X.2.1 dX10_brought_8 rfl (lv_at hl 2 rfl) ?_
    refine ln_vR X (c_X10_isSet l D g a σ 0 N hW hN y (Nat.le_refl _)) hP 0 rfl rfl mM_X10_98 Y_X10_isSet rfl (by omega) hl.1 rfl (Nat.le_of_ble_eq_true rfl) dX10_brought_9 ⟨Nat.zero_le _, Nat.zero_le _⟩ (fun r9 hr9 => ?_)
    subst hr9
    refine rn_eqB X (tgt := 23) dX10_brought_12 (by decide) (fun h12 => ?_) (fun h12 => ?_)
    · skip
      refine lv_bipush (v := ((-2))) X.1 X.2.1 dX10_brought_23 (by decide) ?_
      subst hQ0
      exact ln_retU X hr hlk hP hSw rfl ⟨⟨hW, hN, hK⟩, Or.inl ⟨by first | exact Or.inl h4 | exact Or.inr (Or.inl h12) | exact Or.inr (Or.inr h20), rfl⟩⟩ dX10_brought_25
    · skip
      obtain ⟨S, hS, rfl⟩ := ln_inr_t (by omega) h12
      refine lv_aload_n X.1 X.2.1 dX10_brought_15 rfl (lv_at hl 0 rfl) ?_
      refine lv_iload_n X.1 X.2.1 dX10_brought_16 rfl (lv_at hl 3 rfl) ?_
      refine ln_vR X (c_X10_isPost l D g a σ 1 N hW hN u (Nat.le_refl _)) hP 0 rfl rfl mM_X10_59 Y_X10_isPost rfl (by omega) hl.1 rfl (Nat.le_of_ble_eq_true rfl) dX10_brought_17 ⟨Nat.zero_le _, Nat.zero_le _⟩ (fun r17 hr17 => ?_)
      subst hr17
      refine rn_neB X (tgt := 26) dX10_brought_20 (by decide) (fun h20 => ?_) (fun h20 => ?_)
      · skip
        obtain ⟨p, hp, rfl⟩ := ln_inr_t (by omega) h20
        refine lv_aload_n X.1 X.2.1 dX10_brought_26 rfl (lv_at hl 0 rfl) ?_
        refine lv_iload_n X.1 X.2.1 dX10_brought_27 rfl (lv_at hl 1 rfl) ?_
        refine lv_iload_n X.1 X.2.1 dX10_brought_28 rfl (lv_at hl 2 rfl) ?_
        refine ln_vU X (MW_ad a g) hA (c_X10_runs l D g a σ 3 N hW hN r S hr3 hS (Nat.le_refl _)) hP hDw hSw 0 rfl rfl mM_X10_91 Y_X10_runs rfl (by omega) hl.1 rfl (Nat.le_of_ble_eq_true rfl) dX10_brought_29 ⟨Nat.zero_le _, Nat.zero_le _⟩ (fun r29 τ29 H locs hr29 hP hDw hSw => ?_)
        obtain ⟨hz, hR, hf1, hf2⟩ := hr29
        subst hz
        have hN : ln_nM N τ29 := hN.of (hf2 0 (by decide)) (fun c h1 h2 => hf1 c (by omega) (by omega))
        have hK : ln_MK N τ29 99 := hK.of (hf2 1 (by decide)) (fun c h1 h2 h3 => hf1 c (by omega) (by omega))
        have het := ln_et13 N r S
        refine lv_istore (lv' := [(4, .int (nI (ln_end N r S))), (0, .ref (a 0)), (1, .int (nI r)), (2, .int (nI S)), (3, .int (nI p))]) X.1 X.2.1 dX10_brought_32 hl (by decide) rfl (fun ls hl => ?_)
        refine lv_aload_n X.1 X.2.1 dX10_brought_34 rfl (lv_at hl 1 rfl) ?_
        refine lv_iload_n X.1 X.2.1 dX10_brought_35 rfl (lv_at hl 4 rfl) ?_
        refine ln_vR X (c_X10_comes l D g a τ29 1 N hW r S p hS (by omega) hR (Nat.le_refl _)) hP 0 rfl rfl mM_X10_101 Y_X10_comes rfl (by omega) hl.1 rfl (Nat.le_of_ble_eq_true rfl) dX10_brought_36 ⟨Nat.zero_le _, Nat.zero_le _⟩ (fun r36 hr36 => ?_)
        subst hr36
        rcases ln_fr_cases (ln_stb N r S p) (ln_et N r S + 1) with ⟨ez, c1⟩ | ⟨ez, c1⟩
        · refine rn_top (y := nI (ln_fs (ln_stb N r S p) (ln_et N r S + 1))) ez ?_
          refine lv_istore (lv' := [(5, .int (nI (ln_fs (ln_stb N r S p) (ln_et N r S + 1)))), (4, .int (nI (ln_end N r S))), (0, .ref (a 0)), (1, .int (nI r)), (2, .int (nI S)), (3, .int (nI p))]) X.1 X.2.1 dX10_brought_39 hl (by decide) rfl (fun ls hl => ?_)
          refine lv_iload X.1 X.2.1 dX10_brought_41 (lv_at hl 0 rfl) ?_
          refine lv_iconst (v := nI 1) X.1 X.2.1 dX10_brought_43 (by decide) ?_
          refine rn_ge X (by omega) (by decide) (tgt := 50) dX10_brought_44 (by decide) (fun h44 => ?_) (fun h44 => ?_)
          · skip
            refine lv_aload_n X.1 X.2.1 dX10_brought_50 rfl (lv_at hl 2 rfl) ?_
            refine gM_0_6 X hP mF_X10_22 dX10_brought_51 ?_
            refine lv_iload X.1 X.2.1 dX10_brought_54 (lv_at hl 0 rfl) ?_
            refine lv_iconst (v := nI 1) X.1 X.2.1 dX10_brought_56 (by decide) ?_
            refine rn_sub X (by omega) dX10_brought_57 ?_
            refine lM_5 X hP (by omega) (v := nI (ln_st N r S (ln_fs (ln_stb N r S p) (ln_et N r S + 1) - 1))) (hR.2 _ (by omega)) dX10_brought_58 ?_
            refine lv_istore (lv' := [(6, .int (nI (ln_st N r S (ln_fs (ln_stb N r S p) (ln_et N r S + 1) - 1)))), (5, .int (nI (ln_fs (ln_stb N r S p) (ln_et N r S + 1)))), (4, .int (nI (ln_end N r S))), (0, .ref (a 0)), (1, .int (nI r)), (2, .int (nI S)), (3, .int (nI p))]) X.1 X.2.1 dX10_brought_59 hl (by decide) rfl (fun ls hl => ?_)
            refine lv_iload_n X.1 X.2.1 dX10_brought_61 rfl (lv_at hl 4 rfl) ?_
            refine rn_ne0 X (by omega) (tgt := 74) dX10_brought_62 (by decide) (fun h62 => ?_) (fun h62 => ?_)
            · skip
              refine lv_iconst (v := nI 0) X.1 X.2.1 dX10_brought_74 (by decide) ?_
              refine lv_istore (lv' := [(7, .int (nI 0)), (6, .int (nI (ln_st N r S (ln_fs (ln_stb N r S p) (ln_et N r S + 1) - 1)))), (5, .int (nI (ln_fs (ln_stb N r S p) (ln_et N r S + 1)))), (4, .int (nI (ln_end N r S))), (0, .ref (a 0)), (1, .int (nI r)), (2, .int (nI S)), (3, .int (nI p))]) X.1 X.2.1 dX10_brought_75 hl (by decide) rfl (fun ls hl => ?_)
              have L77 : ∀ (K : Nat) (q : Nat), N 0 0 - q < K → (q ≤ N 0 0) → (∀ j, j < q → ln_bg N r (ln_fs (ln_stb N r S p) (ln_et N r S + 1)) (ln_st N r S (ln_fs (ln_stb N r S p) (ln_et N r S + 1) - 1)) p j = false) → ∀ ls : Array Slot, lv_has ls 8 [(0, .ref (a 0)), (1, .int (nI r)), (3, .int (nI p)), (5, .int (nI (ln_fs (ln_stb N r S p) (ln_et N r S + 1)))), (6, .int (nI (ln_st N r S (ln_fs (ln_stb N r S p) (ln_et N r S + 1) - 1)))), (7, .int (nI q))] → W prg l env rum sta mid args below meth cod H locs 0 0 Q0 (F0 mid 77 ls []) := by
                intro K
                induction K with
                | zero => intro q hm; exact absurd hm (Nat.not_lt_zero _)
                | succ K ih77 =>
                  intro q hm77 hq hj ls hl
                  refine lv_iload X.1 X.2.1 dX10_brought_77 (lv_at hl 5 rfl) ?_
                  refine lv_aload_n X.1 X.2.1 dX10_brought_79 rfl (lv_at hl 0 rfl) ?_
                  refine gM_0_0 X hP (v := nI (N 0 0)) hN.n mF_X10_48 dX10_brought_80 ?_
                  refine rn_ge X (by omega) (by omega) (tgt := 154) dX10_brought_83 (by decide) (fun h83 => ?_) (fun h83 => ?_)
                  · skip
                    refine lv_iconst (v := nI 0) X.1 X.2.1 dX10_brought_154 (by decide) ?_
                    subst hQ0
                    exact ln_retU X hr hlk hP hSw rfl ⟨⟨hW, hN, hK⟩, Or.inr ⟨r, S, p, hr3, hS, hp, rfl, rfl, rfl, (by show _ = ln_br N r S p; rw [ln_br_g hW hS c1 (by omega) h62, ← ln_pw_none (fun j hj2 => hj j (by omega))])⟩⟩ dX10_brought_155
                  · skip
                    refine lv_iload X.1 X.2.1 dX10_brought_86 (lv_at hl 4 rfl) ?_
                    refine lv_iload X.1 X.2.1 dX10_brought_88 (lv_at hl 5 rfl) ?_
                    refine ln_sR X (c_X10_has l D g 0 (ln_st N r S (ln_fs (ln_stb N r S p) (ln_et N r S + 1) - 1)) q (ln_31 (ln_st12 hW r hS _)) (by omega) (Nat.le_refl _)) ln_nil mM_X10_70 Y_X10_has rfl (by omega) hl.1 rfl (Nat.le_of_ble_eq_true rfl) dX10_brought_90 ⟨Nat.zero_le _, Nat.zero_le _⟩ (fun r90 hr90 => ?_)
                    subst hr90
                    refine rn_neB X (tgt := 99) dX10_brought_93 (by decide) (fun h93 => ?_) (fun h93 => ?_)
                    · skip
                      refine lv_iload_n X.1 X.2.1 dX10_brought_99 rfl (lv_at hl 1 rfl) ?_
                      refine lv_iconst (v := nI 2) X.1 X.2.1 dX10_brought_100 (by decide) ?_
                      refine rn_ne X (by omega) (by decide) (tgt := 126) dX10_brought_101 (by decide) (fun h101 => ?_) (fun h101 => ?_)
                      · skip
                        refine lv_aload_n X.1 X.2.1 dX10_brought_126 rfl (lv_at hl 0 rfl) ?_
                        refine lv_iload X.1 X.2.1 dX10_brought_127 (lv_at hl 5 rfl) ?_
                        refine ln_vR X (c_X10_behind l D g a τ29 0 N hW hN q (by omega) (Nat.le_refl _)) hP 0 rfl rfl mM_X10_63 Y_X10_behind rfl (by omega) hl.1 rfl (Nat.le_of_ble_eq_true rfl) dX10_brought_129 ⟨Nat.zero_le _, Nat.zero_le _⟩ (fun r129 hr129 => ?_)
                        subst hr129
                        refine lv_iload X.1 X.2.1 dX10_brought_132 (lv_at hl 4 rfl) ?_
                        refine lv_iconst (v := ((-1))) X.1 X.2.1 dX10_brought_134 (by decide) ?_
                        refine lv_ixor X.1 X.2.1 dX10_brought_135 ?_
                        refine rn_nt X dX10_brought_136 ?_
                        refine lv_iconst (v := nI 1) X.1 X.2.1 dX10_brought_137 (by decide) ?_
                        refine lv_iload_n X.1 X.2.1 dX10_brought_138 rfl (lv_at hl 2 rfl) ?_
                        refine rn_shl X (by omega) dX10_brought_139 ?_
                        refine rn_ne X (ln_31 (ln_df_lt (hW.bh12 _))) (ln_31 (ln_p12 (by omega))) (tgt := 148) dX10_brought_140 (by decide) (fun h140 => ?_) (fun h140 => ?_)
                        · skip
                          refine lv_iinc (v := nI (q + 1)) (lv' := [(7, .int (nI (q + 1))), (0, .ref (a 0)), (1, .int (nI r)), (3, .int (nI p)), (5, .int (nI (ln_fs (ln_stb N r S p) (ln_et N r S + 1)))), (6, .int (nI (ln_st N r S (ln_fs (ln_stb N r S p) (ln_et N r S + 1) - 1))))]) X.1 X.2.1 dX10_brought_148 hl (k := 5) rfl rn_inc (by decide) rfl (fun ls hl => ?_)
                          refine lv_goto (tgt := 77) X.1 X.2.1 dX10_brought_151 (by decide) ?_
                          exact ih77 (q + 1) (by omega) (by omega) (ln_lt_s hj (by first | exact ln_bg_a h93 | exact ln_bg_b ⟨h101, h107⟩ h120 | exact ln_bg_c (fun z => h101 z.1) h140 | exact ln_bg_c (fun z => h107 z.2) h140)) ls (lv_sub hl [1, 2, 3, 4, 5, 0] rfl)
                        · skip
                          refine lv_iconst (v := nI 1) X.1 X.2.1 dX10_brought_143 (by decide) ?_
                          refine lv_iload X.1 X.2.1 dX10_brought_144 (lv_at hl 5 rfl) ?_
                          refine rn_shl X (by omega) dX10_brought_146 ?_
                          subst hQ0
                          exact ln_retU X hr hlk hP hSw rfl ⟨⟨hW, hN, hK⟩, Or.inr ⟨r, S, p, hr3, hS, hp, rfl, rfl, rfl, (by show _ = ln_br N r S p; rw [ln_br_g hW hS c1 (by omega) h62, ← ln_pw_eq (by first | exact ln_bg_d h93 ⟨h101, h107⟩ h120 | exact ln_bg_e h93 (fun z => h101 z.1) h140 | exact ln_bg_e h93 (fun z => h107 z.2) h140) hj h83])⟩⟩ dX10_brought_147
                      · skip
                        refine lv_iload X.1 X.2.1 dX10_brought_104 (lv_at hl 3 rfl) ?_
                        refine lv_iconst (v := nI 1) X.1 X.2.1 dX10_brought_106 (by decide) ?_
                        refine rn_ne X (by omega) (by decide) (tgt := 126) dX10_brought_107 (by decide) (fun h107 => ?_) (fun h107 => ?_)
                        · skip
                          refine lv_aload_n X.1 X.2.1 dX10_brought_126 rfl (lv_at hl 0 rfl) ?_
                          refine lv_iload X.1 X.2.1 dX10_brought_127 (lv_at hl 5 rfl) ?_
                          refine ln_vR X (c_X10_behind l D g a τ29 0 N hW hN q (by omega) (Nat.le_refl _)) hP 0 rfl rfl mM_X10_63 Y_X10_behind rfl (by omega) hl.1 rfl (Nat.le_of_ble_eq_true rfl) dX10_brought_129 ⟨Nat.zero_le _, Nat.zero_le _⟩ (fun r129 hr129 => ?_)
                          subst hr129
                          refine lv_iload X.1 X.2.1 dX10_brought_132 (lv_at hl 4 rfl) ?_
                          refine lv_iconst (v := ((-1))) X.1 X.2.1 dX10_brought_134 (by decide) ?_
                          refine lv_ixor X.1 X.2.1 dX10_brought_135 ?_
                          refine rn_nt X dX10_brought_136 ?_
                          refine lv_iconst (v := nI 1) X.1 X.2.1 dX10_brought_137 (by decide) ?_
                          refine lv_iload_n X.1 X.2.1 dX10_brought_138 rfl (lv_at hl 2 rfl) ?_
                          refine rn_shl X (by omega) dX10_brought_139 ?_
                          refine rn_ne X (ln_31 (ln_df_lt (hW.bh12 _))) (ln_31 (ln_p12 (by omega))) (tgt := 148) dX10_brought_140 (by decide) (fun h140 => ?_) (fun h140 => ?_)
                          · skip
                            refine lv_iinc (v := nI (q + 1)) (lv' := [(7, .int (nI (q + 1))), (0, .ref (a 0)), (1, .int (nI r)), (3, .int (nI p)), (5, .int (nI (ln_fs (ln_stb N r S p) (ln_et N r S + 1)))), (6, .int (nI (ln_st N r S (ln_fs (ln_stb N r S p) (ln_et N r S + 1) - 1))))]) X.1 X.2.1 dX10_brought_148 hl (k := 5) rfl rn_inc (by decide) rfl (fun ls hl => ?_)
                            refine lv_goto (tgt := 77) X.1 X.2.1 dX10_brought_151 (by decide) ?_
                            exact ih77 (q + 1) (by omega) (by omega) (ln_lt_s hj (by first | exact ln_bg_a h93 | exact ln_bg_b ⟨h101, h107⟩ h120 | exact ln_bg_c (fun z => h101 z.1) h140 | exact ln_bg_c (fun z => h107 z.2) h140)) ls (lv_sub hl [1, 2, 3, 4, 5, 0] rfl)
                          · skip
                            refine lv_iconst (v := nI 1) X.1 X.2.1 dX10_brought_143 (by decide) ?_
                            refine lv_iload X.1 X.2.1 dX10_brought_144 (lv_at hl 5 rfl) ?_
                            refine rn_shl X (by omega) dX10_brought_146 ?_
                            subst hQ0
                            exact ln_retU X hr hlk hP hSw rfl ⟨⟨hW, hN, hK⟩, Or.inr ⟨r, S, p, hr3, hS, hp, rfl, rfl, rfl, (by show _ = ln_br N r S p; rw [ln_br_g hW hS c1 (by omega) h62, ← ln_pw_eq (by first | exact ln_bg_d h93 ⟨h101, h107⟩ h120 | exact ln_bg_e h93 (fun z => h101 z.1) h140 | exact ln_bg_e h93 (fun z => h107 z.2) h140) hj h83])⟩⟩ dX10_brought_147
                        · skip
                          refine lv_aload_n X.1 X.2.1 dX10_brought_110 rfl (lv_at hl 0 rfl) ?_
                          refine lv_iload X.1 X.2.1 dX10_brought_111 (lv_at hl 5 rfl) ?_
                          refine ln_vR X (c_X10_behind l D g a τ29 0 N hW hN q (by omega) (Nat.le_refl _)) hP 0 rfl rfl mM_X10_63 Y_X10_behind rfl (by omega) hl.1 rfl (Nat.le_of_ble_eq_true rfl) dX10_brought_113 ⟨Nat.zero_le _, Nat.zero_le _⟩ (fun r113 hr113 => ?_)
                          subst hr113
                          refine lv_iload_n X.1 X.2.1 dX10_brought_116 rfl (lv_at hl 2 rfl) ?_
                          refine ln_sR X (c_X10_has l D g 0 (N 3 q) p (ln_31 (hW.bh12 _)) (by omega) (Nat.le_refl _)) ln_nil mM_X10_70 Y_X10_has rfl (by omega) hl.1 rfl (Nat.le_of_ble_eq_true rfl) dX10_brought_117 ⟨Nat.zero_le _, Nat.zero_le _⟩ (fun r117 hr117 => ?_)
                          subst hr117
                          refine rn_eqB X (tgt := 148) dX10_brought_120 (by decide) (fun h120 => ?_) (fun h120 => ?_)
                          · skip
                            refine lv_iinc (v := nI (q + 1)) (lv' := [(7, .int (nI (q + 1))), (0, .ref (a 0)), (1, .int (nI r)), (3, .int (nI p)), (5, .int (nI (ln_fs (ln_stb N r S p) (ln_et N r S + 1)))), (6, .int (nI (ln_st N r S (ln_fs (ln_stb N r S p) (ln_et N r S + 1) - 1))))]) X.1 X.2.1 dX10_brought_148 hl (k := 5) rfl rn_inc (by decide) rfl (fun ls hl => ?_)
                            refine lv_goto (tgt := 77) X.1 X.2.1 dX10_brought_151 (by decide) ?_
                            exact ih77 (q + 1) (by omega) (by omega) (ln_lt_s hj (by first | exact ln_bg_a h93 | exact ln_bg_b ⟨h101, h107⟩ h120 | exact ln_bg_c (fun z => h101 z.1) h140 | exact ln_bg_c (fun z => h107 z.2) h140)) ls (lv_sub hl [1, 2, 3, 4, 5, 0] rfl)
                          · skip
                            refine lv_goto (tgt := 143) X.1 X.2.1 dX10_brought_123 (by decide) ?_
                            refine lv_iconst (v := nI 1) X.1 X.2.1 dX10_brought_143 (by decide) ?_
                            refine lv_iload X.1 X.2.1 dX10_brought_144 (lv_at hl 5 rfl) ?_
                            refine rn_shl X (by omega) dX10_brought_146 ?_
                            subst hQ0
                            exact ln_retU X hr hlk hP hSw rfl ⟨⟨hW, hN, hK⟩, Or.inr ⟨r, S, p, hr3, hS, hp, rfl, rfl, rfl, (by show _ = ln_br N r S p; rw [ln_br_g hW hS c1 (by omega) h62, ← ln_pw_eq (by first | exact ln_bg_d h93 ⟨h101, h107⟩ h120 | exact ln_bg_e h93 (fun z => h101 z.1) h140 | exact ln_bg_e h93 (fun z => h107 z.2) h140) hj h83])⟩⟩ dX10_brought_147
                    · skip
                      refine lv_goto (tgt := 148) X.1 X.2.1 dX10_brought_96 (by decide) ?_
                      refine lv_iinc (v := nI (q + 1)) (lv' := [(7, .int (nI (q + 1))), (0, .ref (a 0)), (1, .int (nI r)), (3, .int (nI p)), (5, .int (nI (ln_fs (ln_stb N r S p) (ln_et N r S + 1)))), (6, .int (nI (ln_st N r S (ln_fs (ln_stb N r S p) (ln_et N r S + 1) - 1))))]) X.1 X.2.1 dX10_brought_148 hl (k := 5) rfl rn_inc (by decide) rfl (fun ls hl => ?_)
                      refine lv_goto (tgt := 77) X.1 X.2.1 dX10_brought_151 (by decide) ?_
                      exact ih77 (q + 1) (by omega) (by omega) (ln_lt_s hj (by first | exact ln_bg_a h93 | exact ln_bg_b ⟨h101, h107⟩ h120 | exact ln_bg_c (fun z => h101 z.1) h140 | exact ln_bg_c (fun z => h107 z.2) h140)) ls (lv_sub hl [1, 2, 3, 4, 5, 0] rfl)
              exact L77 _ 0 (Nat.lt_succ_self _) (Nat.zero_le _) (fun j h => absurd h (Nat.not_lt_zero j)) ls (lv_sub hl [4, 5, 7, 2, 1, 0] rfl)
            · skip
              refine lv_iload X.1 X.2.1 dX10_brought_65 (lv_at hl 0 rfl) ?_
              refine lv_aload_n X.1 X.2.1 dX10_brought_67 rfl (lv_at hl 3 rfl) ?_
              refine lv_iload_n X.1 X.2.1 dX10_brought_68 rfl (lv_at hl 6 rfl) ?_
              refine ln_vR X (c_X10_ahead l D g a τ29 0 N hW hN p (by omega) (Nat.le_refl _)) hP 0 rfl rfl mM_X10_67 Y_X10_ahead rfl (by omega) hl.1 rfl (Nat.le_of_ble_eq_true rfl) dX10_brought_69 ⟨Nat.zero_le _, Nat.zero_le _⟩ (fun r69 hr69 => ?_)
              subst hr69
              refine rn_and X dX10_brought_72 ?_
              subst hQ0
              exact ln_retU X hr hlk hP hSw rfl ⟨⟨hW, hN, hK⟩, Or.inr ⟨r, S, p, hr3, hS, hp, rfl, rfl, rfl, (by show _ = ln_br N r S p; unfold ln_br; rw [if_pos c1, if_neg (by omega), if_pos h62])⟩⟩ dX10_brought_73
          · skip
            refine lv_iload X.1 X.2.1 dX10_brought_47 (lv_at hl 0 rfl) ?_
            subst hQ0
            exact ln_retU X hr hlk hP hSw rfl ⟨⟨hW, hN, hK⟩, Or.inr ⟨r, S, p, hr3, hS, hp, rfl, rfl, rfl, (by show _ = ln_br N r S p; unfold ln_br; first | (rw [if_pos c1, if_pos (by omega), show ln_fs (ln_stb N r S p) (ln_et N r S + 1) = 0 by omega]; rfl) | rw [if_neg c1])⟩⟩ dX10_brought_49
        · refine rn_top (y := ((-1))) ez ?_
          refine lv_istore (lv' := [(5, .int ((-1))), (4, .int (nI (ln_end N r S))), (0, .ref (a 0)), (1, .int (nI r)), (2, .int (nI S)), (3, .int (nI p))]) X.1 X.2.1 dX10_brought_39 hl (by decide) rfl (fun ls hl => ?_)
          refine lv_iload X.1 X.2.1 dX10_brought_41 (lv_at hl 0 rfl) ?_
          refine lv_iconst (v := nI 1) X.1 X.2.1 dX10_brought_43 (by decide) ?_
          refine lv_icmp_ge (tgt := 50) X.1 X.2.1 dX10_brought_44 (by decide) (fun h44 => absurd h44 (by decide)) (fun h44 => ?_)
          refine lv_iload X.1 X.2.1 dX10_brought_47 (lv_at hl 0 rfl) ?_
          subst hQ0
          exact ln_retU X hr hlk hP hSw rfl ⟨⟨hW, hN, hK⟩, Or.inr ⟨r, S, p, hr3, hS, hp, rfl, rfl, rfl, (by show _ = ln_br N r S p; unfold ln_br; first | (rw [if_pos c1, if_pos (by omega), show ln_fs (ln_stb N r S p) (ln_et N r S + 1) = 0 by omega]; rfl) | rw [if_neg c1])⟩⟩ dX10_brought_49
      · skip
        refine lv_bipush (v := ((-2))) X.1 X.2.1 dX10_brought_23 (by decide) ?_
        subst hQ0
        exact ln_retU X hr hlk hP hSw rfl ⟨⟨hW, hN, hK⟩, Or.inl ⟨by first | exact Or.inl h4 | exact Or.inr (Or.inl h12) | exact Or.inr (Or.inr h20), rfl⟩⟩ dX10_brought_25
