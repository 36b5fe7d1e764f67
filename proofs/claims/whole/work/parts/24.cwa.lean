theorem ln_aw {N : ln_N} (hW : ln_wf N) (S p q : Nat) : (S &&& N 4 p).testBit q = (S.testBit q && decide (0 < N (5 + q) p)) := by rw [Nat.testBit_and, ((hW.2 q).2.2 p).2.2.1]
theorem ln_an_a {N : ln_N} (hW : ln_wf N) {h : Nat → Bool} {S p q : Nat} (hq : (S &&& N 4 p).testBit q = false) : ln_an N h S p q = false := by unfold ln_an; rw [← ln_aw hW, hq]; rfl
theorem ln_an_b {N : ln_N} {h : Nat → Bool} {S p q : Nat} (hq : h (ln_df S (2 ^ q) ||| 2 ^ p) = false) : ln_an N h S p q = false := by unfold ln_an; rw [hq, Bool.and_false]
theorem ln_an_c {N : ln_N} (hW : ln_wf N) {h : Nat → Bool} {S p q : Nat} (hq : (S &&& N 4 p).testBit q = true) (h2 : h (ln_df S (2 ^ q) ||| 2 ^ p) = true) : ln_an N h S p q = true := by unfold ln_an; rw [← ln_aw hW, hq, h2]; rfl
theorem ln_an_s {N : ln_N} {h : Nat → Bool} {S p q : Nat} (hq : S.testBit q = false) : ln_an N h S p q = false := by unfold ln_an; rw [hq]; rfl
theorem ln_an_w {N : ln_N} {h : Nat → Bool} {S p q : Nat} (hq : N (5 + q) p = 0) : ln_an N h S p q = false := by unfold ln_an; rw [decide_eq_false (by omega), Bool.and_false]; rfl
theorem ln_an_t {N : ln_N} {h : Nat → Bool} {S p q : Nat} (h1 : S.testBit q = true) (hq : N (5 + q) p ≠ 0) (h2 : h (ln_df S (2 ^ q) ||| 2 ^ p) = true) : ln_an N h S p q = true := by unfold ln_an; rw [h1, h2, decide_eq_true (by omega)]; rfl
theorem ln_shr0 {x k q : Nat} (h : x >>> k = 0) (hq : k ≤ q) : x.testBit q = false := by
  have h3 : (x >>> k).testBit (q - k) = false := by rw [h, Nat.zero_testBit]
  rw [Nat.testBit_shiftRight, show k + (q - k) = q by omega] at h3
  exact h3
theorem ln_mv_lt {N : ln_N} {S p q : Nat} (hS : S < 2 ^ N 0 0) (hp : p < N 0 0) : ln_df S (2 ^ q) ||| 2 ^ p < 2 ^ N 0 0 := ln_put_lt (ln_df_lt hS) hp
theorem ln_fr_m1 {f : Nat → Bool} {k : Nat} (hk : k < 2 ^ 31) (h : ln_fs f k < k) : ln_fr f k ≠ -1 := by
  have e : ln_fr f k = nI (ln_fs f k) := if_pos h
  rw [e]; exact ln_nI_ne (by omega)
theorem ln_aa_t {N : ln_N} {h : Nat → Bool} {S : Nat} (H : ∀ p, p < N 0 0 → S.testBit p = false → ln_fs (ln_an N h S p) (N 0 0) < N 0 0) : ln_aa N h S = true := decide_eq_true H
theorem ln_aa_f {N : ln_N} {h : Nat → Bool} {S p : Nat} (hp : p < N 0 0) (hb : S.testBit p = false) (H : ¬ ln_fs (ln_an N h S p) (N 0 0) < N 0 0) : ln_aa N h S = false := decide_eq_false (fun q => H (q p hp hb))
theorem ln_gs_n {N : ln_N} {h : Nat → Bool} {S T : Nat} (hT : T ≠ S) : ln_gs N h (S + 1) T = ln_gs N h S T := if_neg hT
theorem ln_gs_e {N : ln_N} {h : Nat → Bool} {S : Nat} : ln_gs N h (S + 1) S = (ln_gs N h S S && ln_aa N (ln_gs N h S) S) := if_pos rfl
theorem ln_gs_keep {N : ln_N} {h : Nat → Bool} {S : Nat} (hk : ln_gs N h S S = false ∨ ln_aa N (ln_gs N h S) S = true) (T : Nat) : ln_gs N h (S + 1) T = ln_gs N h S T := by
  by_cases e : T = S
  · subst e
    rw [ln_gs_e]
    rcases hk with q | q
    · rw [q]; rfl
    · rw [q, Bool.and_true]
  · exact ln_gs_n e
theorem ln_gs_drop {N : ln_N} {h : Nat → Bool} {S : Nat} (hk : ln_aa N (ln_gs N h S) S = false) (T : Nat) : ln_gs N h (S + 1) T = if T = S then false else ln_gs N h S T := by
  by_cases e : T = S
  · subst e; rw [ln_gs_e, hk, Bool.and_false, if_pos rfl]
  · rw [ln_gs_n e, if_neg e]
theorem ln_gs_le {N : ln_N} {h : Nat → Bool} : ∀ {S T : Nat}, ln_gs N h S T = true → h T = true
  | 0, _, q => q
  | S + 1, T, q => by
    by_cases e : T = S
    · subst e
      rw [ln_gs_e, Bool.and_eq_true] at q
      exact ln_gs_le q.1
    · rw [ln_gs_n e] at q
      exact ln_gs_le q
theorem ln_fs_cg {f g : Nat → Bool} {k : Nat} (h : ∀ j, j < k → f j = g j) : (ln_fs f k < k) = (ln_fs g k < k) := by rw [ln_fs_cong h]
theorem ln_aa_cong {N : ln_N} {h g : Nat → Bool} {S : Nat} (hS : S < 2 ^ N 0 0) (H : ∀ T, T < 2 ^ N 0 0 → h T = g T) : ln_aa N h S = ln_aa N g S := by
  unfold ln_aa
  apply decide_eq_decide.mpr
  have key : ∀ p, p < N 0 0 → (ln_fs (ln_an N h S p) (N 0 0) = ln_fs (ln_an N g S p) (N 0 0)) := fun p hp => ln_fs_cong (fun q _ => by unfold ln_an; rw [H _ (ln_mv_lt hS hp)])
  constructor
  · intro q p hp hb; rw [← key p hp]; exact q p hp hb
  · intro q p hp hb; rw [key p hp]; exact q p hp hb
theorem ln_gs_cong {N : ln_N} {h g : Nat → Bool} (H : ∀ T, T < 2 ^ N 0 0 → h T = g T) : ∀ {S : Nat}, S ≤ 2 ^ N 0 0 → ∀ T, T < 2 ^ N 0 0 → ln_gs N h S T = ln_gs N g S T
  | 0, _, T, hT => H T hT
  | S + 1, hS, T, hT => by
    have ih := ln_gs_cong H (S := S) (by omega)
    by_cases e : T = S
    · subst e; rw [ln_gs_e, ln_gs_e, ih T hT, ln_aa_cong hT ih]
    · rw [ln_gs_n e, ln_gs_n e]; exact ih T hT
/-- a round that changes nothing: nothing changes any more -/
theorem ln_gr_stab {N : ln_N} {k : Nat} (h : ∀ T, T < 2 ^ N 0 0 → ln_gs N (ln_gr N k) (2 ^ N 0 0) T = ln_gr N k T) : ∀ m T, T < 2 ^ N 0 0 → ln_gr N (k + m) T = ln_gr N k T
  | 0, _, _ => rfl
  | m + 1, T, hT => by
    show ln_gs N (ln_gr N (k + m)) (2 ^ N 0 0) T = _
    rw [ln_gs_cong (ln_gr_stab h m) (Nat.le_refl _) T hT]
    exact h T hT
theorem ln_gr_hd {N : ln_N} {k : Nat} (hk : k ≤ 4097) (h : ∀ T, T < 2 ^ N 0 0 → ln_gs N (ln_gr N k) (2 ^ N 0 0) T = ln_gr N k T) {T : Nat} (hT : T < 2 ^ N 0 0) : ln_gr N k T = ln_hd N T := by
  have := ln_gr_stab h (4097 - k) T hT
  rw [show k + (4097 - k) = 4097 by omega] at this
  exact this.symm
def ln_gd (N : ln_N) : Nat → Nat
  | 0 => N 0 0
  | k + 1 => if ln_hd N k then min (ln_gd N k) (ln_pc k) else ln_gd N k
theorem ln_gd_t {N : ln_N} {k : Nat} (h : ln_hd N k = true) : ln_gd N (k + 1) = min (ln_gd N k) (ln_pc k) := if_pos h
theorem ln_gd_f {N : ln_N} {k : Nat} (h : ln_hd N k = false) : ln_gd N (k + 1) = ln_gd N k := if_neg (by rw [h]; decide)
theorem ln_gd_le {N : ln_N} : ∀ k, ln_gd N k ≤ N 0 0
  | 0 => Nat.le_refl _
  | k + 1 => by
    have := ln_gd_le (N := N) k
    show (if ln_hd N k then min (ln_gd N k) (ln_pc k) else ln_gd N k) ≤ _
    split <;> omega
def ln_af (N : ln_N) (S p : Nat) : Int32 := if S.testBit p = true ∨ ln_hd N S = false then -1 else ln_fr (ln_an N (ln_hd N) S p) (N 0 0)
def ln_oHo (N : ln_N) (x z : Int32) : Prop := (ln_inr x (2 ^ N 0 0) = false ∧ z = -2) ∨ ∃ S, S < 2 ^ N 0 0 ∧ x = nI S ∧ z = ln_b (ln_hd N S)
def ln_oAn (N : ln_N) (x y z : Int32) : Prop := ((ln_inr x (2 ^ N 0 0) = false ∨ ln_inr y (N 0 0) = false) ∧ z = -2) ∨ ∃ S p, S < 2 ^ N 0 0 ∧ p < N 0 0 ∧ x = nI S ∧ y = nI p ∧ z = ln_af N S p
theorem ln_oHo_one {N : ln_N} (hW : ln_wf N) {x z w : Int32} (h : ln_oHo N x z) (h2 : ln_oHo N x w) : z = w := by
  have hp := hW.p12
  rcases h with ⟨a1, a2⟩ | ⟨S, hS, hx, hz⟩ <;> rcases h2 with ⟨b1, b2⟩ | ⟨T, hT, hy, hw⟩
  · rw [a2, b2]
  · exact (ln_r_in hT (by omega) hy a1).elim
  · exact (ln_r_in hS (by omega) hx b1).elim
  · have e := ln_s_one (by omega) hS hT hx hy
    subst e
    rw [hz, hw]
theorem ln_oAn_one {N : ln_N} (hW : ln_wf N) {x y z w : Int32} (h : ln_oAn N x y z) (h2 : ln_oAn N x y w) : z = w := by
  have hp := hW.p12
  have hn := hW.n12
  rcases h with ⟨a1, a2⟩ | ⟨S, p, hS, hp1, hx, hy, hz⟩ <;> rcases h2 with ⟨b1, b2⟩ | ⟨T, q, hT, hq, hx2, hy2, hw⟩
  · rw [a2, b2]
  · rcases a1 with a1 | a1
    · exact (ln_r_in hT (by omega) hx2 a1).elim
    · exact (ln_r_in hq (by omega) hy2 a1).elim
  · rcases b1 with b1 | b1
    · exact (ln_r_in hS (by omega) hx b1).elim
    · exact (ln_r_in hp1 (by omega) hy b1).elim
  · have e := ln_s_one (by omega) hS hT hx hx2
    have e2 := ln_s_one (by omega) hp1 hq hy hy2
    subst e e2
    rw [hz, hw]
theorem ln_ct_lt2 {f g : Nat → Bool} : ∀ {n i : Nat}, (∀ j, j < n → f j = true → g j = true) → i < n → f i = false → g i = true → ln_ct f n < ln_ct g n
  | 0, i, _, hi, _, _ => absurd hi (Nat.not_lt_zero i)
  | n + 1, i, h, hi, hf, hg => by
    have hm : ln_ct f n ≤ ln_ct g n := by
      have : ∀ m, m ≤ n → ln_ct f m ≤ ln_ct g m := by
        intro m
        induction m with
        | zero => intro _; exact Nat.le_refl 0
        | succ m ih =>
          intro hmn
          have h1 := ih (by omega)
          show ln_ct f m + (if f m then 1 else 0) ≤ ln_ct g m + (if g m then 1 else 0)
          cases hfm : f m with
          | false => simp; split <;> omega
          | true => rw [h m (by omega) hfm]; simpa using h1
      exact this n (Nat.le_refl n)
    show ln_ct f n + (if f n then 1 else 0) < ln_ct g n + (if g n then 1 else 0)
    by_cases e : i = n
    · subst e; rw [hf, hg]; simp; omega
    · have h1 := ln_ct_lt2 (fun j hj => h j (by omega)) (show i < n by omega) hf hg
      cases hfn : f n with
      | false => simp; split <;> omega
      | true => rw [h n (by omega) hfn]; simpa using h1
theorem ln_ct_cg {f g : Nat → Bool} : ∀ {n : Nat}, (∀ j, j < n → f j = g j) → ln_ct f n = ln_ct g n
  | 0, _ => rfl
  | n + 1, h => by
    show ln_ct f n + (if f n then 1 else 0) = ln_ct g n + (if g n then 1 else 0)
    rw [ln_ct_cg (fun j hj => h j (by omega)), h n (by omega)]
theorem ln_ct_true (n : Nat) : ln_ct (fun _ => true) n = n := by
  induction n with
  | zero => rfl
  | succ n ih => show ln_ct (fun _ => true) n + 1 = n + 1; rw [ih]
set_option maxHeartbeats 4000000 in
set_option maxRecDepth 100000 in
theorem c_X8_leastAnswer (l : Launch) (D : va_G) (g : Nat → ClassId) (a : Nat → Nat) (σ : ln_S) (d : Nat) (N : ln_N) (hW : ln_wf N) (hN : ln_nC N σ) (h : Nat → Bool) (hHo : ∀ T, T < 2 ^ N 0 0 → σ 21 T = ln_b (h T)) (S p : Nat) (hS : S < 2 ^ N 0 0) (hp : p < N 0 0) (hd : 1 ≤ d) : ln_R l D g (CW a g σ) yX8_leastAnswer (.code yX8_leastAnswer cX8_leastAnswer 5 (some .int)) d [.ref (a 20), .int (nI S), .int (nI p)] (fun z => z = ln_fr (ln_an N h S p) (N 0 0)) := by
  have hN12 := hW.n12
  have hp12 := hW.p12
  have hs1 := ln_sub1 (N 0 0)
  refine ln_ofR (by decide +kernel) (Nat.le_of_ble_eq_true rfl) (fun prg env rum sta mid args below meth cod ls hr hlk X hP hl => ?_)
  have hl : lv_has ls 5 [(0, .ref (a 20)), (1, .int (nI S)), (2, .int (nI p))] := hl
  generalize hQ0 : (MQ below (vp_Si (fun z => z = ln_fr (ln_an N h S p) (N 0 0))) args sta 0 0 (fun _ => False)) = Q0
  refine lv_iload_n X.1 X.2.1 dX8_leastAnswer_0 rfl (lv_at hl 1 rfl) ?_
  refine lv_aload_n X.1 X.2.1 dX8_leastAnswer_1 rfl (lv_at hl 0 rfl) ?_
  refine gC_20_0 X hP mF_X8_15 dX8_leastAnswer_2 ?_
  refine nC_1_7 X hP mF_X8_65 dX8_leastAnswer_5 ?_
  refine lv_iload_n X.1 X.2.1 dX8_leastAnswer_8 rfl (lv_at hl 2 rfl) ?_
  refine lC_6 X hP (by omega) (v := nI (N 4 p)) (hN.ah (by omega)) dX8_leastAnswer_9 ?_
  refine rn_and X dX8_leastAnswer_10 ?_
  refine lv_istore_n (lv' := [(3, .int (nI (S &&& (N 4 p)))), (0, .ref (a 20)), (1, .int (nI S)), (2, .int (nI p))]) X.1 X.2.1 dX8_leastAnswer_11 rfl hl (by decide) rfl (fun ls hl => ?_)
  refine lv_iconst (v := nI 0) X.1 X.2.1 dX8_leastAnswer_12 (by decide) ?_
  refine lv_istore (lv' := [(4, .int (nI 0)), (3, .int (nI (S &&& (N 4 p)))), (0, .ref (a 20)), (1, .int (nI S)), (2, .int (nI p))]) X.1 X.2.1 dX8_leastAnswer_13 hl (by decide) rfl (fun ls hl => ?_)
  have L15 : ∀ (K : Nat) (q : Nat), N 0 0 - q < K → (q ≤ N 0 0) → (∀ j, j < q → ln_an N h S p j = false) → ∀ ls : Array Slot, lv_has ls 5 [(0, .ref (a 20)), (1, .int (nI S)), (2, .int (nI p)), (3, .int (nI (S &&& N 4 p))), (4, .int (nI q))] → W prg l env rum sta mid args below meth cod sta.heap [] 0 0 Q0 (F0 mid 15 ls []) := by
    intro K
    induction K with
    | zero => intro q hm; exact absurd hm (Nat.not_lt_zero _)
    | succ K ih15 =>
      intro q hm15 hq hj ls hl
      refine lv_iload X.1 X.2.1 dX8_leastAnswer_15 (lv_at hl 4 rfl) ?_
      refine lv_aload_n X.1 X.2.1 dX8_leastAnswer_17 rfl (lv_at hl 0 rfl) ?_
      refine gC_20_0 X hP mF_X8_15 dX8_leastAnswer_18 ?_
      refine nC_1_0 X hP (v := nI (N 0 0)) hN.n mF_X8_43 dX8_leastAnswer_21 ?_
      refine rn_ge X (by omega) (by omega) (tgt := 72) dX8_leastAnswer_24 (by decide) (fun h24 => ?_) (fun h24 => ?_)
      · skip
        refine lv_iconst (v := ((-1))) X.1 X.2.1 dX8_leastAnswer_72 (by decide) ?_
        subst hQ0
        exact ln_retR X hr hlk rfl (by first | exact ln_fr_none (fun j hj2 => hj j (by omega)) | exact ln_fr_none (fun j hj2 => by by_cases e : j < q; (· exact hj j e); (· exact ln_an_a hW (ln_shr0 h31 (by omega))))) dX8_leastAnswer_73
      · skip
        refine lv_iload_n X.1 X.2.1 dX8_leastAnswer_27 rfl (lv_at hl 3 rfl) ?_
        refine lv_iload X.1 X.2.1 dX8_leastAnswer_28 (lv_at hl 4 rfl) ?_
        refine rn_shr X (ln_31 (ln_and_lt (ln_n12 hW hS))) (by omega) dX8_leastAnswer_30 ?_
        refine rn_eq0 X (ln_31 (ln_shr_lt (ln_and_lt (ln_n12 hW hS)))) (tgt := 72) dX8_leastAnswer_31 (by decide) (fun h31 => ?_) (fun h31 => ?_)
        · skip
          refine lv_iconst (v := ((-1))) X.1 X.2.1 dX8_leastAnswer_72 (by decide) ?_
          subst hQ0
          exact ln_retR X hr hlk rfl (by first | exact ln_fr_none (fun j hj2 => hj j (by omega)) | exact ln_fr_none (fun j hj2 => by by_cases e : j < q; (· exact hj j e); (· exact ln_an_a hW (ln_shr0 h31 (by omega))))) dX8_leastAnswer_73
        · skip
          refine lv_iload_n X.1 X.2.1 dX8_leastAnswer_34 rfl (lv_at hl 3 rfl) ?_
          refine lv_iload X.1 X.2.1 dX8_leastAnswer_35 (lv_at hl 4 rfl) ?_
          refine ln_nR X (c_X9_hasPost l D g 0 (S &&& N 4 p) q (ln_31 (ln_and_lt (ln_n12 hW hS))) (by omega) (Nat.le_refl _)) ln_nil mM_X8_58 Y_X9_hasPost rfl (by omega) hl.1 rfl (Nat.le_of_ble_eq_true rfl) dX8_leastAnswer_37 ⟨Nat.zero_le _, Nat.zero_le _⟩ (fun r37 hr37 => ?_)
          subst hr37
          refine rn_eqB X (tgt := 66) dX8_leastAnswer_40 (by decide) (fun h40 => ?_) (fun h40 => ?_)
          · skip
            refine lv_iinc (v := nI (q + 1)) (lv' := [(4, .int (nI (q + 1))), (0, .ref (a 20)), (1, .int (nI S)), (2, .int (nI p)), (3, .int (nI (S &&& N 4 p)))]) X.1 X.2.1 dX8_leastAnswer_66 hl (k := 4) rfl rn_inc (by decide) rfl (fun ls hl => ?_)
            refine lv_goto (tgt := 15) X.1 X.2.1 dX8_leastAnswer_69 (by decide) ?_
            exact ih15 (q + 1) (by omega) (by omega) (ln_lt_s hj (by first | exact ln_an_a hW h40 | exact ln_an_b h60)) ls (lv_sub hl [1, 2, 3, 4, 0] rfl)
          · skip
            refine lv_aload_n X.1 X.2.1 dX8_leastAnswer_43 rfl (lv_at hl 0 rfl) ?_
            refine gC_20_1 X hP mF_X8_9 dX8_leastAnswer_44 ?_
            refine lv_iload_n X.1 X.2.1 dX8_leastAnswer_47 rfl (lv_at hl 1 rfl) ?_
            refine lv_iconst (v := nI 1) X.1 X.2.1 dX8_leastAnswer_48 (by decide) ?_
            refine lv_iload X.1 X.2.1 dX8_leastAnswer_49 (lv_at hl 4 rfl) ?_
            refine rn_shl X (by omega) dX8_leastAnswer_51 ?_
            refine lv_iconst (v := ((-1))) X.1 X.2.1 dX8_leastAnswer_52 (by decide) ?_
            refine lv_ixor X.1 X.2.1 dX8_leastAnswer_53 ?_
            refine rn_nt X dX8_leastAnswer_54 ?_
            refine lv_iconst (v := nI 1) X.1 X.2.1 dX8_leastAnswer_55 (by decide) ?_
            refine lv_iload_n X.1 X.2.1 dX8_leastAnswer_56 rfl (lv_at hl 2 rfl) ?_
            refine rn_shl X (by omega) dX8_leastAnswer_57 ?_
            refine rn_or X dX8_leastAnswer_58 ?_
            refine lC_21 X hP (ln_n12 hW (ln_mv_lt hS hp)) (v := ln_b (h (ln_df S (2 ^ q) ||| 2 ^ p))) (hHo _ (ln_mv_lt hS hp)) dX8_leastAnswer_59 ?_
            refine rn_eqB X (tgt := 66) dX8_leastAnswer_60 (by decide) (fun h60 => ?_) (fun h60 => ?_)
            · skip
              refine lv_iinc (v := nI (q + 1)) (lv' := [(4, .int (nI (q + 1))), (0, .ref (a 20)), (1, .int (nI S)), (2, .int (nI p)), (3, .int (nI (S &&& N 4 p)))]) X.1 X.2.1 dX8_leastAnswer_66 hl (k := 4) rfl rn_inc (by decide) rfl (fun ls hl => ?_)
              refine lv_goto (tgt := 15) X.1 X.2.1 dX8_leastAnswer_69 (by decide) ?_
              exact ih15 (q + 1) (by omega) (by omega) (ln_lt_s hj (by first | exact ln_an_a hW h40 | exact ln_an_b h60)) ls (lv_sub hl [1, 2, 3, 4, 0] rfl)
            · skip
              refine lv_iload X.1 X.2.1 dX8_leastAnswer_63 (lv_at hl 4 rfl) ?_
              subst hQ0
              exact ln_retR X hr hlk rfl (ln_fr_eq (ln_an_c hW h40 h60) hj h24) dX8_leastAnswer_65
  exact L15 _ 0 (Nat.lt_succ_self _) (Nat.zero_le _) (fun j h => absurd h (Nat.not_lt_zero j)) ls (lv_sub hl [2, 3, 4, 1, 0] rfl)
set_option maxHeartbeats 4000000 in
set_option maxRecDepth 100000 in
theorem c_X8_answersAll (l : Launch) (D : va_G) (g : Nat → ClassId) (a : Nat → Nat) (σ : ln_S) (d : Nat) (N : ln_N) (hW : ln_wf N) (hN : ln_nC N σ) (h : Nat → Bool) (hHo : ∀ T, T < 2 ^ N 0 0 → σ 21 T = ln_b (h T)) (S : Nat) (hS : S < 2 ^ N 0 0) (hd : 2 ≤ d) : ln_R l D g (CW a g σ) yX8_answersAll (.code yX8_answersAll cX8_answersAll 3 (some .boolean)) d [.ref (a 20), .int (nI S)] (fun z => z = ln_b (ln_aa N h S)) := by
  have hN12 := hW.n12
  have hp12 := hW.p12
  have hs1 := ln_sub1 (N 0 0)
  refine ln_ofR (by decide +kernel) (Nat.le_of_ble_eq_true rfl) (fun prg env rum sta mid args below meth cod ls hr hlk X hP hl => ?_)
  have hl : lv_has ls 3 [(0, .ref (a 20)), (1, .int (nI S))] := hl
  generalize hQ0 : (MQ below (vp_Si (fun z => z = ln_b (ln_aa N h S))) args sta 0 0 (fun _ => False)) = Q0
  refine lv_iconst (v := nI 0) X.1 X.2.1 dX8_answersAll_0 (by decide) ?_
  refine lv_istore_n (lv' := [(2, .int (nI 0)), (0, .ref (a 20)), (1, .int (nI S))]) X.1 X.2.1 dX8_answersAll_1 rfl hl (by decide) rfl (fun ls hl => ?_)
  have L2 : ∀ (K : Nat) (p : Nat), N 0 0 - p < K → (p ≤ N 0 0) → (∀ j, j < p → S.testBit j = false → ln_fs (ln_an N h S j) (N 0 0) < N 0 0) → ∀ ls : Array Slot, lv_has ls 3 [(0, .ref (a 20)), (1, .int (nI S)), (2, .int (nI p))] → W prg l env rum sta mid args below meth cod sta.heap [] 0 0 Q0 (F0 mid 2 ls []) := by
    intro K
    induction K with
    | zero => intro p hm; exact absurd hm (Nat.not_lt_zero _)
    | succ K ih2 =>
      intro p hm2 hp hj ls hl
      refine lv_iload_n X.1 X.2.1 dX8_answersAll_2 rfl (lv_at hl 2 rfl) ?_
      refine lv_aload_n X.1 X.2.1 dX8_answersAll_3 rfl (lv_at hl 0 rfl) ?_
      refine gC_20_0 X hP mF_X8_15 dX8_answersAll_4 ?_
      refine nC_1_0 X hP (v := nI (N 0 0)) hN.n mF_X8_43 dX8_answersAll_7 ?_
      refine rn_ge X (by omega) (by omega) (tgt := 39) dX8_answersAll_10 (by decide) (fun h10 => ?_) (fun h10 => ?_)
      · skip
        refine lv_iconst (v := nI 1) X.1 X.2.1 dX8_answersAll_39 (by decide) ?_
        subst hQ0
        exact ln_retR X hr hlk rfl (by rw [ln_aa_t (fun j h1 h2 => hj j (by omega) h2)]; rfl) dX8_answersAll_40
      · skip
        refine lv_iload_n X.1 X.2.1 dX8_answersAll_13 rfl (lv_at hl 1 rfl) ?_
        refine lv_iload_n X.1 X.2.1 dX8_answersAll_14 rfl (lv_at hl 2 rfl) ?_
        refine ln_nR X (c_X9_hasPost l D g 0 S p (ln_31 (ln_n12 hW hS)) (by omega) (Nat.le_refl _)) ln_nil mM_X8_58 Y_X9_hasPost rfl (by omega) hl.1 rfl (Nat.le_of_ble_eq_true rfl) dX8_answersAll_15 ⟨Nat.zero_le _, Nat.zero_le _⟩ (fun r15 hr15 => ?_)
        subst hr15
        refine rn_neB X (tgt := 33) dX8_answersAll_18 (by decide) (fun h18 => ?_) (fun h18 => ?_)
        · skip
          refine lv_iinc (v := nI (p + 1)) (lv' := [(2, .int (nI (p + 1))), (0, .ref (a 20)), (1, .int (nI S))]) X.1 X.2.1 dX8_answersAll_33 hl (k := 2) rfl rn_inc (by decide) rfl (fun ls hl => ?_)
          refine lv_goto (tgt := 2) X.1 X.2.1 dX8_answersAll_36 (by decide) ?_
          exact ih2 (p + 1) (by omega) (by omega) (fun j h1 h2 => by by_cases e : j = p; (· subst e; first | exact c1 | (rw [h18] at h2; exact absurd h2 (by decide))); (· exact hj j (by omega) h2)) ls (lv_sub hl [1, 2, 0] rfl)
        · skip
          refine lv_aload_n X.1 X.2.1 dX8_answersAll_21 rfl (lv_at hl 0 rfl) ?_
          refine lv_iload_n X.1 X.2.1 dX8_answersAll_22 rfl (lv_at hl 1 rfl) ?_
          refine lv_iload_n X.1 X.2.1 dX8_answersAll_23 rfl (lv_at hl 2 rfl) ?_
          refine ln_vR X (c_X8_leastAnswer l D g a σ 1 N hW hN h hHo S p hS h10 (Nat.le_refl _)) hP 20 rfl rfl mM_X8_62 Y_X8_leastAnswer rfl (by omega) hl.1 rfl (Nat.le_of_ble_eq_true rfl) dX8_answersAll_24 ⟨Nat.zero_le _, Nat.zero_le _⟩ (fun r24 hr24 => ?_)
          subst hr24
          rcases ln_fr_cases (ln_an N h S p) (N 0 0) with ⟨ez, c1⟩ | ⟨ez, c1⟩
          · refine rn_top (y := nI (ln_fs (ln_an N h S p) (N 0 0))) ez ?_
            refine lv_iconst (v := ((-1))) X.1 X.2.1 dX8_answersAll_27 (by decide) ?_
            refine lv_icmp_ne (tgt := 33) X.1 X.2.1 dX8_answersAll_28 (by decide) (fun h28 => ?_) (fun h28 => absurd h28 (ln_nI_ne (by omega)))
            refine lv_iinc (v := nI (p + 1)) (lv' := [(2, .int (nI (p + 1))), (0, .ref (a 20)), (1, .int (nI S))]) X.1 X.2.1 dX8_answersAll_33 hl (k := 2) rfl rn_inc (by decide) rfl (fun ls hl => ?_)
            refine lv_goto (tgt := 2) X.1 X.2.1 dX8_answersAll_36 (by decide) ?_
            exact ih2 (p + 1) (by omega) (by omega) (fun j h1 h2 => by by_cases e : j = p; (· subst e; first | exact c1 | (rw [h18] at h2; exact absurd h2 (by decide))); (· exact hj j (by omega) h2)) ls (lv_sub hl [1, 2, 0] rfl)
          · refine rn_top (y := ((-1))) ez ?_
            refine lv_iconst (v := ((-1))) X.1 X.2.1 dX8_answersAll_27 (by decide) ?_
            refine lv_icmp_ne (tgt := 33) X.1 X.2.1 dX8_answersAll_28 (by decide) (fun h28 => absurd rfl h28) (fun h28 => ?_)
            refine lv_iconst (v := nI 0) X.1 X.2.1 dX8_answersAll_31 (by decide) ?_
            subst hQ0
            exact ln_retR X hr hlk rfl (by rw [ln_aa_f h10 h18 c1]; rfl) dX8_answersAll_32
  exact L2 _ 0 (Nat.lt_succ_self _) (Nat.zero_le _) (fun j h => absurd h (Nat.not_lt_zero j)) ls (lv_sub hl [1, 2, 0] rfl)
set_option maxHeartbeats 4000000 in
set_option maxRecDepth 100000 in
theorem c_X8_takeFailingAway (l : Launch) (D : va_G) (g : Nat → ClassId) (a : Nat → Nat) (σ : ln_S) (d : Nat) (N : ln_N) (hW : ln_wf N) (hN : ln_nC N σ) (h : Nat → Bool) (hHo : ∀ T, T < 2 ^ N 0 0 → σ 21 T = ln_b (h T))  (hd : 3 ≤ d) : ln_U l D g (CW a g) yX8_takeFailingAway (.code yX8_takeFailingAway cX8_takeFailingAway 4 (some .boolean)) d [.ref (a 20), .int (nI (2 ^ N 0 0 - 1))] σ (fun z τ => ∃ b : Bool, z = ln_b b ∧ (∀ T, T < 2 ^ N 0 0 → τ 21 T = ln_b (ln_gs N h (2 ^ N 0 0) T)) ∧ (b = false → ∀ T, T < 2 ^ N 0 0 → ln_gs N h (2 ^ N 0 0) T = h T) ∧ ∀ c, c ≠ 21 → τ c = σ c) := by
  have hN12 := hW.n12
  have hp12 := hW.p12
  have hs1 := ln_sub1 (N 0 0)
  refine ln_ofU (by decide +kernel) (Nat.le_of_ble_eq_true rfl) (fun prg env rum sta mid args below meth cod ls A hr hlk X hA hP hDw hSw hl => ?_)
  have hl : lv_has ls 4 [(0, .ref (a 20)), (1, .int (nI (2 ^ N 0 0 - 1)))] := hl
  generalize hQ0 : (MQ below (va_Qi (fun z τ => ∃ b : Bool, z = ln_b b ∧ (∀ T, T < 2 ^ N 0 0 → τ 21 T = ln_b (ln_gs N h (2 ^ N 0 0) T)) ∧ (b = false → ∀ T, T < 2 ^ N 0 0 → ln_gs N h (2 ^ N 0 0) T = h T) ∧ ∀ c, c ≠ 21 → τ c = σ c) (fun τ t => va_P D ln_cl (CW a g τ) t.heap) A) args sta 0 0 A) = Q0
  obtain ⟨H, hH⟩ : ∃ H, H = sta.heap := ⟨_, rfl⟩
  obtain ⟨locs, hlo⟩ : ∃ x : List Loc, x = [] := ⟨_, rfl⟩
  rw [← hH] at hP
  have hSw : va_S A sta.heap H locs := by rw [hH, hlo]; exact hSw
  have goal : W prg l env rum sta mid args below meth cod H locs 0 0 Q0 (F0 mid 0 ls []) := ?_
  · rw [hH, hlo] at goal; exact goal
  clear hlo
  refine lv_iconst (v := ln_b false) X.1 X.2.1 dX8_takeFailingAway_0 (by decide) ?_
  refine lv_istore_n (lv' := [(2, .int (ln_b false)), (0, .ref (a 20)), (1, .int (nI (2 ^ N 0 0 - 1)))]) X.1 X.2.1 dX8_takeFailingAway_1 rfl hl (by decide) rfl (fun ls hl => ?_)
  refine lv_iconst (v := nI 0) X.1 X.2.1 dX8_takeFailingAway_2 (by decide) ?_
  refine lv_istore_n (lv' := [(3, .int (nI 0)), (2, .int (ln_b false)), (0, .ref (a 20)), (1, .int (nI (2 ^ N 0 0 - 1)))]) X.1 X.2.1 dX8_takeFailingAway_3 rfl hl (by decide) rfl (fun ls hl => ?_)
  have L4 : ∀ (K : Nat) (k : Nat) (b : Bool) (τ : ln_S) (H : Heap) (locs : List Loc), 2 ^ N 0 0 - k < K → (k ≤ 2 ^ N 0 0) → (∀ T, T < 2 ^ N 0 0 → τ 21 T = ln_b (ln_gs N h k T)) → (b = false → ∀ T, T < 2 ^ N 0 0 → ln_gs N h k T = h T) → (∀ c, c ≠ 21 → τ c = σ c) → va_P D ln_cl (CW a g τ) H → va_D A (CW a g τ) → va_S A sta.heap H locs → ∀ ls : Array Slot, lv_has ls 4 [(0, .ref (a 20)), (1, .int (nI (2 ^ N 0 0 - 1))), (2, .int (ln_b b)), (3, .int (nI k))] → W prg l env rum sta mid args below meth cod H locs 0 0 Q0 (F0 mid 4 ls []) := by
    intro K
    induction K with
    | zero => intro k b τ H locs hm; exact absurd hm (Nat.not_lt_zero _)
    | succ K ih4 =>
      intro k b τ H locs hm4 hk hT hb ho hP hDw hSw ls hl
      have hN : ln_nC N τ := hN.of (fun c hc => ho c (by omega))
      refine lv_iload_n X.1 X.2.1 dX8_takeFailingAway_4 rfl (lv_at hl 3 rfl) ?_
      refine lv_iload_n X.1 X.2.1 dX8_takeFailingAway_5 rfl (lv_at hl 1 rfl) ?_
      refine rn_gt X (by omega) (ln_31 (Nat.lt_of_lt_of_le (Nat.sub_lt (ln_pos2 _) (by decide)) hp12)) (tgt := 41) dX8_takeFailingAway_6 (by decide) (fun h6 => ?_) (fun h6 => ?_)
      · skip
        refine lv_iload_n X.1 X.2.1 dX8_takeFailingAway_41 rfl (lv_at hl 2 rfl) ?_
        subst hQ0
        exact ln_retU X hr hlk hP hSw (ln_b_nar _) ⟨b, rfl, by rw [show 2 ^ N 0 0 = k by omega]; intro T h1; exact hT T (by omega), by rw [show 2 ^ N 0 0 = k by omega]; exact fun q T h1 => hb q T (by omega), ho⟩ dX8_takeFailingAway_42
      · skip
        refine lv_aload_n X.1 X.2.1 dX8_takeFailingAway_9 rfl (lv_at hl 0 rfl) ?_
        refine gC_20_1 X hP mF_X8_9 dX8_takeFailingAway_10 ?_
        refine lv_iload_n X.1 X.2.1 dX8_takeFailingAway_13 rfl (lv_at hl 3 rfl) ?_
        refine lC_21 X hP (by omega) (v := ln_b (ln_gs N h k k)) (hT k (by omega)) dX8_takeFailingAway_14 ?_
        refine rn_eqB X (tgt := 35) dX8_takeFailingAway_15 (by decide) (fun h15 => ?_) (fun h15 => ?_)
        · skip
          refine lv_iinc (v := nI (k + 1)) (lv' := [(3, .int (nI (k + 1))), (0, .ref (a 20)), (1, .int (nI (2 ^ N 0 0 - 1))), (2, .int (ln_b b))]) X.1 X.2.1 dX8_takeFailingAway_35 hl (k := 3) rfl rn_inc (by decide) rfl (fun ls hl => ?_)
          refine lv_goto (tgt := 4) X.1 X.2.1 dX8_takeFailingAway_38 (by decide) ?_
          exact ih4 (k + 1) _ τ H locs (by omega) (by omega) (by first | exact (fun T h1 => by rw [ln_gs_keep (Or.inl h15) T]; exact hT T h1) | exact (fun T h1 => by rw [ln_gs_keep (Or.inr h23) T]; exact hT T h1) | exact (fun T h1 => by rw [hτ1, ln_up_s, ln_gs_drop h23 T]; by_cases e : T = k; (· subst e; rw [ln_upd_s, if_pos rfl]; rfl); (· rw [ln_upd_n e, if_neg e]; exact hT T h1))) (by first | (intro q; exact absurd q (by decide)) | exact (fun q T h1 => by rw [ln_gs_keep (Or.inl h15) T]; exact hb q T h1) | exact (fun q T h1 => by rw [ln_gs_keep (Or.inr h23) T]; exact hb q T h1)) (by first | exact ho | exact (fun c hc => by rw [hτ1, ln_up_n _ _ hc]; exact ho c hc)) hP hDw hSw ls (lv_sub hl [1, 2, 3, 0] rfl)
        · skip
          refine lv_aload_n X.1 X.2.1 dX8_takeFailingAway_18 rfl (lv_at hl 0 rfl) ?_
          refine lv_iload_n X.1 X.2.1 dX8_takeFailingAway_19 rfl (lv_at hl 3 rfl) ?_
          refine ln_vR X (c_X8_answersAll l D g a τ 2 N hW hN (ln_gs N h k) hT k (show k < 2 ^ N 0 0 by omega) (Nat.le_refl _)) hP 20 rfl rfl mM_X8_69 Y_X8_answersAll rfl (by omega) hl.1 rfl (Nat.le_of_ble_eq_true rfl) dX8_takeFailingAway_20 ⟨Nat.zero_le _, Nat.zero_le _⟩ (fun r20 hr20 => ?_)
          subst hr20
          refine rn_neB X (tgt := 35) dX8_takeFailingAway_23 (by decide) (fun h23 => ?_) (fun h23 => ?_)
          · skip
            refine lv_iinc (v := nI (k + 1)) (lv' := [(3, .int (nI (k + 1))), (0, .ref (a 20)), (1, .int (nI (2 ^ N 0 0 - 1))), (2, .int (ln_b b))]) X.1 X.2.1 dX8_takeFailingAway_35 hl (k := 3) rfl rn_inc (by decide) rfl (fun ls hl => ?_)
            refine lv_goto (tgt := 4) X.1 X.2.1 dX8_takeFailingAway_38 (by decide) ?_
            exact ih4 (k + 1) _ τ H locs (by omega) (by omega) (by first | exact (fun T h1 => by rw [ln_gs_keep (Or.inl h15) T]; exact hT T h1) | exact (fun T h1 => by rw [ln_gs_keep (Or.inr h23) T]; exact hT T h1) | exact (fun T h1 => by rw [hτ1, ln_up_s, ln_gs_drop h23 T]; by_cases e : T = k; (· subst e; rw [ln_upd_s, if_pos rfl]; rfl); (· rw [ln_upd_n e, if_neg e]; exact hT T h1))) (by first | (intro q; exact absurd q (by decide)) | exact (fun q T h1 => by rw [ln_gs_keep (Or.inl h15) T]; exact hb q T h1) | exact (fun q T h1 => by rw [ln_gs_keep (Or.inr h23) T]; exact hb q T h1)) (by first | exact ho | exact (fun c hc => by rw [hτ1, ln_up_n _ _ hc]; exact ho c hc)) hP hDw hSw ls (lv_sub hl [1, 2, 3, 0] rfl)
          · skip
            refine lv_aload_n X.1 X.2.1 dX8_takeFailingAway_26 rfl (lv_at hl 0 rfl) ?_
            refine gC_20_1 X hP mF_X8_9 dX8_takeFailingAway_27 ?_
            refine lv_iload_n X.1 X.2.1 dX8_takeFailingAway_30 rfl (lv_at hl 3 rfl) ?_
            refine lv_iconst (v := nI 0) X.1 X.2.1 dX8_takeFailingAway_31 (by decide) ?_
            refine sC_21 X hP hDw hSw (show k < 4096 by omega) rfl dX8_takeFailingAway_32 (fun H locs hP hDw hSw => ?_)
            obtain ⟨τ1, hτ1⟩ : ∃ z : ln_S, z = (ln_up τ 21 (upd (τ 21) k (nI 0))) := ⟨_, rfl⟩
            rw [← hτ1] at hP hDw
            refine lv_iconst (v := ln_b true) X.1 X.2.1 dX8_takeFailingAway_33 (by decide) ?_
            refine lv_istore_n (lv' := [(2, .int (ln_b true)), (0, .ref (a 20)), (1, .int (nI (2 ^ N 0 0 - 1))), (3, .int (nI k))]) X.1 X.2.1 dX8_takeFailingAway_34 rfl hl (by decide) rfl (fun ls hl => ?_)
            refine lv_iinc (v := nI (k + 1)) (lv' := [(3, .int (nI (k + 1))), (2, .int (ln_b true)), (0, .ref (a 20)), (1, .int (nI (2 ^ N 0 0 - 1)))]) X.1 X.2.1 dX8_takeFailingAway_35 hl (k := 3) rfl rn_inc (by decide) rfl (fun ls hl => ?_)
            refine lv_goto (tgt := 4) X.1 X.2.1 dX8_takeFailingAway_38 (by decide) ?_
            exact ih4 (k + 1) _ τ1 H locs (by omega) (by omega) (by first | exact (fun T h1 => by rw [ln_gs_keep (Or.inl h15) T]; exact hT T h1) | exact (fun T h1 => by rw [ln_gs_keep (Or.inr h23) T]; exact hT T h1) | exact (fun T h1 => by rw [hτ1, ln_up_s, ln_gs_drop h23 T]; by_cases e : T = k; (· subst e; rw [ln_upd_s, if_pos rfl]; rfl); (· rw [ln_upd_n e, if_neg e]; exact hT T h1))) (by first | (intro q; exact absurd q (by decide)) | exact (fun q T h1 => by rw [ln_gs_keep (Or.inl h15) T]; exact hb q T h1) | exact (fun q T h1 => by rw [ln_gs_keep (Or.inr h23) T]; exact hb q T h1)) (by first | exact ho | exact (fun c hc => by rw [hτ1, ln_up_n _ _ hc]; exact ho c hc)) hP hDw hSw ls (lv_sub hl [2, 3, 1, 0] rfl)
  exact L4 _ 0 false σ H locs (Nat.lt_succ_self _) (Nat.zero_le _) hHo (fun _ T _ => rfl) (fun c _ => rfl) hP hDw hSw ls (lv_sub hl [2, 3, 1, 0] rfl)
set_option maxHeartbeats 4000000 in
set_option maxRecDepth 100000 in
theorem c_X8_fillHolding (l : Launch) (D : va_G) (g : Nat → ClassId) (a : Nat → Nat) (σ : ln_S) (d : Nat) (N : ln_N) (hW : ln_wf N) (hN : ln_nC N σ)  (hd : 4 ≤ d) : ln_V l D g (CW a g) yX8_fillHolding (.code yX8_fillHolding cX8_fillHolding 4 none) d [.ref (a 20)] σ (fun τ => ln_hT N τ ∧ ∀ c, c ≠ 21 → τ c = σ c) := by
  have hN12 := hW.n12
  have hp12 := hW.p12
  have hs1 := ln_sub1 (N 0 0)
  refine ln_ofV (by decide +kernel) (Nat.le_of_ble_eq_true rfl) (fun prg env rum sta mid args below meth cod ls A hr hlk X hA hP hDw hSw hl => ?_)
  have hl : lv_has ls 4 [(0, .ref (a 20))] := hl
  generalize hQ0 : (MQ below (va_Qv (fun τ => ln_hT N τ ∧ ∀ c, c ≠ 21 → τ c = σ c) (fun τ t => va_P D ln_cl (CW a g τ) t.heap) A) args sta 0 0 A) = Q0
  obtain ⟨H, hH⟩ : ∃ H, H = sta.heap := ⟨_, rfl⟩
  obtain ⟨locs, hlo⟩ : ∃ x : List Loc, x = [] := ⟨_, rfl⟩
  rw [← hH] at hP
  have hSw : va_S A sta.heap H locs := by rw [hH, hlo]; exact hSw
  have goal : W prg l env rum sta mid args below meth cod H locs 0 0 Q0 (F0 mid 0 ls []) := ?_
  · rw [hH, hlo] at goal; exact goal
  clear hlo
  refine lv_aload_n X.1 X.2.1 dX8_fillHolding_0 rfl (lv_at hl 0 rfl) ?_
  refine gC_20_0 X hP mF_X8_15 dX8_fillHolding_1 ?_
  refine ln_vR X (c_X4_allPosts l D g a σ 0 N hW hN (Nat.le_refl _)) hP 1 rfl rfl mM_X8_31 Y_X4_allPosts rfl (by omega) hl.1 rfl (Nat.le_of_ble_eq_true rfl) dX8_fillHolding_4 ⟨Nat.zero_le _, Nat.zero_le _⟩ (fun r4 hr4 => ?_)
  subst hr4
  refine lv_istore_n (lv' := [(1, .int (nI (2 ^ N 0 0 - 1))), (0, .ref (a 20))]) X.1 X.2.1 dX8_fillHolding_7 rfl hl (by decide) rfl (fun ls hl => ?_)
  refine lv_iconst (v := nI 0) X.1 X.2.1 dX8_fillHolding_8 (by decide) ?_
  refine lv_istore_n (lv' := [(2, .int (nI 0)), (1, .int (nI (2 ^ N 0 0 - 1))), (0, .ref (a 20))]) X.1 X.2.1 dX8_fillHolding_9 rfl hl (by decide) rfl (fun ls hl => ?_)
  have L10 : ∀ (K : Nat) (k : Nat) (τ : ln_S) (H : Heap) (locs : List Loc), 2 ^ N 0 0 - k < K → (k ≤ 2 ^ N 0 0) → (∀ T, T < k → τ 21 T = ln_b true) → (∀ c, c ≠ 21 → τ c = σ c) → va_P D ln_cl (CW a g τ) H → va_D A (CW a g τ) → va_S A sta.heap H locs → ∀ ls : Array Slot, lv_has ls 4 [(0, .ref (a 20)), (1, .int (nI (2 ^ N 0 0 - 1))), (2, .int (nI k))] → W prg l env rum sta mid args below meth cod H locs 0 0 Q0 (F0 mid 10 ls []) := by
    intro K
    induction K with
    | zero => intro k τ H locs hm; exact absurd hm (Nat.not_lt_zero _)
    | succ K ih10 =>
      intro k τ H locs hm10 hk hT ho hP hDw hSw ls hl
      refine lv_iload_n X.1 X.2.1 dX8_fillHolding_10 rfl (lv_at hl 2 rfl) ?_
      refine lv_iload_n X.1 X.2.1 dX8_fillHolding_11 rfl (lv_at hl 1 rfl) ?_
      refine rn_gt X (by omega) (ln_31 (Nat.lt_of_lt_of_le (Nat.sub_lt (ln_pos2 _) (by decide)) hp12)) (tgt := 28) dX8_fillHolding_12 (by decide) (fun h12 => ?_) (fun h12 => ?_)
      · skip
        refine lv_iconst (v := ln_b true) X.1 X.2.1 dX8_fillHolding_28 (by decide) ?_
        refine lv_istore_n (lv' := [(2, .int (ln_b true)), (0, .ref (a 20)), (1, .int (nI (2 ^ N 0 0 - 1)))]) X.1 X.2.1 dX8_fillHolding_29 rfl hl (by decide) rfl (fun ls hl => ?_)
        refine lv_iconst (v := nI 0) X.1 X.2.1 dX8_fillHolding_30 (by decide) ?_
        refine lv_istore_n (lv' := [(3, .int (nI 0)), (2, .int (ln_b true)), (0, .ref (a 20)), (1, .int (nI (2 ^ N 0 0 - 1)))]) X.1 X.2.1 dX8_fillHolding_31 rfl hl (by decide) rfl (fun ls hl => ?_)
        have L32 : ∀ (K : Nat) (k : Nat) (b : Bool) (τ : ln_S) (H : Heap) (locs : List Loc), 4097 - k < K → (k ≤ 4097) → (∀ T, T < 2 ^ N 0 0 → τ 21 T = ln_b (ln_gr N k T)) → (b = false → ∀ T, T < 2 ^ N 0 0 → ln_gs N (ln_gr N k) (2 ^ N 0 0) T = ln_gr N k T) → (∀ c, c ≠ 21 → τ c = σ c) → va_P D ln_cl (CW a g τ) H → va_D A (CW a g τ) → va_S A sta.heap H locs → ∀ ls : Array Slot, lv_has ls 4 [(0, .ref (a 20)), (1, .int (nI (2 ^ N 0 0 - 1))), (2, .int (ln_b b)), (3, .int (nI k))] → W prg l env rum sta mid args below meth cod H locs 0 0 Q0 (F0 mid 32 ls []) := by
          intro K
          induction K with
          | zero => intro k b τ H locs hm; exact absurd hm (Nat.not_lt_zero _)
          | succ K ih32 =>
            intro k b τ H locs hm32 hk hT hb ho hP hDw hSw ls hl
            have hN : ln_nC N τ := hN.of (fun c hc => ho c (by omega))
            refine lv_iload_n X.1 X.2.1 dX8_fillHolding_32 rfl (lv_at hl 3 rfl) ?_
            refine lv_sipush (v := nI 4096) X.1 X.2.1 dX8_fillHolding_33 (by decide) ?_
            refine rn_gt X (by omega) (by decide) (tgt := 55) dX8_fillHolding_36 (by decide) (fun h36 => ?_) (fun h36 => ?_)
            · skip
              subst hQ0
              exact ln_retV X hr hlk hP hSw (by first | exact ⟨fun T h1 => by rw [hT T h1, ln_gr_hd (by omega) (hb h40) h1], ho⟩ | exact ⟨fun T h1 => by rw [hT T h1, show k = 4097 by omega]; rfl, ho⟩) dX8_fillHolding_55
            · skip
              refine lv_iload_n X.1 X.2.1 dX8_fillHolding_39 rfl (lv_at hl 2 rfl) ?_
              refine rn_eqB X (tgt := 55) dX8_fillHolding_40 (by decide) (fun h40 => ?_) (fun h40 => ?_)
              · skip
                subst hQ0
                exact ln_retV X hr hlk hP hSw (by first | exact ⟨fun T h1 => by rw [hT T h1, ln_gr_hd (by omega) (hb h40) h1], ho⟩ | exact ⟨fun T h1 => by rw [hT T h1, show k = 4097 by omega]; rfl, ho⟩) dX8_fillHolding_55
              · skip
                refine lv_aload_n X.1 X.2.1 dX8_fillHolding_43 rfl (lv_at hl 0 rfl) ?_
                refine lv_iload_n X.1 X.2.1 dX8_fillHolding_44 rfl (lv_at hl 1 rfl) ?_
                refine ln_vU X (CW_ad a g) hA (c_X8_takeFailingAway l D g a τ 3 N hW hN (ln_gr N k) hT (Nat.le_refl _)) hP hDw hSw 20 rfl rfl mM_X8_35 Y_X8_takeFailingAway rfl (by omega) hl.1 rfl (Nat.le_of_ble_eq_true rfl) dX8_fillHolding_45 ⟨Nat.zero_le _, Nat.zero_le _⟩ (fun r45 τ45 H locs hr45 hP hDw hSw => ?_)
                obtain ⟨b1, hz45, t2, t3, t4⟩ := hr45
                subst hz45
                refine lv_istore_n (lv' := [(2, .int (ln_b b1)), (0, .ref (a 20)), (1, .int (nI (2 ^ N 0 0 - 1))), (3, .int (nI k))]) X.1 X.2.1 dX8_fillHolding_48 rfl hl (by decide) rfl (fun ls hl => ?_)
                refine lv_iinc (v := nI (k + 1)) (lv' := [(3, .int (nI (k + 1))), (2, .int (ln_b b1)), (0, .ref (a 20)), (1, .int (nI (2 ^ N 0 0 - 1)))]) X.1 X.2.1 dX8_fillHolding_49 hl (k := 3) rfl rn_inc (by decide) rfl (fun ls hl => ?_)
                refine lv_goto (tgt := 32) X.1 X.2.1 dX8_fillHolding_52 (by decide) ?_
                exact ih32 (k + 1) _ τ45 H locs (by omega) (by omega) t2 (fun q T h1 => ln_gs_cong (h := ln_gr N (k + 1)) (g := ln_gr N k) (t3 q) (Nat.le_refl _) T h1) (fun c hc => (t4 c hc).trans (ho c hc)) hP hDw hSw ls (lv_sub hl [2, 3, 1, 0] rfl)
        exact L32 _ 0 true τ H locs (Nat.lt_succ_self _) (Nat.zero_le _) (fun T h => hT T (by omega)) (fun q => absurd q (by decide)) ho hP hDw hSw ls (lv_sub hl [2, 3, 1, 0] rfl)
      · skip
        refine lv_aload_n X.1 X.2.1 dX8_fillHolding_15 rfl (lv_at hl 0 rfl) ?_
        refine gC_20_1 X hP mF_X8_9 dX8_fillHolding_16 ?_
        refine lv_iload_n X.1 X.2.1 dX8_fillHolding_19 rfl (lv_at hl 2 rfl) ?_
        refine lv_iconst (v := ln_b true) X.1 X.2.1 dX8_fillHolding_20 (by decide) ?_
        refine sC_21 X hP hDw hSw (by omega) (ln_b_zar _) dX8_fillHolding_21 (fun H locs hP hDw hSw => ?_)
        obtain ⟨τ1, hτ1⟩ : ∃ z : ln_S, z = (ln_up τ 21 (upd (τ 21) k (ln_b true))) := ⟨_, rfl⟩
        rw [← hτ1] at hP hDw
        refine lv_iinc (v := nI (k + 1)) (lv' := [(2, .int (nI (k + 1))), (0, .ref (a 20)), (1, .int (nI (2 ^ N 0 0 - 1)))]) X.1 X.2.1 dX8_fillHolding_22 hl (k := 2) rfl rn_inc (by decide) rfl (fun ls hl => ?_)
        refine lv_goto (tgt := 10) X.1 X.2.1 dX8_fillHolding_25 (by decide) ?_
        exact ih10 (k + 1) τ1 H locs (by omega) (by omega) (fun T h1 => by rw [hτ1, ln_up_s]; by_cases e : T = k; (· subst e; rw [ln_upd_s]); (· rw [ln_upd_n e]; exact hT T (by omega))) (fun c hc => by rw [hτ1, ln_up_n _ _ hc]; exact ho c hc) hP hDw hSw ls (lv_sub hl [1, 2, 0] rfl)
  exact L10 _ 0 σ H locs (Nat.lt_succ_self _) (Nat.zero_le _) (fun T h => absurd h (Nat.not_lt_zero T)) (fun c _ => rfl) hP hDw hSw ls (lv_sub hl [2, 1, 0] rfl)
set_option maxHeartbeats 4000000 in
set_option maxRecDepth 100000 in
theorem c_X8_freshHolding (l : Launch) (D : va_G) (g : Nat → ClassId) (a : Nat → Nat) (σ : ln_S) (d : Nat) (N : ln_N) (hW : ln_wf N) (hN : ln_nC N σ) (rv bv : Nat) (hV : ln_vs σ rv bv) (hHK : ln_hK N σ rv)  (hd : 5 ≤ d) : ln_F l D g (CW a g) yX8_freshHolding (.code yX8_freshHolding cX8_freshHolding 1 (some (.array .boolean))) d [.ref (a 20)] σ (a 21) (fun τ => ln_hT N τ ∧ ln_hK N τ rv ∧ ∀ c, c ≠ 20 → c ≠ 21 → τ c = σ c) := by
  have hN12 := hW.n12
  have hp12 := hW.p12
  have hs1 := ln_sub1 (N 0 0)
  obtain ⟨e0, he0, hle, himp⟩ := hHK
  have hrv : rv < 1000000 := by have := hV.2.2.2; omega
  refine ln_ofF (by decide +kernel) (Nat.le_of_ble_eq_true rfl) (fun prg env rum sta mid args below meth cod ls A hr hlk X hA hP hDw hSw hl => ?_)
  have hl : lv_has ls 1 [(0, .ref (a 20))] := hl
  generalize hQ0 : (MQ below (va_Qr (fun τ => ln_hT N τ ∧ ln_hK N τ rv ∧ ∀ c, c ≠ 20 → c ≠ 21 → τ c = σ c) (fun τ a1 t => a1 = a 21 ∧ va_P D ln_cl (CW a g τ) t.heap) A) args sta 0 0 A) = Q0
  obtain ⟨H, hH⟩ : ∃ H, H = sta.heap := ⟨_, rfl⟩
  obtain ⟨locs, hlo⟩ : ∃ x : List Loc, x = [] := ⟨_, rfl⟩
  rw [← hH] at hP
  have hSw : va_S A sta.heap H locs := by rw [hH, hlo]; exact hSw
  have goal : W prg l env rum sta mid args below meth cod H locs 0 0 Q0 (F0 mid 0 ls []) := ?_
  · rw [hH, hlo] at goal; exact goal
  clear hlo
  refine lv_aload_n X.1 X.2.1 dX8_freshHolding_0 rfl (lv_at hl 0 rfl) ?_
  refine gC_20_2 X hP (v := nI e0) he0 mF_X8_19 dX8_freshHolding_1 ?_
  refine lv_aload_n X.1 X.2.1 dX8_freshHolding_4 rfl (lv_at hl 0 rfl) ?_
  refine gC_20_0 X hP mF_X8_15 dX8_freshHolding_5 ?_
  refine nC_1_1 X hP (v := nI rv) hV.1 mF_X8_23 dX8_freshHolding_8 ?_
  refine rn_eq X (by omega) (by omega) (tgt := 29) dX8_freshHolding_11 (by decide) (fun h11 => ?_) (fun h11 => ?_)
  · skip
    refine lv_aload_n X.1 X.2.1 dX8_freshHolding_29 rfl (lv_at hl 0 rfl) ?_
    refine gC_20_1 X hP mF_X8_9 dX8_freshHolding_30 ?_
    subst hQ0
    exact ln_retF X hr hlk hP hSw (by first | exact ⟨himp h11, ⟨e0, he0, hle, himp⟩, fun c _ _ => rfl⟩ | exact ⟨hTT, ⟨rv, by rw [hτ1, ln_up_s, ln_upd_s], Nat.le_refl _, fun _ => hTT⟩, fun c h1 h2 => by rw [hτ1, ln_up_n _ _ h1]; exact q2 c h2⟩) dX8_freshHolding_33
  · skip
    refine lv_aload_n X.1 X.2.1 dX8_freshHolding_14 rfl (lv_at hl 0 rfl) ?_
    refine ln_vV X (CW_ad a g) hA (c_X8_fillHolding l D g a σ 4 N hW hN (Nat.le_refl _)) hP hDw hSw 20 rfl rfl mM_X8_28 Y_X8_fillHolding rfl (by omega) hl.1 rfl (Nat.le_of_ble_eq_true rfl) dX8_freshHolding_15 ⟨Nat.zero_le _, Nat.zero_le _⟩ (fun τ15 H locs hr15 hP hDw hSw => ?_)
    obtain ⟨q1, q2⟩ := hr15
    have hV1 : ln_vs τ15 rv bv := hV.of (q2 1 (by decide))
    refine lv_aload_n X.1 X.2.1 dX8_freshHolding_18 rfl (lv_at hl 0 rfl) ?_
    refine lv_aload_n X.1 X.2.1 dX8_freshHolding_19 rfl (lv_at hl 0 rfl) ?_
    refine gC_20_0 X hP mF_X8_15 dX8_freshHolding_20 ?_
    refine nC_1_1 X hP (v := nI rv) hV1.1 mF_X8_23 dX8_freshHolding_23 ?_
    refine pC_20_2 X hP hDw hSw mF_X8_19 dX8_freshHolding_26 (fun H locs hP hDw hSw => ?_)
    obtain ⟨τ1, hτ1⟩ : ∃ z : ln_S, z = (ln_up τ15 20 (upd (τ15 20) 0 (nI rv))) := ⟨_, rfl⟩
    rw [← hτ1] at hP hDw
    have hTT : ln_hT N τ1 := fun T h1 => by rw [hτ1, ln_up_n _ _ (by decide)]; exact q1 T h1
    refine lv_aload_n X.1 X.2.1 dX8_freshHolding_29 rfl (lv_at hl 0 rfl) ?_
    refine gC_20_1 X hP mF_X8_9 dX8_freshHolding_30 ?_
    subst hQ0
    exact ln_retF X hr hlk hP hSw (by first | exact ⟨himp h11, ⟨e0, he0, hle, himp⟩, fun c _ _ => rfl⟩ | exact ⟨hTT, ⟨rv, by rw [hτ1, ln_up_s, ln_upd_s], Nat.le_refl _, fun _ => hTT⟩, fun c h1 h2 => by rw [hτ1, ln_up_n _ _ h1]; exact q2 c h2⟩) dX8_freshHolding_33
set_option maxHeartbeats 4000000 in
set_option maxRecDepth 100000 in
theorem c_X8_fewestHolding (l : Launch) (D : va_G) (g : Nat → ClassId) (a : Nat → Nat) (σ : ln_S) (d : Nat) (N : ln_N) (hW : ln_wf N) (hN : ln_nC N σ) (rv bv : Nat) (hV : ln_vs σ rv bv) (hHK : ln_hK N σ rv)  (hd : 6 ≤ d) : ln_U l D g (CW a g) yX8_fewestHolding (.code yX8_fewestHolding cX8_fewestHolding 5 (some .int)) d [.ref (a 20)] σ (fun z τ => z = nI (ln_gd N (2 ^ N 0 0)) ∧ ln_hK N τ rv ∧ ∀ c, c ≠ 20 → c ≠ 21 → τ c = σ c) := by
  have hN12 := hW.n12
  have hp12 := hW.p12
  have hs1 := ln_sub1 (N 0 0)
  refine ln_ofU (by decide +kernel) (Nat.le_of_ble_eq_true rfl) (fun prg env rum sta mid args below meth cod ls A hr hlk X hA hP hDw hSw hl => ?_)
  have hl : lv_has ls 5 [(0, .ref (a 20))] := hl
  generalize hQ0 : (MQ below (va_Qi (fun z τ => z = nI (ln_gd N (2 ^ N 0 0)) ∧ ln_hK N τ rv ∧ ∀ c, c ≠ 20 → c ≠ 21 → τ c = σ c) (fun τ t => va_P D ln_cl (CW a g τ) t.heap) A) args sta 0 0 A) = Q0
  obtain ⟨H, hH⟩ : ∃ H, H = sta.heap := ⟨_, rfl⟩
  obtain ⟨locs, hlo⟩ : ∃ x : List Loc, x = [] := ⟨_, rfl⟩
  rw [← hH] at hP
  have hSw : va_S A sta.heap H locs := by rw [hH, hlo]; exact hSw
  have goal : W prg l env rum sta mid args below meth cod H locs 0 0 Q0 (F0 mid 0 ls []) := ?_
  · rw [hH, hlo] at goal; exact goal
  clear hlo
  refine lv_aload_n X.1 X.2.1 dX8_fewestHolding_0 rfl (lv_at hl 0 rfl) ?_
  refine ln_vF X (CW_ad a g) hA (c_X8_freshHolding l D g a σ 5 N hW hN rv bv hV hHK (Nat.le_refl _)) hP hDw hSw 20 rfl rfl mM_X8_39 Y_X8_freshHolding rfl (by omega) hl.1 rfl (Nat.le_of_ble_eq_true rfl) dX8_fewestHolding_1 ⟨Nat.zero_le _, Nat.zero_le _⟩ (fun τ1 H locs hr1 hP hDw hSw => ?_)
  obtain ⟨hT, hHK, hfh⟩ := hr1
  have hN : ln_nC N τ1 := hN.of (fun c hc => hfh c (by omega) (by omega))
  refine lv_astore_n (lv' := [(1, .ref (a 21)), (0, .ref (a 20))]) X.1 X.2.1 dX8_fewestHolding_4 rfl hl (by decide) rfl (fun ls hl => ?_)
  refine lv_aload_n X.1 X.2.1 dX8_fewestHolding_5 rfl (lv_at hl 1 rfl) ?_
  refine gC_20_0 X hP mF_X8_15 dX8_fewestHolding_6 ?_
  refine ln_vR X (c_X4_allPosts l D g a τ1 0 N hW hN (Nat.le_refl _)) hP 1 rfl rfl mM_X8_31 Y_X4_allPosts rfl (by omega) hl.1 rfl (Nat.le_of_ble_eq_true rfl) dX8_fewestHolding_9 ⟨Nat.zero_le _, Nat.zero_le _⟩ (fun r9 hr9 => ?_)
  subst hr9
  refine lv_istore_n (lv' := [(2, .int (nI (2 ^ N 0 0 - 1))), (1, .ref (a 21)), (0, .ref (a 20))]) X.1 X.2.1 dX8_fewestHolding_12 rfl hl (by decide) rfl (fun ls hl => ?_)
  refine lv_aload_n X.1 X.2.1 dX8_fewestHolding_13 rfl (lv_at hl 2 rfl) ?_
  refine gC_20_0 X hP mF_X8_15 dX8_fewestHolding_14 ?_
  refine nC_1_0 X hP (v := nI (N 0 0)) hN.n mF_X8_43 dX8_fewestHolding_17 ?_
  refine lv_istore_n (lv' := [(3, .int (nI (N 0 0))), (2, .int (nI (2 ^ N 0 0 - 1))), (1, .ref (a 21)), (0, .ref (a 20))]) X.1 X.2.1 dX8_fewestHolding_20 rfl hl (by decide) rfl (fun ls hl => ?_)
  refine lv_iconst (v := nI 0) X.1 X.2.1 dX8_fewestHolding_21 (by decide) ?_
  refine lv_istore (lv' := [(4, .int (nI 0)), (3, .int (nI (N 0 0))), (2, .int (nI (2 ^ N 0 0 - 1))), (1, .ref (a 21)), (0, .ref (a 20))]) X.1 X.2.1 dX8_fewestHolding_22 hl (by decide) rfl (fun ls hl => ?_)
  have L24 : ∀ (K : Nat) (k : Nat) (v : Nat), 2 ^ N 0 0 - k < K → (k ≤ 2 ^ N 0 0) → (v = ln_gd N k) → (v ≤ 12) → ∀ ls : Array Slot, lv_has ls 5 [(0, .ref (a 20)), (1, .ref (a 21)), (2, .int (nI (2 ^ N 0 0 - 1))), (3, .int (nI v)), (4, .int (nI k))] → W prg l env rum sta mid args below meth cod H locs 0 0 Q0 (F0 mid 24 ls []) := by
    intro K
    induction K with
    | zero => intro k v hm; exact absurd hm (Nat.not_lt_zero _)
    | succ K ih24 =>
      intro k v hm24 hk hv hv12 ls hl
      refine lv_iload X.1 X.2.1 dX8_fewestHolding_24 (lv_at hl 4 rfl) ?_
      refine lv_iload_n X.1 X.2.1 dX8_fewestHolding_26 rfl (lv_at hl 2 rfl) ?_
      refine rn_gt X (by omega) (ln_31 (Nat.lt_of_lt_of_le (Nat.sub_lt (ln_pos2 _) (by decide)) hp12)) (tgt := 53) dX8_fewestHolding_27 (by decide) (fun h27 => ?_) (fun h27 => ?_)
      · skip
        refine lv_iload_n X.1 X.2.1 dX8_fewestHolding_53 rfl (lv_at hl 3 rfl) ?_
        subst hQ0
        exact ln_retU X hr hlk hP hSw rfl ⟨by rw [hv, show k = 2 ^ N 0 0 by omega], hHK, hfh⟩ dX8_fewestHolding_54
      · skip
        refine lv_aload_n X.1 X.2.1 dX8_fewestHolding_30 rfl (lv_at hl 1 rfl) ?_
        refine lv_iload X.1 X.2.1 dX8_fewestHolding_31 (lv_at hl 4 rfl) ?_
        refine lC_21 X hP (by omega) (v := ln_b (ln_hd N k)) (hT k (by omega)) dX8_fewestHolding_33 ?_
        refine rn_eqB X (tgt := 47) dX8_fewestHolding_34 (by decide) (fun h34 => ?_) (fun h34 => ?_)
        · skip
          refine lv_iinc (v := nI (k + 1)) (lv' := [(4, .int (nI (k + 1))), (0, .ref (a 20)), (1, .ref (a 21)), (2, .int (nI (2 ^ N 0 0 - 1))), (3, .int (nI v))]) X.1 X.2.1 dX8_fewestHolding_47 hl (k := 4) rfl rn_inc (by decide) rfl (fun ls hl => ?_)
          refine lv_goto (tgt := 24) X.1 X.2.1 dX8_fewestHolding_50 (by decide) ?_
          exact ih24 (k + 1) _ (by omega) (by omega) (by first | (rw [ln_gd_f h34]; exact hv) | (rw [ln_gd_t h34, hv])) (by omega) ls (lv_sub hl [1, 2, 3, 4, 0] rfl)
        · skip
          refine lv_iload_n X.1 X.2.1 dX8_fewestHolding_37 rfl (lv_at hl 3 rfl) ?_
          refine lv_iload X.1 X.2.1 dX8_fewestHolding_38 (lv_at hl 4 rfl) ?_
          refine ln_sR X (c_J6_bitCount_0f7a4 l D g 0 k (show k < 4096 by omega) (Nat.le_refl _)) ln_nil mM_X8_46 Y_J6_bitCount_0f7a4 rfl (by omega) hl.1 rfl (Nat.le_of_ble_eq_true rfl) dX8_fewestHolding_40 ⟨Nat.zero_le _, Nat.zero_le _⟩ (fun r40 hr40 => ?_)
          subst hr40
          refine rn_min X (by omega) (by omega) (ln_31 (Nat.lt_of_le_of_lt (ln_pc_le _) (by decide))) (Nat.le_of_ble_eq_true rfl) hl.1 mM_X8_52 (Nat.zero_le _) (Nat.zero_le _) dX8_fewestHolding_43 ?_
          refine lv_istore_n (lv' := [(3, .int (nI (min v (ln_pc k)))), (0, .ref (a 20)), (1, .ref (a 21)), (2, .int (nI (2 ^ N 0 0 - 1))), (4, .int (nI k))]) X.1 X.2.1 dX8_fewestHolding_46 rfl hl (by decide) rfl (fun ls hl => ?_)
          refine lv_iinc (v := nI (k + 1)) (lv' := [(4, .int (nI (k + 1))), (3, .int (nI (min v (ln_pc k)))), (0, .ref (a 20)), (1, .ref (a 21)), (2, .int (nI (2 ^ N 0 0 - 1)))]) X.1 X.2.1 dX8_fewestHolding_47 hl (k := 4) rfl rn_inc (by decide) rfl (fun ls hl => ?_)
          refine lv_goto (tgt := 24) X.1 X.2.1 dX8_fewestHolding_50 (by decide) ?_
          exact ih24 (k + 1) _ (by omega) (by omega) (by first | (rw [ln_gd_f h34]; exact hv) | (rw [ln_gd_t h34, hv])) (by omega) ls (lv_sub hl [2, 3, 4, 1, 0] rfl)
  exact L24 _ 0 _ (Nat.lt_succ_self _) (Nat.zero_le _) rfl hN12 ls (lv_sub hl [4, 3, 2, 1, 0] rfl)
set_option maxHeartbeats 4000000 in
set_option maxRecDepth 100000 in
theorem c_X8_answerFrom (l : Launch) (D : va_G) (g : Nat → ClassId) (a : Nat → Nat) (σ : ln_S) (d : Nat) (N : ln_N) (hW : ln_wf N) (hN : ln_nC N σ) (rv bv : Nat) (hV : ln_vs σ rv bv) (hHK : ln_hK N σ rv) (S p : Nat) (hS : S < 2 ^ N 0 0) (hp : p < N 0 0) (hd : 6 ≤ d) : ln_U l D g (CW a g) yX8_answerFrom (.code yX8_answerFrom cX8_answerFrom 4 (some .int)) d [.ref (a 20), .int (nI S), .int (nI p)] σ (fun z τ => z = ln_af N S p ∧ ln_hK N τ rv ∧ ∀ c, c ≠ 20 → c ≠ 21 → τ c = σ c) := by
  have hN12 := hW.n12
  have hp12 := hW.p12
  have hs1 := ln_sub1 (N 0 0)
  refine ln_ofU (by decide +kernel) (Nat.le_of_ble_eq_true rfl) (fun prg env rum sta mid args below meth cod ls A hr hlk X hA hP hDw hSw hl => ?_)
  have hl : lv_has ls 4 [(0, .ref (a 20)), (1, .int (nI S)), (2, .int (nI p))] := hl
  generalize hQ0 : (MQ below (va_Qi (fun z τ => z = ln_af N S p ∧ ln_hK N τ rv ∧ ∀ c, c ≠ 20 → c ≠ 21 → τ c = σ c) (fun τ t => va_P D ln_cl (CW a g τ) t.heap) A) args sta 0 0 A) = Q0
  obtain ⟨H, hH⟩ : ∃ H, H = sta.heap := ⟨_, rfl⟩
  obtain ⟨locs, hlo⟩ : ∃ x : List Loc, x = [] := ⟨_, rfl⟩
  rw [← hH] at hP
  have hSw : va_S A sta.heap H locs := by rw [hH, hlo]; exact hSw
  have goal : W prg l env rum sta mid args below meth cod H locs 0 0 Q0 (F0 mid 0 ls []) := ?_
  · rw [hH, hlo] at goal; exact goal
  clear hlo
  refine lv_aload_n X.1 X.2.1 dX8_answerFrom_0 rfl (lv_at hl 0 rfl) ?_
  refine ln_vF X (CW_ad a g) hA (c_X8_freshHolding l D g a σ 5 N hW hN rv bv hV hHK (Nat.le_refl _)) hP hDw hSw 20 rfl rfl mM_X8_39 Y_X8_freshHolding rfl (by omega) hl.1 rfl (Nat.le_of_ble_eq_true rfl) dX8_answerFrom_1 ⟨Nat.zero_le _, Nat.zero_le _⟩ (fun τ1 H locs hr1 hP hDw hSw => ?_)
  obtain ⟨hT, hHK, hfh⟩ := hr1
  have hN : ln_nC N τ1 := hN.of (fun c hc => hfh c (by omega) (by omega))
  refine lv_iload_n X.1 X.2.1 dX8_answerFrom_4 rfl (lv_at hl 1 rfl) ?_
  refine lC_21 X hP (ln_n12 hW hS) (v := ln_b (ln_hd N S)) (hT S hS) dX8_answerFrom_5 ?_
  refine lv_istore_n (lv' := [(3, .int (ln_b (ln_hd N S))), (0, .ref (a 20)), (1, .int (nI S)), (2, .int (nI p))]) X.1 X.2.1 dX8_answerFrom_6 rfl hl (by decide) rfl (fun ls hl => ?_)
  refine lv_iload_n X.1 X.2.1 dX8_answerFrom_7 rfl (lv_at hl 2 rfl) ?_
  refine lv_iload_n X.1 X.2.1 dX8_answerFrom_8 rfl (lv_at hl 3 rfl) ?_
  refine ln_nR X (c_X9_hasPost l D g 0 S p (ln_31 (ln_n12 hW hS)) (by omega) (Nat.le_refl _)) ln_nil mM_X8_58 Y_X9_hasPost rfl (by omega) hl.1 rfl (Nat.le_of_ble_eq_true rfl) dX8_answerFrom_9 ⟨Nat.zero_le _, Nat.zero_le _⟩ (fun r9 hr9 => ?_)
  subst hr9
  refine rn_neB X (tgt := 19) dX8_answerFrom_12 (by decide) (fun h12 => ?_) (fun h12 => ?_)
  · skip
    refine lv_iconst (v := ((-1))) X.1 X.2.1 dX8_answerFrom_19 (by decide) ?_
    refine lv_goto (tgt := 29) X.1 X.2.1 dX8_answerFrom_20 (by decide) ?_
    subst hQ0
    exact ln_retU X hr hlk hP hSw rfl ⟨by unfold ln_af; first | rw [if_pos (Or.inl h12)] | rw [if_pos (Or.inr h16)] | rw [if_neg (fun q => q.elim (fun z => by rw [h12] at z; exact absurd z (by decide)) (fun z => by rw [h16] at z; exact absurd z (by decide)))], hHK, hfh⟩ dX8_answerFrom_29
  · skip
    refine lv_iload_n X.1 X.2.1 dX8_answerFrom_15 rfl (lv_at hl 0 rfl) ?_
    refine rn_neB X (tgt := 23) dX8_answerFrom_16 (by decide) (fun h16 => ?_) (fun h16 => ?_)
    · skip
      refine lv_aload_n X.1 X.2.1 dX8_answerFrom_23 rfl (lv_at hl 1 rfl) ?_
      refine lv_iload_n X.1 X.2.1 dX8_answerFrom_24 rfl (lv_at hl 2 rfl) ?_
      refine lv_iload_n X.1 X.2.1 dX8_answerFrom_25 rfl (lv_at hl 3 rfl) ?_
      refine ln_vR X (c_X8_leastAnswer l D g a τ1 1 N hW hN (ln_hd N) hT S p hS hp (Nat.le_refl _)) hP 20 rfl rfl mM_X8_62 Y_X8_leastAnswer rfl (by omega) hl.1 rfl (Nat.le_of_ble_eq_true rfl) dX8_answerFrom_26 ⟨Nat.zero_le _, Nat.zero_le _⟩ (fun r26 hr26 => ?_)
      subst hr26
      subst hQ0
      exact ln_retU X hr hlk hP hSw rfl ⟨by unfold ln_af; first | rw [if_pos (Or.inl h12)] | rw [if_pos (Or.inr h16)] | rw [if_neg (fun q => q.elim (fun z => by rw [h12] at z; exact absurd z (by decide)) (fun z => by rw [h16] at z; exact absurd z (by decide)))], hHK, hfh⟩ dX8_answerFrom_29
    · skip
      refine lv_iconst (v := ((-1))) X.1 X.2.1 dX8_answerFrom_19 (by decide) ?_
      refine lv_goto (tgt := 29) X.1 X.2.1 dX8_answerFrom_20 (by decide) ?_
      subst hQ0
      exact ln_retU X hr hlk hP hSw rfl ⟨by unfold ln_af; first | rw [if_pos (Or.inl h12)] | rw [if_pos (Or.inr h16)] | rw [if_neg (fun q => q.elim (fun z => by rw [h12] at z; exact absurd z (by decide)) (fun z => by rw [h16] at z; exact absurd z (by decide)))], hHK, hfh⟩ dX8_answerFrom_29
